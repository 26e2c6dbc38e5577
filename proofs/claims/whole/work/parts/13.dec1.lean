/-! decode rows: by program -/
theorem dX2_init_0 : decode cX2_init 0 = .ok (.aload_n 0, 1) := by decide +kernel
theorem dX2_init_1 : decode cX2_init 1 = .ok (.invokespecial 3, 3) := by decide +kernel
theorem dX2_init_4 : decode cX2_init 4 = .ok (.aload_n 0, 1) := by decide +kernel
theorem dX2_init_5 : decode cX2_init 5 = .ok (.bipush 50, 2) := by decide +kernel
theorem dX2_init_7 : decode cX2_init 7 = .ok (.newarray .int, 2) := by decide +kernel
theorem dX2_init_9 : decode cX2_init 9 = .ok (.putfield 9, 3) := by decide +kernel
theorem dX2_init_12 : decode cX2_init 12 = .ok (.aload_n 0, 1) := by decide +kernel
theorem dX2_init_13 : decode cX2_init 13 = .ok (.bipush 50, 2) := by decide +kernel
theorem dX2_init_15 : decode cX2_init 15 = .ok (.newarray .int, 2) := by decide +kernel
theorem dX2_init_17 : decode cX2_init 17 = .ok (.putfield 15, 3) := by decide +kernel
theorem dX2_init_20 : decode cX2_init 20 = .ok (.aload_n 0, 1) := by decide +kernel
theorem dX2_init_21 : decode cX2_init 21 = .ok (.bipush 50, 2) := by decide +kernel
theorem dX2_init_23 : decode cX2_init 23 = .ok (.newarray .int, 2) := by decide +kernel
theorem dX2_init_25 : decode cX2_init 25 = .ok (.putfield 18, 3) := by decide +kernel
theorem dX2_init_28 : decode cX2_init 28 = .ok (.aload_n 0, 1) := by decide +kernel
theorem dX2_init_29 : decode cX2_init 29 = .ok (.bipush 12, 2) := by decide +kernel
theorem dX2_init_31 : decode cX2_init 31 = .ok (.bipush 12, 2) := by decide +kernel
theorem dX2_init_33 : decode cX2_init 33 = .ok (.multianewarray 21 2, 4) := by decide +kernel
theorem dX2_init_37 : decode cX2_init 37 = .ok (.putfield 23, 3) := by decide +kernel
theorem dX2_init_40 : decode cX2_init 40 = .ok (.aload_n 0, 1) := by decide +kernel
theorem dX2_init_41 : decode cX2_init 41 = .ok (.bipush 12, 2) := by decide +kernel
theorem dX2_init_43 : decode cX2_init 43 = .ok (.newarray .int, 2) := by decide +kernel
theorem dX2_init_45 : decode cX2_init 45 = .ok (.putfield 26, 3) := by decide +kernel
theorem dX2_init_48 : decode cX2_init 48 = .ok (.aload_n 0, 1) := by decide +kernel
theorem dX2_init_49 : decode cX2_init 49 = .ok (.iconst 0, 1) := by decide +kernel
theorem dX2_init_50 : decode cX2_init 50 = .ok (.putfield 29, 3) := by decide +kernel
theorem dX2_init_53 : decode cX2_init 53 = .ok (.aload_n 0, 1) := by decide +kernel
theorem dX2_init_54 : decode cX2_init 54 = .ok (.iconst 0, 1) := by decide +kernel
theorem dX2_init_55 : decode cX2_init 55 = .ok (.putfield 33, 3) := by decide +kernel
theorem dX2_init_58 : decode cX2_init 58 = .ok (.aload_n 0, 1) := by decide +kernel
theorem dX2_init_59 : decode cX2_init 59 = .ok (.iconst 0, 1) := by decide +kernel
theorem dX2_init_60 : decode cX2_init 60 = .ok (.putfield 36, 3) := by decide +kernel
theorem dX2_init_63 : decode cX2_init 63 = .ok (.aload_n 0, 1) := by decide +kernel
theorem dX2_init_64 : decode cX2_init 64 = .ok (.iconst 0, 1) := by decide +kernel
theorem dX2_init_65 : decode cX2_init 65 = .ok (.putfield 39, 3) := by decide +kernel
theorem dX2_init_68 : decode cX2_init 68 = .ok (.return_, 1) := by decide +kernel
theorem dX2_hasNode_0 : decode cX2_hasNode 0 = .ok (.iload_n 1, 1) := by decide +kernel
theorem dX2_hasNode_1 : decode cX2_hasNode 1 = .ok (.ifCond .lt 15, 3) := by decide +kernel
theorem dX2_hasNode_4 : decode cX2_hasNode 4 = .ok (.iload_n 1, 1) := by decide +kernel
theorem dX2_hasNode_5 : decode cX2_hasNode 5 = .ok (.aload_n 0, 1) := by decide +kernel
theorem dX2_hasNode_6 : decode cX2_hasNode 6 = .ok (.getfield 29, 3) := by decide +kernel
theorem dX2_hasNode_9 : decode cX2_hasNode 9 = .ok (.if_icmp .ge 7, 3) := by decide +kernel
theorem dX2_hasNode_12 : decode cX2_hasNode 12 = .ok (.iconst 1, 1) := by decide +kernel
theorem dX2_hasNode_13 : decode cX2_hasNode 13 = .ok (.goto 4, 3) := by decide +kernel
theorem dX2_hasNode_16 : decode cX2_hasNode 16 = .ok (.iconst 0, 1) := by decide +kernel
theorem dX2_hasNode_17 : decode cX2_hasNode 17 = .ok (.ireturn, 1) := by decide +kernel
theorem dX2_hasPair_0 : decode cX2_hasPair 0 = .ok (.aload_n 0, 1) := by decide +kernel
theorem dX2_hasPair_1 : decode cX2_hasPair 1 = .ok (.iload_n 1, 1) := by decide +kernel
theorem dX2_hasPair_2 : decode cX2_hasPair 2 = .ok (.invokevirtual 42, 3) := by decide +kernel
theorem dX2_hasPair_5 : decode cX2_hasPair 5 = .ok (.ifCond .eq 20, 3) := by decide +kernel
theorem dX2_hasPair_8 : decode cX2_hasPair 8 = .ok (.aload_n 0, 1) := by decide +kernel
theorem dX2_hasPair_9 : decode cX2_hasPair 9 = .ok (.iload_n 2, 1) := by decide +kernel
theorem dX2_hasPair_10 : decode cX2_hasPair 10 = .ok (.invokevirtual 42, 3) := by decide +kernel
theorem dX2_hasPair_13 : decode cX2_hasPair 13 = .ok (.ifCond .eq 12, 3) := by decide +kernel
theorem dX2_hasPair_16 : decode cX2_hasPair 16 = .ok (.iload_n 1, 1) := by decide +kernel
theorem dX2_hasPair_17 : decode cX2_hasPair 17 = .ok (.iload_n 2, 1) := by decide +kernel
theorem dX2_hasPair_18 : decode cX2_hasPair 18 = .ok (.if_icmp .eq 7, 3) := by decide +kernel
theorem dX2_hasPair_21 : decode cX2_hasPair 21 = .ok (.iconst 1, 1) := by decide +kernel
theorem dX2_hasPair_22 : decode cX2_hasPair 22 = .ok (.goto 4, 3) := by decide +kernel
theorem dX2_hasPair_25 : decode cX2_hasPair 25 = .ok (.iconst 0, 1) := by decide +kernel
theorem dX2_hasPair_26 : decode cX2_hasPair 26 = .ok (.ireturn, 1) := by decide +kernel
theorem dX2_hasArc_0 : decode cX2_hasArc 0 = .ok (.iload_n 1, 1) := by decide +kernel
theorem dX2_hasArc_1 : decode cX2_hasArc 1 = .ok (.ifCond .lt 24, 3) := by decide +kernel
theorem dX2_hasArc_4 : decode cX2_hasArc 4 = .ok (.iload_n 1, 1) := by decide +kernel
theorem dX2_hasArc_5 : decode cX2_hasArc 5 = .ok (.aload_n 0, 1) := by decide +kernel
theorem dX2_hasArc_6 : decode cX2_hasArc 6 = .ok (.getfield 33, 3) := by decide +kernel
theorem dX2_hasArc_9 : decode cX2_hasArc 9 = .ok (.if_icmp .ge 16, 3) := by decide +kernel
theorem dX2_hasArc_12 : decode cX2_hasArc 12 = .ok (.aload_n 0, 1) := by decide +kernel
theorem dX2_hasArc_13 : decode cX2_hasArc 13 = .ok (.getfield 18, 3) := by decide +kernel
theorem dX2_hasArc_16 : decode cX2_hasArc 16 = .ok (.iload_n 1, 1) := by decide +kernel
theorem dX2_hasArc_17 : decode cX2_hasArc 17 = .ok (.iaload, 1) := by decide +kernel
theorem dX2_hasArc_18 : decode cX2_hasArc 18 = .ok (.ifCond .le 7, 3) := by decide +kernel
theorem dX2_hasArc_21 : decode cX2_hasArc 21 = .ok (.iconst 1, 1) := by decide +kernel
theorem dX2_hasArc_22 : decode cX2_hasArc 22 = .ok (.goto 4, 3) := by decide +kernel
theorem dX2_hasArc_25 : decode cX2_hasArc 25 = .ok (.iconst 0, 1) := by decide +kernel
theorem dX2_hasArc_26 : decode cX2_hasArc 26 = .ok (.ireturn, 1) := by decide +kernel
theorem dX2_hasSet_0 : decode cX2_hasSet 0 = .ok (.iload_n 1, 1) := by decide +kernel
theorem dX2_hasSet_1 : decode cX2_hasSet 1 = .ok (.ifCond .lt 15, 3) := by decide +kernel
theorem dX2_hasSet_4 : decode cX2_hasSet 4 = .ok (.iload_n 1, 1) := by decide +kernel
theorem dX2_hasSet_5 : decode cX2_hasSet 5 = .ok (.aload_n 0, 1) := by decide +kernel
theorem dX2_hasSet_6 : decode cX2_hasSet 6 = .ok (.invokevirtual 46, 3) := by decide +kernel
theorem dX2_hasSet_9 : decode cX2_hasSet 9 = .ok (.if_icmp .gt 7, 3) := by decide +kernel
theorem dX2_hasSet_12 : decode cX2_hasSet 12 = .ok (.iconst 1, 1) := by decide +kernel
theorem dX2_hasSet_13 : decode cX2_hasSet 13 = .ok (.goto 4, 3) := by decide +kernel
theorem dX2_hasSet_16 : decode cX2_hasSet 16 = .ok (.iconst 0, 1) := by decide +kernel
theorem dX2_hasSet_17 : decode cX2_hasSet 17 = .ok (.ireturn, 1) := by decide +kernel
theorem dX2_hasSides_0 : decode cX2_hasSides 0 = .ok (.aload_n 0, 1) := by decide +kernel
theorem dX2_hasSides_1 : decode cX2_hasSides 1 = .ok (.getfield 29, 3) := by decide +kernel
theorem dX2_hasSides_4 : decode cX2_hasSides 4 = .ok (.iconst 1, 1) := by decide +kernel
theorem dX2_hasSides_5 : decode cX2_hasSides 5 = .ok (.if_icmp .le 7, 3) := by decide +kernel
theorem dX2_hasSides_8 : decode cX2_hasSides 8 = .ok (.iconst 1, 1) := by decide +kernel
theorem dX2_hasSides_9 : decode cX2_hasSides 9 = .ok (.goto 4, 3) := by decide +kernel
theorem dX2_hasSides_12 : decode cX2_hasSides 12 = .ok (.iconst 0, 1) := by decide +kernel
theorem dX2_hasSides_13 : decode cX2_hasSides 13 = .ok (.ireturn, 1) := by decide +kernel
theorem dX2_areJoined_0 : decode cX2_areJoined 0 = .ok (.aload_n 0, 1) := by decide +kernel
theorem dX2_areJoined_1 : decode cX2_areJoined 1 = .ok (.getfield 23, 3) := by decide +kernel
theorem dX2_areJoined_4 : decode cX2_areJoined 4 = .ok (.iload_n 1, 1) := by decide +kernel
theorem dX2_areJoined_5 : decode cX2_areJoined 5 = .ok (.aaload, 1) := by decide +kernel
theorem dX2_areJoined_6 : decode cX2_areJoined 6 = .ok (.iload_n 2, 1) := by decide +kernel
theorem dX2_areJoined_7 : decode cX2_areJoined 7 = .ok (.iaload, 1) := by decide +kernel
theorem dX2_areJoined_8 : decode cX2_areJoined 8 = .ok (.ifCond .le 7, 3) := by decide +kernel
theorem dX2_areJoined_11 : decode cX2_areJoined 11 = .ok (.iconst 1, 1) := by decide +kernel
theorem dX2_areJoined_12 : decode cX2_areJoined 12 = .ok (.goto 4, 3) := by decide +kernel
theorem dX2_areJoined_15 : decode cX2_areJoined 15 = .ok (.iconst 0, 1) := by decide +kernel
theorem dX2_areJoined_16 : decode cX2_areJoined 16 = .ok (.ireturn, 1) := by decide +kernel
theorem dX2_allNodes_0 : decode cX2_allNodes 0 = .ok (.iconst 1, 1) := by decide +kernel
theorem dX2_allNodes_1 : decode cX2_allNodes 1 = .ok (.aload_n 0, 1) := by decide +kernel
theorem dX2_allNodes_2 : decode cX2_allNodes 2 = .ok (.getfield 29, 3) := by decide +kernel
theorem dX2_allNodes_5 : decode cX2_allNodes 5 = .ok (.ishl, 1) := by decide +kernel
theorem dX2_allNodes_6 : decode cX2_allNodes 6 = .ok (.iconst 1, 1) := by decide +kernel
theorem dX2_allNodes_7 : decode cX2_allNodes 7 = .ok (.isub, 1) := by decide +kernel
theorem dX2_allNodes_8 : decode cX2_allNodes 8 = .ok (.ireturn, 1) := by decide +kernel
theorem dX2_addNode_0 : decode cX2_addNode 0 = .ok (.aload_n 0, 1) := by decide +kernel
theorem dX2_addNode_1 : decode cX2_addNode 1 = .ok (.dup, 1) := by decide +kernel
theorem dX2_addNode_2 : decode cX2_addNode 2 = .ok (.getfield 39, 3) := by decide +kernel
theorem dX2_addNode_5 : decode cX2_addNode 5 = .ok (.iconst 1, 1) := by decide +kernel
theorem dX2_addNode_6 : decode cX2_addNode 6 = .ok (.iadd, 1) := by decide +kernel
theorem dX2_addNode_7 : decode cX2_addNode 7 = .ok (.putfield 39, 3) := by decide +kernel
theorem dX2_addNode_10 : decode cX2_addNode 10 = .ok (.aload_n 0, 1) := by decide +kernel
theorem dX2_addNode_11 : decode cX2_addNode 11 = .ok (.dup, 1) := by decide +kernel
theorem dX2_addNode_12 : decode cX2_addNode 12 = .ok (.getfield 29, 3) := by decide +kernel
theorem dX2_addNode_15 : decode cX2_addNode 15 = .ok (.iconst 1, 1) := by decide +kernel
theorem dX2_addNode_16 : decode cX2_addNode 16 = .ok (.iadd, 1) := by decide +kernel
theorem dX2_addNode_17 : decode cX2_addNode 17 = .ok (.putfield 29, 3) := by decide +kernel
theorem dX2_addNode_20 : decode cX2_addNode 20 = .ok (.aload_n 0, 1) := by decide +kernel
theorem dX2_addNode_21 : decode cX2_addNode 21 = .ok (.getfield 29, 3) := by decide +kernel
theorem dX2_addNode_24 : decode cX2_addNode 24 = .ok (.iconst 1, 1) := by decide +kernel
theorem dX2_addNode_25 : decode cX2_addNode 25 = .ok (.isub, 1) := by decide +kernel
theorem dX2_addNode_26 : decode cX2_addNode 26 = .ok (.ireturn, 1) := by decide +kernel
theorem dX2_addArc_0 : decode cX2_addArc 0 = .ok (.aload_n 0, 1) := by decide +kernel
theorem dX2_addArc_1 : decode cX2_addArc 1 = .ok (.getfield 33, 3) := by decide +kernel
theorem dX2_addArc_4 : decode cX2_addArc 4 = .ok (.istore 4, 2) := by decide +kernel
theorem dX2_addArc_6 : decode cX2_addArc 6 = .ok (.aload_n 0, 1) := by decide +kernel
theorem dX2_addArc_7 : decode cX2_addArc 7 = .ok (.getfield 9, 3) := by decide +kernel
theorem dX2_addArc_10 : decode cX2_addArc 10 = .ok (.iload 4, 2) := by decide +kernel
theorem dX2_addArc_12 : decode cX2_addArc 12 = .ok (.iload_n 1, 1) := by decide +kernel
theorem dX2_addArc_13 : decode cX2_addArc 13 = .ok (.iastore, 1) := by decide +kernel
theorem dX2_addArc_14 : decode cX2_addArc 14 = .ok (.aload_n 0, 1) := by decide +kernel
theorem dX2_addArc_15 : decode cX2_addArc 15 = .ok (.getfield 15, 3) := by decide +kernel
theorem dX2_addArc_18 : decode cX2_addArc 18 = .ok (.iload 4, 2) := by decide +kernel
theorem dX2_addArc_20 : decode cX2_addArc 20 = .ok (.iload_n 2, 1) := by decide +kernel
theorem dX2_addArc_21 : decode cX2_addArc 21 = .ok (.iastore, 1) := by decide +kernel
theorem dX2_addArc_22 : decode cX2_addArc 22 = .ok (.aload_n 0, 1) := by decide +kernel
theorem dX2_addArc_23 : decode cX2_addArc 23 = .ok (.getfield 18, 3) := by decide +kernel
theorem dX2_addArc_26 : decode cX2_addArc 26 = .ok (.iload 4, 2) := by decide +kernel
theorem dX2_addArc_28 : decode cX2_addArc 28 = .ok (.iload_n 3, 1) := by decide +kernel
theorem dX2_addArc_29 : decode cX2_addArc 29 = .ok (.iastore, 1) := by decide +kernel
theorem dX2_addArc_30 : decode cX2_addArc 30 = .ok (.aload_n 0, 1) := by decide +kernel
theorem dX2_addArc_31 : decode cX2_addArc 31 = .ok (.dup, 1) := by decide +kernel
theorem dX2_addArc_32 : decode cX2_addArc 32 = .ok (.getfield 33, 3) := by decide +kernel
theorem dX2_addArc_35 : decode cX2_addArc 35 = .ok (.iconst 1, 1) := by decide +kernel
theorem dX2_addArc_36 : decode cX2_addArc 36 = .ok (.iadd, 1) := by decide +kernel
theorem dX2_addArc_37 : decode cX2_addArc 37 = .ok (.putfield 33, 3) := by decide +kernel
theorem dX2_addArc_40 : decode cX2_addArc 40 = .ok (.aload_n 0, 1) := by decide +kernel
theorem dX2_addArc_41 : decode cX2_addArc 41 = .ok (.dup, 1) := by decide +kernel
theorem dX2_addArc_42 : decode cX2_addArc 42 = .ok (.getfield 36, 3) := by decide +kernel
theorem dX2_addArc_45 : decode cX2_addArc 45 = .ok (.iconst 1, 1) := by decide +kernel
theorem dX2_addArc_46 : decode cX2_addArc 46 = .ok (.iadd, 1) := by decide +kernel
theorem dX2_addArc_47 : decode cX2_addArc 47 = .ok (.putfield 36, 3) := by decide +kernel
theorem dX2_addArc_50 : decode cX2_addArc 50 = .ok (.aload_n 0, 1) := by decide +kernel
theorem dX2_addArc_51 : decode cX2_addArc 51 = .ok (.iload_n 1, 1) := by decide +kernel
theorem dX2_addArc_52 : decode cX2_addArc 52 = .ok (.iload_n 2, 1) := by decide +kernel
theorem dX2_addArc_53 : decode cX2_addArc 53 = .ok (.iload_n 3, 1) := by decide +kernel
theorem dX2_addArc_54 : decode cX2_addArc 54 = .ok (.invokevirtual 50, 3) := by decide +kernel
theorem dX2_addArc_57 : decode cX2_addArc 57 = .ok (.iload 4, 2) := by decide +kernel
theorem dX2_addArc_59 : decode cX2_addArc 59 = .ok (.ireturn, 1) := by decide +kernel
theorem dX2_removeArc_0 : decode cX2_removeArc 0 = .ok (.aload_n 0, 1) := by decide +kernel
theorem dX2_removeArc_1 : decode cX2_removeArc 1 = .ok (.aload_n 0, 1) := by decide +kernel
theorem dX2_removeArc_2 : decode cX2_removeArc 2 = .ok (.getfield 9, 3) := by decide +kernel
theorem dX2_removeArc_5 : decode cX2_removeArc 5 = .ok (.iload_n 1, 1) := by decide +kernel
theorem dX2_removeArc_6 : decode cX2_removeArc 6 = .ok (.iaload, 1) := by decide +kernel
theorem dX2_removeArc_7 : decode cX2_removeArc 7 = .ok (.aload_n 0, 1) := by decide +kernel
theorem dX2_removeArc_8 : decode cX2_removeArc 8 = .ok (.getfield 15, 3) := by decide +kernel
theorem dX2_removeArc_11 : decode cX2_removeArc 11 = .ok (.iload_n 1, 1) := by decide +kernel
theorem dX2_removeArc_12 : decode cX2_removeArc 12 = .ok (.iaload, 1) := by decide +kernel
theorem dX2_removeArc_13 : decode cX2_removeArc 13 = .ok (.aload_n 0, 1) := by decide +kernel
theorem dX2_removeArc_14 : decode cX2_removeArc 14 = .ok (.getfield 18, 3) := by decide +kernel
theorem dX2_removeArc_17 : decode cX2_removeArc 17 = .ok (.iload_n 1, 1) := by decide +kernel
theorem dX2_removeArc_18 : decode cX2_removeArc 18 = .ok (.iaload, 1) := by decide +kernel
theorem dX2_removeArc_19 : decode cX2_removeArc 19 = .ok (.ineg, 1) := by decide +kernel
theorem dX2_removeArc_20 : decode cX2_removeArc 20 = .ok (.invokevirtual 50, 3) := by decide +kernel
theorem dX2_removeArc_23 : decode cX2_removeArc 23 = .ok (.aload_n 0, 1) := by decide +kernel
theorem dX2_removeArc_24 : decode cX2_removeArc 24 = .ok (.getfield 18, 3) := by decide +kernel
theorem dX2_removeArc_27 : decode cX2_removeArc 27 = .ok (.iload_n 1, 1) := by decide +kernel
theorem dX2_removeArc_28 : decode cX2_removeArc 28 = .ok (.iconst 0, 1) := by decide +kernel
theorem dX2_removeArc_29 : decode cX2_removeArc 29 = .ok (.iastore, 1) := by decide +kernel
theorem dX2_removeArc_30 : decode cX2_removeArc 30 = .ok (.aload_n 0, 1) := by decide +kernel
theorem dX2_removeArc_31 : decode cX2_removeArc 31 = .ok (.dup, 1) := by decide +kernel
theorem dX2_removeArc_32 : decode cX2_removeArc 32 = .ok (.getfield 36, 3) := by decide +kernel
theorem dX2_removeArc_35 : decode cX2_removeArc 35 = .ok (.iconst 1, 1) := by decide +kernel
theorem dX2_removeArc_36 : decode cX2_removeArc 36 = .ok (.isub, 1) := by decide +kernel
theorem dX2_removeArc_37 : decode cX2_removeArc 37 = .ok (.putfield 36, 3) := by decide +kernel
theorem dX2_removeArc_40 : decode cX2_removeArc 40 = .ok (.aload_n 0, 1) := by decide +kernel
theorem dX2_removeArc_41 : decode cX2_removeArc 41 = .ok (.getfield 36, 3) := by decide +kernel
theorem dX2_removeArc_44 : decode cX2_removeArc 44 = .ok (.ireturn, 1) := by decide +kernel
theorem dX2_addBetween_0 : decode cX2_addBetween 0 = .ok (.aload_n 0, 1) := by decide +kernel
theorem dX2_addBetween_1 : decode cX2_addBetween 1 = .ok (.dup, 1) := by decide +kernel
theorem dX2_addBetween_2 : decode cX2_addBetween 2 = .ok (.getfield 39, 3) := by decide +kernel
theorem dX2_addBetween_5 : decode cX2_addBetween 5 = .ok (.iconst 1, 1) := by decide +kernel
theorem dX2_addBetween_6 : decode cX2_addBetween 6 = .ok (.iadd, 1) := by decide +kernel
theorem dX2_addBetween_7 : decode cX2_addBetween 7 = .ok (.putfield 39, 3) := by decide +kernel
theorem dX2_addBetween_10 : decode cX2_addBetween 10 = .ok (.aload_n 0, 1) := by decide +kernel
theorem dX2_addBetween_11 : decode cX2_addBetween 11 = .ok (.getfield 23, 3) := by decide +kernel
theorem dX2_addBetween_14 : decode cX2_addBetween 14 = .ok (.iload_n 1, 1) := by decide +kernel
theorem dX2_addBetween_15 : decode cX2_addBetween 15 = .ok (.aaload, 1) := by decide +kernel
theorem dX2_addBetween_16 : decode cX2_addBetween 16 = .ok (.iload_n 2, 1) := by decide +kernel
theorem dX2_addBetween_17 : decode cX2_addBetween 17 = .ok (.dup2, 1) := by decide +kernel
theorem dX2_addBetween_18 : decode cX2_addBetween 18 = .ok (.iaload, 1) := by decide +kernel
theorem dX2_addBetween_19 : decode cX2_addBetween 19 = .ok (.iload_n 3, 1) := by decide +kernel
theorem dX2_addBetween_20 : decode cX2_addBetween 20 = .ok (.iadd, 1) := by decide +kernel
theorem dX2_addBetween_21 : decode cX2_addBetween 21 = .ok (.iastore, 1) := by decide +kernel
theorem dX2_addBetween_22 : decode cX2_addBetween 22 = .ok (.aload_n 0, 1) := by decide +kernel
theorem dX2_addBetween_23 : decode cX2_addBetween 23 = .ok (.getfield 23, 3) := by decide +kernel
theorem dX2_addBetween_26 : decode cX2_addBetween 26 = .ok (.iload_n 2, 1) := by decide +kernel
theorem dX2_addBetween_27 : decode cX2_addBetween 27 = .ok (.aaload, 1) := by decide +kernel
theorem dX2_addBetween_28 : decode cX2_addBetween 28 = .ok (.iload_n 1, 1) := by decide +kernel
theorem dX2_addBetween_29 : decode cX2_addBetween 29 = .ok (.dup2, 1) := by decide +kernel
theorem dX2_addBetween_30 : decode cX2_addBetween 30 = .ok (.iaload, 1) := by decide +kernel
theorem dX2_addBetween_31 : decode cX2_addBetween 31 = .ok (.iload_n 3, 1) := by decide +kernel
theorem dX2_addBetween_32 : decode cX2_addBetween 32 = .ok (.iadd, 1) := by decide +kernel
theorem dX2_addBetween_33 : decode cX2_addBetween 33 = .ok (.iastore, 1) := by decide +kernel
theorem dX2_addBetween_34 : decode cX2_addBetween 34 = .ok (.aload_n 0, 1) := by decide +kernel
theorem dX2_addBetween_35 : decode cX2_addBetween 35 = .ok (.iload_n 1, 1) := by decide +kernel
theorem dX2_addBetween_36 : decode cX2_addBetween 36 = .ok (.iload_n 2, 1) := by decide +kernel
theorem dX2_addBetween_37 : decode cX2_addBetween 37 = .ok (.invokevirtual 54, 3) := by decide +kernel
theorem dX2_addBetween_40 : decode cX2_addBetween 40 = .ok (.ifCond .eq 30, 3) := by decide +kernel
theorem dX2_addBetween_43 : decode cX2_addBetween 43 = .ok (.aload_n 0, 1) := by decide +kernel
theorem dX2_addBetween_44 : decode cX2_addBetween 44 = .ok (.getfield 26, 3) := by decide +kernel
theorem dX2_addBetween_47 : decode cX2_addBetween 47 = .ok (.iload_n 1, 1) := by decide +kernel
theorem dX2_addBetween_48 : decode cX2_addBetween 48 = .ok (.dup2, 1) := by decide +kernel
theorem dX2_addBetween_49 : decode cX2_addBetween 49 = .ok (.iaload, 1) := by decide +kernel
theorem dX2_addBetween_50 : decode cX2_addBetween 50 = .ok (.iconst 1, 1) := by decide +kernel
theorem dX2_addBetween_51 : decode cX2_addBetween 51 = .ok (.iload_n 2, 1) := by decide +kernel
theorem dX2_addBetween_52 : decode cX2_addBetween 52 = .ok (.ishl, 1) := by decide +kernel
theorem dX2_addBetween_53 : decode cX2_addBetween 53 = .ok (.ior, 1) := by decide +kernel
theorem dX2_addBetween_54 : decode cX2_addBetween 54 = .ok (.iastore, 1) := by decide +kernel
theorem dX2_addBetween_55 : decode cX2_addBetween 55 = .ok (.aload_n 0, 1) := by decide +kernel
theorem dX2_addBetween_56 : decode cX2_addBetween 56 = .ok (.getfield 26, 3) := by decide +kernel
theorem dX2_addBetween_59 : decode cX2_addBetween 59 = .ok (.iload_n 2, 1) := by decide +kernel
theorem dX2_addBetween_60 : decode cX2_addBetween 60 = .ok (.dup2, 1) := by decide +kernel
theorem dX2_addBetween_61 : decode cX2_addBetween 61 = .ok (.iaload, 1) := by decide +kernel
theorem dX2_addBetween_62 : decode cX2_addBetween 62 = .ok (.iconst 1, 1) := by decide +kernel
theorem dX2_addBetween_63 : decode cX2_addBetween 63 = .ok (.iload_n 1, 1) := by decide +kernel
theorem dX2_addBetween_64 : decode cX2_addBetween 64 = .ok (.ishl, 1) := by decide +kernel
theorem dX2_addBetween_65 : decode cX2_addBetween 65 = .ok (.ior, 1) := by decide +kernel
theorem dX2_addBetween_66 : decode cX2_addBetween 66 = .ok (.iastore, 1) := by decide +kernel
theorem dX2_addBetween_67 : decode cX2_addBetween 67 = .ok (.goto 31, 3) := by decide +kernel
theorem dX2_addBetween_70 : decode cX2_addBetween 70 = .ok (.aload_n 0, 1) := by decide +kernel
theorem dX2_addBetween_71 : decode cX2_addBetween 71 = .ok (.getfield 26, 3) := by decide +kernel
theorem dX2_addBetween_74 : decode cX2_addBetween 74 = .ok (.iload_n 1, 1) := by decide +kernel
theorem dX2_addBetween_75 : decode cX2_addBetween 75 = .ok (.dup2, 1) := by decide +kernel
theorem dX2_addBetween_76 : decode cX2_addBetween 76 = .ok (.iaload, 1) := by decide +kernel
theorem dX2_addBetween_77 : decode cX2_addBetween 77 = .ok (.iconst 1, 1) := by decide +kernel
theorem dX2_addBetween_78 : decode cX2_addBetween 78 = .ok (.iload_n 2, 1) := by decide +kernel
theorem dX2_addBetween_79 : decode cX2_addBetween 79 = .ok (.ishl, 1) := by decide +kernel
theorem dX2_addBetween_80 : decode cX2_addBetween 80 = .ok (.iconst (-1), 1) := by decide +kernel
theorem dX2_addBetween_81 : decode cX2_addBetween 81 = .ok (.ixor, 1) := by decide +kernel
theorem dX2_addBetween_82 : decode cX2_addBetween 82 = .ok (.iand, 1) := by decide +kernel
theorem dX2_addBetween_83 : decode cX2_addBetween 83 = .ok (.iastore, 1) := by decide +kernel
theorem dX2_addBetween_84 : decode cX2_addBetween 84 = .ok (.aload_n 0, 1) := by decide +kernel
theorem dX2_addBetween_85 : decode cX2_addBetween 85 = .ok (.getfield 26, 3) := by decide +kernel
theorem dX2_addBetween_88 : decode cX2_addBetween 88 = .ok (.iload_n 2, 1) := by decide +kernel
theorem dX2_addBetween_89 : decode cX2_addBetween 89 = .ok (.dup2, 1) := by decide +kernel
theorem dX2_addBetween_90 : decode cX2_addBetween 90 = .ok (.iaload, 1) := by decide +kernel
theorem dX2_addBetween_91 : decode cX2_addBetween 91 = .ok (.iconst 1, 1) := by decide +kernel
theorem dX2_addBetween_92 : decode cX2_addBetween 92 = .ok (.iload_n 1, 1) := by decide +kernel
theorem dX2_addBetween_93 : decode cX2_addBetween 93 = .ok (.ishl, 1) := by decide +kernel
theorem dX2_addBetween_94 : decode cX2_addBetween 94 = .ok (.iconst (-1), 1) := by decide +kernel
theorem dX2_addBetween_95 : decode cX2_addBetween 95 = .ok (.ixor, 1) := by decide +kernel
theorem dX2_addBetween_96 : decode cX2_addBetween 96 = .ok (.iand, 1) := by decide +kernel
theorem dX2_addBetween_97 : decode cX2_addBetween 97 = .ok (.iastore, 1) := by decide +kernel
theorem dX2_addBetween_98 : decode cX2_addBetween 98 = .ok (.return_, 1) := by decide +kernel
theorem dX2_removeAll_0 : decode cX2_removeAll 0 = .ok (.aload_n 0, 1) := by decide +kernel
theorem dX2_removeAll_1 : decode cX2_removeAll 1 = .ok (.getfield 29, 3) := by decide +kernel
theorem dX2_removeAll_4 : decode cX2_removeAll 4 = .ok (.istore_n 1, 1) := by decide +kernel
theorem dX2_removeAll_5 : decode cX2_removeAll 5 = .ok (.iconst 0, 1) := by decide +kernel
theorem dX2_removeAll_6 : decode cX2_removeAll 6 = .ok (.istore_n 2, 1) := by decide +kernel
theorem dX2_removeAll_7 : decode cX2_removeAll 7 = .ok (.iload_n 2, 1) := by decide +kernel
theorem dX2_removeAll_8 : decode cX2_removeAll 8 = .ok (.bipush 12, 2) := by decide +kernel
theorem dX2_removeAll_10 : decode cX2_removeAll 10 = .ok (.if_icmp .ge 39, 3) := by decide +kernel
theorem dX2_removeAll_13 : decode cX2_removeAll 13 = .ok (.aload_n 0, 1) := by decide +kernel
theorem dX2_removeAll_14 : decode cX2_removeAll 14 = .ok (.getfield 26, 3) := by decide +kernel
theorem dX2_removeAll_17 : decode cX2_removeAll 17 = .ok (.iload_n 2, 1) := by decide +kernel
theorem dX2_removeAll_18 : decode cX2_removeAll 18 = .ok (.iconst 0, 1) := by decide +kernel
theorem dX2_removeAll_19 : decode cX2_removeAll 19 = .ok (.iastore, 1) := by decide +kernel
theorem dX2_removeAll_20 : decode cX2_removeAll 20 = .ok (.iconst 0, 1) := by decide +kernel
theorem dX2_removeAll_21 : decode cX2_removeAll 21 = .ok (.istore_n 3, 1) := by decide +kernel
theorem dX2_removeAll_22 : decode cX2_removeAll 22 = .ok (.iload_n 3, 1) := by decide +kernel
theorem dX2_removeAll_23 : decode cX2_removeAll 23 = .ok (.bipush 12, 2) := by decide +kernel
theorem dX2_removeAll_25 : decode cX2_removeAll 25 = .ok (.if_icmp .ge 18, 3) := by decide +kernel
theorem dX2_removeAll_28 : decode cX2_removeAll 28 = .ok (.aload_n 0, 1) := by decide +kernel
theorem dX2_removeAll_29 : decode cX2_removeAll 29 = .ok (.getfield 23, 3) := by decide +kernel
theorem dX2_removeAll_32 : decode cX2_removeAll 32 = .ok (.iload_n 2, 1) := by decide +kernel
theorem dX2_removeAll_33 : decode cX2_removeAll 33 = .ok (.aaload, 1) := by decide +kernel
theorem dX2_removeAll_34 : decode cX2_removeAll 34 = .ok (.iload_n 3, 1) := by decide +kernel
theorem dX2_removeAll_35 : decode cX2_removeAll 35 = .ok (.iconst 0, 1) := by decide +kernel
theorem dX2_removeAll_36 : decode cX2_removeAll 36 = .ok (.iastore, 1) := by decide +kernel
theorem dX2_removeAll_37 : decode cX2_removeAll 37 = .ok (.iinc 3 1, 3) := by decide +kernel
theorem dX2_removeAll_40 : decode cX2_removeAll 40 = .ok (.goto (-18), 3) := by decide +kernel
theorem dX2_removeAll_43 : decode cX2_removeAll 43 = .ok (.iinc 2 1, 3) := by decide +kernel
theorem dX2_removeAll_46 : decode cX2_removeAll 46 = .ok (.goto (-39), 3) := by decide +kernel
theorem dX2_removeAll_49 : decode cX2_removeAll 49 = .ok (.aload_n 0, 1) := by decide +kernel
theorem dX2_removeAll_50 : decode cX2_removeAll 50 = .ok (.iconst 0, 1) := by decide +kernel
theorem dX2_removeAll_51 : decode cX2_removeAll 51 = .ok (.putfield 29, 3) := by decide +kernel
theorem dX2_removeAll_54 : decode cX2_removeAll 54 = .ok (.aload_n 0, 1) := by decide +kernel
theorem dX2_removeAll_55 : decode cX2_removeAll 55 = .ok (.iconst 0, 1) := by decide +kernel
theorem dX2_removeAll_56 : decode cX2_removeAll 56 = .ok (.putfield 33, 3) := by decide +kernel
theorem dX2_removeAll_59 : decode cX2_removeAll 59 = .ok (.aload_n 0, 1) := by decide +kernel
theorem dX2_removeAll_60 : decode cX2_removeAll 60 = .ok (.iconst 0, 1) := by decide +kernel
theorem dX2_removeAll_61 : decode cX2_removeAll 61 = .ok (.putfield 36, 3) := by decide +kernel
theorem dX2_removeAll_64 : decode cX2_removeAll 64 = .ok (.aload_n 0, 1) := by decide +kernel
theorem dX2_removeAll_65 : decode cX2_removeAll 65 = .ok (.dup, 1) := by decide +kernel
theorem dX2_removeAll_66 : decode cX2_removeAll 66 = .ok (.getfield 39, 3) := by decide +kernel
theorem dX2_removeAll_69 : decode cX2_removeAll 69 = .ok (.iconst 1, 1) := by decide +kernel
theorem dX2_removeAll_70 : decode cX2_removeAll 70 = .ok (.iadd, 1) := by decide +kernel
theorem dX2_removeAll_71 : decode cX2_removeAll 71 = .ok (.putfield 39, 3) := by decide +kernel
theorem dX2_removeAll_74 : decode cX2_removeAll 74 = .ok (.iload_n 1, 1) := by decide +kernel
theorem dX2_removeAll_75 : decode cX2_removeAll 75 = .ok (.ireturn, 1) := by decide +kernel
theorem dX2_cutAround_0 : decode cX2_cutAround 0 = .ok (.iconst 0, 1) := by decide +kernel
theorem dX2_cutAround_1 : decode cX2_cutAround 1 = .ok (.istore_n 2, 1) := by decide +kernel
theorem dX2_cutAround_2 : decode cX2_cutAround 2 = .ok (.iconst 0, 1) := by decide +kernel
theorem dX2_cutAround_3 : decode cX2_cutAround 3 = .ok (.istore_n 3, 1) := by decide +kernel
theorem dX2_cutAround_4 : decode cX2_cutAround 4 = .ok (.iload_n 3, 1) := by decide +kernel
theorem dX2_cutAround_5 : decode cX2_cutAround 5 = .ok (.aload_n 0, 1) := by decide +kernel
theorem dX2_cutAround_6 : decode cX2_cutAround 6 = .ok (.getfield 33, 3) := by decide +kernel
theorem dX2_cutAround_9 : decode cX2_cutAround 9 = .ok (.if_icmp .ge 41, 3) := by decide +kernel
theorem dX2_cutAround_12 : decode cX2_cutAround 12 = .ok (.iload_n 1, 1) := by decide +kernel
theorem dX2_cutAround_13 : decode cX2_cutAround 13 = .ok (.aload_n 0, 1) := by decide +kernel
theorem dX2_cutAround_14 : decode cX2_cutAround 14 = .ok (.getfield 9, 3) := by decide +kernel
theorem dX2_cutAround_17 : decode cX2_cutAround 17 = .ok (.iload_n 3, 1) := by decide +kernel
theorem dX2_cutAround_18 : decode cX2_cutAround 18 = .ok (.iaload, 1) := by decide +kernel
theorem dX2_cutAround_19 : decode cX2_cutAround 19 = .ok (.ishr, 1) := by decide +kernel
theorem dX2_cutAround_20 : decode cX2_cutAround 20 = .ok (.iconst 1, 1) := by decide +kernel
theorem dX2_cutAround_21 : decode cX2_cutAround 21 = .ok (.iand, 1) := by decide +kernel
theorem dX2_cutAround_22 : decode cX2_cutAround 22 = .ok (.iload_n 1, 1) := by decide +kernel
theorem dX2_cutAround_23 : decode cX2_cutAround 23 = .ok (.aload_n 0, 1) := by decide +kernel
theorem dX2_cutAround_24 : decode cX2_cutAround 24 = .ok (.getfield 15, 3) := by decide +kernel
theorem dX2_cutAround_27 : decode cX2_cutAround 27 = .ok (.iload_n 3, 1) := by decide +kernel
theorem dX2_cutAround_28 : decode cX2_cutAround 28 = .ok (.iaload, 1) := by decide +kernel
theorem dX2_cutAround_29 : decode cX2_cutAround 29 = .ok (.ishr, 1) := by decide +kernel
theorem dX2_cutAround_30 : decode cX2_cutAround 30 = .ok (.iconst 1, 1) := by decide +kernel
theorem dX2_cutAround_31 : decode cX2_cutAround 31 = .ok (.iand, 1) := by decide +kernel
theorem dX2_cutAround_32 : decode cX2_cutAround 32 = .ok (.if_icmp .eq 12, 3) := by decide +kernel
theorem dX2_cutAround_35 : decode cX2_cutAround 35 = .ok (.iload_n 2, 1) := by decide +kernel
theorem dX2_cutAround_36 : decode cX2_cutAround 36 = .ok (.aload_n 0, 1) := by decide +kernel
theorem dX2_cutAround_37 : decode cX2_cutAround 37 = .ok (.getfield 18, 3) := by decide +kernel
theorem dX2_cutAround_40 : decode cX2_cutAround 40 = .ok (.iload_n 3, 1) := by decide +kernel
theorem dX2_cutAround_41 : decode cX2_cutAround 41 = .ok (.iaload, 1) := by decide +kernel
theorem dX2_cutAround_42 : decode cX2_cutAround 42 = .ok (.iadd, 1) := by decide +kernel
theorem dX2_cutAround_43 : decode cX2_cutAround 43 = .ok (.istore_n 2, 1) := by decide +kernel
theorem dX2_cutAround_44 : decode cX2_cutAround 44 = .ok (.iinc 3 1, 3) := by decide +kernel
theorem dX2_cutAround_47 : decode cX2_cutAround 47 = .ok (.goto (-43), 3) := by decide +kernel
theorem dX2_cutAround_50 : decode cX2_cutAround 50 = .ok (.iload_n 2, 1) := by decide +kernel
theorem dX2_cutAround_51 : decode cX2_cutAround 51 = .ok (.ireturn, 1) := by decide +kernel
theorem dX2_weightAt_0 : decode cX2_weightAt 0 = .ok (.iconst 0, 1) := by decide +kernel
theorem dX2_weightAt_1 : decode cX2_weightAt 1 = .ok (.istore_n 2, 1) := by decide +kernel
theorem dX2_weightAt_2 : decode cX2_weightAt 2 = .ok (.iconst 0, 1) := by decide +kernel
theorem dX2_weightAt_3 : decode cX2_weightAt 3 = .ok (.istore_n 3, 1) := by decide +kernel
theorem dX2_weightAt_4 : decode cX2_weightAt 4 = .ok (.iload_n 3, 1) := by decide +kernel
theorem dX2_weightAt_5 : decode cX2_weightAt 5 = .ok (.aload_n 0, 1) := by decide +kernel
theorem dX2_weightAt_6 : decode cX2_weightAt 6 = .ok (.getfield 29, 3) := by decide +kernel
theorem dX2_weightAt_9 : decode cX2_weightAt 9 = .ok (.if_icmp .ge 20, 3) := by decide +kernel
theorem dX2_weightAt_12 : decode cX2_weightAt 12 = .ok (.iload_n 2, 1) := by decide +kernel
theorem dX2_weightAt_13 : decode cX2_weightAt 13 = .ok (.aload_n 0, 1) := by decide +kernel
theorem dX2_weightAt_14 : decode cX2_weightAt 14 = .ok (.getfield 23, 3) := by decide +kernel
theorem dX2_weightAt_17 : decode cX2_weightAt 17 = .ok (.iload_n 1, 1) := by decide +kernel
theorem dX2_weightAt_18 : decode cX2_weightAt 18 = .ok (.aaload, 1) := by decide +kernel
theorem dX2_weightAt_19 : decode cX2_weightAt 19 = .ok (.iload_n 3, 1) := by decide +kernel
theorem dX2_weightAt_20 : decode cX2_weightAt 20 = .ok (.iaload, 1) := by decide +kernel
theorem dX2_weightAt_21 : decode cX2_weightAt 21 = .ok (.iadd, 1) := by decide +kernel
theorem dX2_weightAt_22 : decode cX2_weightAt 22 = .ok (.istore_n 2, 1) := by decide +kernel
theorem dX2_weightAt_23 : decode cX2_weightAt 23 = .ok (.iinc 3 1, 3) := by decide +kernel
theorem dX2_weightAt_26 : decode cX2_weightAt 26 = .ok (.goto (-22), 3) := by decide +kernel
theorem dX2_weightAt_29 : decode cX2_weightAt 29 = .ok (.iload_n 2, 1) := by decide +kernel
theorem dX2_weightAt_30 : decode cX2_weightAt 30 = .ok (.ireturn, 1) := by decide +kernel
theorem dX2_spread_0 : decode cX2_spread 0 = .ok (.iload_n 1, 1) := by decide +kernel
theorem dX2_spread_1 : decode cX2_spread 1 = .ok (.invokestatic 58, 3) := by decide +kernel
theorem dX2_spread_4 : decode cX2_spread 4 = .ok (.istore_n 2, 1) := by decide +kernel
theorem dX2_spread_5 : decode cX2_spread 5 = .ok (.iload_n 2, 1) := by decide +kernel
theorem dX2_spread_6 : decode cX2_spread 6 = .ok (.aload_n 0, 1) := by decide +kernel
theorem dX2_spread_7 : decode cX2_spread 7 = .ok (.getfield 29, 3) := by decide +kernel
theorem dX2_spread_10 : decode cX2_spread 10 = .ok (.iload_n 2, 1) := by decide +kernel
theorem dX2_spread_11 : decode cX2_spread 11 = .ok (.isub, 1) := by decide +kernel
theorem dX2_spread_12 : decode cX2_spread 12 = .ok (.imul, 1) := by decide +kernel
theorem dX2_spread_13 : decode cX2_spread 13 = .ok (.ireturn, 1) := by decide +kernel
theorem dX2_reachedFrom_0 : decode cX2_reachedFrom 0 = .ok (.iconst 1, 1) := by decide +kernel
theorem dX2_reachedFrom_1 : decode cX2_reachedFrom 1 = .ok (.iload_n 1, 1) := by decide +kernel
theorem dX2_reachedFrom_2 : decode cX2_reachedFrom 2 = .ok (.ishl, 1) := by decide +kernel
theorem dX2_reachedFrom_3 : decode cX2_reachedFrom 3 = .ok (.istore_n 3, 1) := by decide +kernel
theorem dX2_reachedFrom_4 : decode cX2_reachedFrom 4 = .ok (.iconst 0, 1) := by decide +kernel
theorem dX2_reachedFrom_5 : decode cX2_reachedFrom 5 = .ok (.istore 4, 2) := by decide +kernel
theorem dX2_reachedFrom_7 : decode cX2_reachedFrom 7 = .ok (.iload 4, 2) := by decide +kernel
theorem dX2_reachedFrom_9 : decode cX2_reachedFrom 9 = .ok (.aload_n 0, 1) := by decide +kernel
theorem dX2_reachedFrom_10 : decode cX2_reachedFrom 10 = .ok (.getfield 29, 3) := by decide +kernel
theorem dX2_reachedFrom_13 : decode cX2_reachedFrom 13 = .ok (.if_icmp .ge 66, 3) := by decide +kernel
theorem dX2_reachedFrom_16 : decode cX2_reachedFrom 16 = .ok (.iload_n 3, 1) := by decide +kernel
theorem dX2_reachedFrom_17 : decode cX2_reachedFrom 17 = .ok (.istore 5, 2) := by decide +kernel
theorem dX2_reachedFrom_19 : decode cX2_reachedFrom 19 = .ok (.iconst 0, 1) := by decide +kernel
theorem dX2_reachedFrom_20 : decode cX2_reachedFrom 20 = .ok (.istore 6, 2) := by decide +kernel
theorem dX2_reachedFrom_22 : decode cX2_reachedFrom 22 = .ok (.iload 6, 2) := by decide +kernel
theorem dX2_reachedFrom_24 : decode cX2_reachedFrom 24 = .ok (.aload_n 0, 1) := by decide +kernel
theorem dX2_reachedFrom_25 : decode cX2_reachedFrom 25 = .ok (.getfield 29, 3) := by decide +kernel
theorem dX2_reachedFrom_28 : decode cX2_reachedFrom 28 = .ok (.if_icmp .ge 33, 3) := by decide +kernel
theorem dX2_reachedFrom_31 : decode cX2_reachedFrom 31 = .ok (.iload_n 3, 1) := by decide +kernel
theorem dX2_reachedFrom_32 : decode cX2_reachedFrom 32 = .ok (.iload 6, 2) := by decide +kernel
theorem dX2_reachedFrom_34 : decode cX2_reachedFrom 34 = .ok (.ishr, 1) := by decide +kernel
theorem dX2_reachedFrom_35 : decode cX2_reachedFrom 35 = .ok (.iconst 1, 1) := by decide +kernel
theorem dX2_reachedFrom_36 : decode cX2_reachedFrom 36 = .ok (.iand, 1) := by decide +kernel
theorem dX2_reachedFrom_37 : decode cX2_reachedFrom 37 = .ok (.iconst 1, 1) := by decide +kernel
theorem dX2_reachedFrom_38 : decode cX2_reachedFrom 38 = .ok (.if_icmp .ne 17, 3) := by decide +kernel
theorem dX2_reachedFrom_41 : decode cX2_reachedFrom 41 = .ok (.iload 5, 2) := by decide +kernel
theorem dX2_reachedFrom_43 : decode cX2_reachedFrom 43 = .ok (.aload_n 0, 1) := by decide +kernel
theorem dX2_reachedFrom_44 : decode cX2_reachedFrom 44 = .ok (.getfield 26, 3) := by decide +kernel
theorem dX2_reachedFrom_47 : decode cX2_reachedFrom 47 = .ok (.iload 6, 2) := by decide +kernel
theorem dX2_reachedFrom_49 : decode cX2_reachedFrom 49 = .ok (.iaload, 1) := by decide +kernel
theorem dX2_reachedFrom_50 : decode cX2_reachedFrom 50 = .ok (.iload_n 2, 1) := by decide +kernel
theorem dX2_reachedFrom_51 : decode cX2_reachedFrom 51 = .ok (.iand, 1) := by decide +kernel
theorem dX2_reachedFrom_52 : decode cX2_reachedFrom 52 = .ok (.ior, 1) := by decide +kernel
theorem dX2_reachedFrom_53 : decode cX2_reachedFrom 53 = .ok (.istore 5, 2) := by decide +kernel
theorem dX2_reachedFrom_55 : decode cX2_reachedFrom 55 = .ok (.iinc 6 1, 3) := by decide +kernel
theorem dX2_reachedFrom_58 : decode cX2_reachedFrom 58 = .ok (.goto (-36), 3) := by decide +kernel
theorem dX2_reachedFrom_61 : decode cX2_reachedFrom 61 = .ok (.iload 5, 2) := by decide +kernel
theorem dX2_reachedFrom_63 : decode cX2_reachedFrom 63 = .ok (.iload_n 3, 1) := by decide +kernel
theorem dX2_reachedFrom_64 : decode cX2_reachedFrom 64 = .ok (.if_icmp .ne 6, 3) := by decide +kernel
theorem dX2_reachedFrom_67 : decode cX2_reachedFrom 67 = .ok (.goto 12, 3) := by decide +kernel
theorem dX2_reachedFrom_70 : decode cX2_reachedFrom 70 = .ok (.iload 5, 2) := by decide +kernel
theorem dX2_reachedFrom_72 : decode cX2_reachedFrom 72 = .ok (.istore_n 3, 1) := by decide +kernel
theorem dX2_reachedFrom_73 : decode cX2_reachedFrom 73 = .ok (.iinc 4 1, 3) := by decide +kernel
theorem dX2_reachedFrom_76 : decode cX2_reachedFrom 76 = .ok (.goto (-69), 3) := by decide +kernel
theorem dX2_reachedFrom_79 : decode cX2_reachedFrom 79 = .ok (.iload_n 3, 1) := by decide +kernel
theorem dX2_reachedFrom_80 : decode cX2_reachedFrom 80 = .ok (.ireturn, 1) := by decide +kernel
theorem dX2_countConnected_0 : decode cX2_countConnected 0 = .ok (.iconst 0, 1) := by decide +kernel
theorem dX2_countConnected_1 : decode cX2_countConnected 1 = .ok (.istore_n 2, 1) := by decide +kernel
theorem dX2_countConnected_2 : decode cX2_countConnected 2 = .ok (.iload_n 1, 1) := by decide +kernel
theorem dX2_countConnected_3 : decode cX2_countConnected 3 = .ok (.istore_n 3, 1) := by decide +kernel
theorem dX2_countConnected_4 : decode cX2_countConnected 4 = .ok (.iconst 0, 1) := by decide +kernel
theorem dX2_countConnected_5 : decode cX2_countConnected 5 = .ok (.istore 4, 2) := by decide +kernel
theorem dX2_countConnected_7 : decode cX2_countConnected 7 = .ok (.iload 4, 2) := by decide +kernel
theorem dX2_countConnected_9 : decode cX2_countConnected 9 = .ok (.aload_n 0, 1) := by decide +kernel
theorem dX2_countConnected_10 : decode cX2_countConnected 10 = .ok (.getfield 29, 3) := by decide +kernel
theorem dX2_countConnected_13 : decode cX2_countConnected 13 = .ok (.if_icmp .ge 34, 3) := by decide +kernel
theorem dX2_countConnected_16 : decode cX2_countConnected 16 = .ok (.iload_n 3, 1) := by decide +kernel
theorem dX2_countConnected_17 : decode cX2_countConnected 17 = .ok (.iload 4, 2) := by decide +kernel
theorem dX2_countConnected_19 : decode cX2_countConnected 19 = .ok (.ishr, 1) := by decide +kernel
theorem dX2_countConnected_20 : decode cX2_countConnected 20 = .ok (.iconst 1, 1) := by decide +kernel
theorem dX2_countConnected_21 : decode cX2_countConnected 21 = .ok (.iand, 1) := by decide +kernel
theorem dX2_countConnected_22 : decode cX2_countConnected 22 = .ok (.iconst 1, 1) := by decide +kernel
theorem dX2_countConnected_23 : decode cX2_countConnected 23 = .ok (.if_icmp .ne 18, 3) := by decide +kernel
theorem dX2_countConnected_26 : decode cX2_countConnected 26 = .ok (.iload_n 3, 1) := by decide +kernel
theorem dX2_countConnected_27 : decode cX2_countConnected 27 = .ok (.aload_n 0, 1) := by decide +kernel
theorem dX2_countConnected_28 : decode cX2_countConnected 28 = .ok (.iload 4, 2) := by decide +kernel
theorem dX2_countConnected_30 : decode cX2_countConnected 30 = .ok (.iload_n 1, 1) := by decide +kernel
theorem dX2_countConnected_31 : decode cX2_countConnected 31 = .ok (.invokevirtual 64, 3) := by decide +kernel
theorem dX2_countConnected_34 : decode cX2_countConnected 34 = .ok (.iconst (-1), 1) := by decide +kernel
theorem dX2_countConnected_35 : decode cX2_countConnected 35 = .ok (.ixor, 1) := by decide +kernel
theorem dX2_countConnected_36 : decode cX2_countConnected 36 = .ok (.iand, 1) := by decide +kernel
theorem dX2_countConnected_37 : decode cX2_countConnected 37 = .ok (.istore_n 3, 1) := by decide +kernel
theorem dX2_countConnected_38 : decode cX2_countConnected 38 = .ok (.iinc 2 1, 3) := by decide +kernel
theorem dX2_countConnected_41 : decode cX2_countConnected 41 = .ok (.iinc 4 1, 3) := by decide +kernel
theorem dX2_countConnected_44 : decode cX2_countConnected 44 = .ok (.goto (-37), 3) := by decide +kernel
theorem dX2_countConnected_47 : decode cX2_countConnected 47 = .ok (.iload_n 2, 1) := by decide +kernel
theorem dX2_countConnected_48 : decode cX2_countConnected 48 = .ok (.ireturn, 1) := by decide +kernel
theorem dX2_fewestBars_0 : decode cX2_fewestBars 0 = .ok (.aload_n 0, 1) := by decide +kernel
theorem dX2_fewestBars_1 : decode cX2_fewestBars 1 = .ok (.invokevirtual 46, 3) := by decide +kernel
theorem dX2_fewestBars_4 : decode cX2_fewestBars 4 = .ok (.istore_n 3, 1) := by decide +kernel
theorem dX2_fewestBars_5 : decode cX2_fewestBars 5 = .ok (.iload_n 3, 1) := by decide +kernel
theorem dX2_fewestBars_6 : decode cX2_fewestBars 6 = .ok (.iconst 1, 1) := by decide +kernel
theorem dX2_fewestBars_7 : decode cX2_fewestBars 7 = .ok (.iload_n 1, 1) := by decide +kernel
theorem dX2_fewestBars_8 : decode cX2_fewestBars 8 = .ok (.ishl, 1) := by decide +kernel
theorem dX2_fewestBars_9 : decode cX2_fewestBars 9 = .ok (.iconst (-1), 1) := by decide +kernel
theorem dX2_fewestBars_10 : decode cX2_fewestBars 10 = .ok (.ixor, 1) := by decide +kernel
theorem dX2_fewestBars_11 : decode cX2_fewestBars 11 = .ok (.iand, 1) := by decide +kernel
theorem dX2_fewestBars_12 : decode cX2_fewestBars 12 = .ok (.iconst 1, 1) := by decide +kernel
theorem dX2_fewestBars_13 : decode cX2_fewestBars 13 = .ok (.iload_n 2, 1) := by decide +kernel
theorem dX2_fewestBars_14 : decode cX2_fewestBars 14 = .ok (.ishl, 1) := by decide +kernel
theorem dX2_fewestBars_15 : decode cX2_fewestBars 15 = .ok (.iconst (-1), 1) := by decide +kernel
theorem dX2_fewestBars_16 : decode cX2_fewestBars 16 = .ok (.ixor, 1) := by decide +kernel
theorem dX2_fewestBars_17 : decode cX2_fewestBars 17 = .ok (.iand, 1) := by decide +kernel
theorem dX2_fewestBars_18 : decode cX2_fewestBars 18 = .ok (.istore 4, 2) := by decide +kernel
theorem dX2_fewestBars_20 : decode cX2_fewestBars 20 = .ok (.iload 4, 2) := by decide +kernel
theorem dX2_fewestBars_22 : decode cX2_fewestBars 22 = .ok (.istore 5, 2) := by decide +kernel
theorem dX2_fewestBars_24 : decode cX2_fewestBars 24 = .ok (.iconst 1, 1) := by decide +kernel
theorem dX2_fewestBars_25 : decode cX2_fewestBars 25 = .ok (.aload_n 0, 1) := by decide +kernel
theorem dX2_fewestBars_26 : decode cX2_fewestBars 26 = .ok (.getfield 29, 3) := by decide +kernel
theorem dX2_fewestBars_29 : decode cX2_fewestBars 29 = .ok (.iconst 2, 1) := by decide +kernel
theorem dX2_fewestBars_30 : decode cX2_fewestBars 30 = .ok (.isub, 1) := by decide +kernel
theorem dX2_fewestBars_31 : decode cX2_fewestBars 31 = .ok (.ishl, 1) := by decide +kernel
theorem dX2_fewestBars_32 : decode cX2_fewestBars 32 = .ok (.istore 6, 2) := by decide +kernel
theorem dX2_fewestBars_34 : decode cX2_fewestBars 34 = .ok (.iconst 0, 1) := by decide +kernel
theorem dX2_fewestBars_35 : decode cX2_fewestBars 35 = .ok (.istore 7, 2) := by decide +kernel
theorem dX2_fewestBars_37 : decode cX2_fewestBars 37 = .ok (.iconst 0, 1) := by decide +kernel
theorem dX2_fewestBars_38 : decode cX2_fewestBars 38 = .ok (.istore 8, 2) := by decide +kernel
theorem dX2_fewestBars_40 : decode cX2_fewestBars 40 = .ok (.iload 8, 2) := by decide +kernel
theorem dX2_fewestBars_42 : decode cX2_fewestBars 42 = .ok (.iload 6, 2) := by decide +kernel
theorem dX2_fewestBars_44 : decode cX2_fewestBars 44 = .ok (.if_icmp .ge 65, 3) := by decide +kernel
theorem dX2_fewestBars_47 : decode cX2_fewestBars 47 = .ok (.iload 7, 2) := by decide +kernel
theorem dX2_fewestBars_49 : decode cX2_fewestBars 49 = .ok (.invokestatic 58, 3) := by decide +kernel
theorem dX2_fewestBars_52 : decode cX2_fewestBars 52 = .ok (.iload 5, 2) := by decide +kernel
theorem dX2_fewestBars_54 : decode cX2_fewestBars 54 = .ok (.invokestatic 58, 3) := by decide +kernel
theorem dX2_fewestBars_57 : decode cX2_fewestBars 57 = .ok (.if_icmp .ge 7, 3) := by decide +kernel
theorem dX2_fewestBars_60 : decode cX2_fewestBars 60 = .ok (.iconst 1, 1) := by decide +kernel
theorem dX2_fewestBars_61 : decode cX2_fewestBars 61 = .ok (.goto 4, 3) := by decide +kernel
theorem dX2_fewestBars_64 : decode cX2_fewestBars 64 = .ok (.iconst 0, 1) := by decide +kernel
theorem dX2_fewestBars_65 : decode cX2_fewestBars 65 = .ok (.istore 9, 2) := by decide +kernel
theorem dX2_fewestBars_67 : decode cX2_fewestBars 67 = .ok (.iload 9, 2) := by decide +kernel
theorem dX2_fewestBars_69 : decode cX2_fewestBars 69 = .ok (.ifCond .eq 25, 3) := by decide +kernel
theorem dX2_fewestBars_72 : decode cX2_fewestBars 72 = .ok (.aload_n 0, 1) := by decide +kernel
theorem dX2_fewestBars_73 : decode cX2_fewestBars 73 = .ok (.iload_n 1, 1) := by decide +kernel
theorem dX2_fewestBars_74 : decode cX2_fewestBars 74 = .ok (.iload_n 3, 1) := by decide +kernel
theorem dX2_fewestBars_75 : decode cX2_fewestBars 75 = .ok (.iload 7, 2) := by decide +kernel
theorem dX2_fewestBars_77 : decode cX2_fewestBars 77 = .ok (.iconst (-1), 1) := by decide +kernel
theorem dX2_fewestBars_78 : decode cX2_fewestBars 78 = .ok (.ixor, 1) := by decide +kernel
theorem dX2_fewestBars_79 : decode cX2_fewestBars 79 = .ok (.iand, 1) := by decide +kernel
theorem dX2_fewestBars_80 : decode cX2_fewestBars 80 = .ok (.invokevirtual 64, 3) := by decide +kernel
theorem dX2_fewestBars_83 : decode cX2_fewestBars 83 = .ok (.iload_n 2, 1) := by decide +kernel
theorem dX2_fewestBars_84 : decode cX2_fewestBars 84 = .ok (.ishr, 1) := by decide +kernel
theorem dX2_fewestBars_85 : decode cX2_fewestBars 85 = .ok (.iconst 1, 1) := by decide +kernel
theorem dX2_fewestBars_86 : decode cX2_fewestBars 86 = .ok (.iand, 1) := by decide +kernel
theorem dX2_fewestBars_87 : decode cX2_fewestBars 87 = .ok (.ifCond .ne 7, 3) := by decide +kernel
theorem dX2_fewestBars_90 : decode cX2_fewestBars 90 = .ok (.iload 7, 2) := by decide +kernel
theorem dX2_fewestBars_92 : decode cX2_fewestBars 92 = .ok (.istore 5, 2) := by decide +kernel
theorem dX2_fewestBars_94 : decode cX2_fewestBars 94 = .ok (.iload 4, 2) := by decide +kernel
theorem dX2_fewestBars_96 : decode cX2_fewestBars 96 = .ok (.iload 7, 2) := by decide +kernel
theorem dX2_fewestBars_98 : decode cX2_fewestBars 98 = .ok (.invokestatic 68, 3) := by decide +kernel
theorem dX2_fewestBars_101 : decode cX2_fewestBars 101 = .ok (.istore 7, 2) := by decide +kernel
theorem dX2_fewestBars_103 : decode cX2_fewestBars 103 = .ok (.iinc 8 1, 3) := by decide +kernel
theorem dX2_fewestBars_106 : decode cX2_fewestBars 106 = .ok (.goto (-66), 3) := by decide +kernel
theorem dX2_fewestBars_109 : decode cX2_fewestBars 109 = .ok (.iload 5, 2) := by decide +kernel
theorem dX2_fewestBars_111 : decode cX2_fewestBars 111 = .ok (.ireturn, 1) := by decide +kernel
