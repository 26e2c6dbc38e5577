/-! decode rows: by program -/
theorem dX0_init_0 : decode cX0_init 0 = .ok (.aload_n 0, 1) := by decide +kernel
theorem dX0_init_1 : decode cX0_init 1 = .ok (.invokespecial 3, 3) := by decide +kernel
theorem dX0_init_4 : decode cX0_init 4 = .ok (.aload_n 0, 1) := by decide +kernel
theorem dX0_init_5 : decode cX0_init 5 = .ok (.sipush 2048, 3) := by decide +kernel
theorem dX0_init_8 : decode cX0_init 8 = .ok (.newarray .int, 2) := by decide +kernel
theorem dX0_init_10 : decode cX0_init 10 = .ok (.putfield 9, 3) := by decide +kernel
theorem dX0_init_13 : decode cX0_init 13 = .ok (.aload_n 0, 1) := by decide +kernel
theorem dX0_init_14 : decode cX0_init 14 = .ok (.iconst (-1), 1) := by decide +kernel
theorem dX0_init_15 : decode cX0_init 15 = .ok (.putfield 15, 3) := by decide +kernel
theorem dX0_init_18 : decode cX0_init 18 = .ok (.aload_n 0, 1) := by decide +kernel
theorem dX0_init_19 : decode cX0_init 19 = .ok (.aload_n 1, 1) := by decide +kernel
theorem dX0_init_20 : decode cX0_init 20 = .ok (.putfield 19, 3) := by decide +kernel
theorem dX0_init_23 : decode cX0_init 23 = .ok (.return_, 1) := by decide +kernel
theorem dX0_refresh_0 : decode cX0_refresh 0 = .ok (.aload_n 0, 1) := by decide +kernel
theorem dX0_refresh_1 : decode cX0_refresh 1 = .ok (.getfield 15, 3) := by decide +kernel
theorem dX0_refresh_4 : decode cX0_refresh 4 = .ok (.aload_n 0, 1) := by decide +kernel
theorem dX0_refresh_5 : decode cX0_refresh 5 = .ok (.getfield 19, 3) := by decide +kernel
theorem dX0_refresh_8 : decode cX0_refresh 8 = .ok (.getfield 23, 3) := by decide +kernel
theorem dX0_refresh_11 : decode cX0_refresh 11 = .ok (.if_icmp .ne 4, 3) := by decide +kernel
theorem dX0_refresh_14 : decode cX0_refresh 14 = .ok (.return_, 1) := by decide +kernel
theorem dX0_refresh_15 : decode cX0_refresh 15 = .ok (.aload_n 0, 1) := by decide +kernel
theorem dX0_refresh_16 : decode cX0_refresh 16 = .ok (.aload_n 0, 1) := by decide +kernel
theorem dX0_refresh_17 : decode cX0_refresh 17 = .ok (.getfield 19, 3) := by decide +kernel
theorem dX0_refresh_20 : decode cX0_refresh 20 = .ok (.getfield 23, 3) := by decide +kernel
theorem dX0_refresh_23 : decode cX0_refresh 23 = .ok (.putfield 15, 3) := by decide +kernel
theorem dX0_refresh_26 : decode cX0_refresh 26 = .ok (.iconst 1, 1) := by decide +kernel
theorem dX0_refresh_27 : decode cX0_refresh 27 = .ok (.istore_n 1, 1) := by decide +kernel
theorem dX0_refresh_28 : decode cX0_refresh 28 = .ok (.iload_n 1, 1) := by decide +kernel
theorem dX0_refresh_29 : decode cX0_refresh 29 = .ok (.aload_n 0, 1) := by decide +kernel
theorem dX0_refresh_30 : decode cX0_refresh 30 = .ok (.getfield 19, 3) := by decide +kernel
theorem dX0_refresh_33 : decode cX0_refresh 33 = .ok (.getfield 28, 3) := by decide +kernel
theorem dX0_refresh_36 : decode cX0_refresh 36 = .ok (.if_icmp .ge 14, 3) := by decide +kernel
theorem dX0_refresh_39 : decode cX0_refresh 39 = .ok (.aload_n 0, 1) := by decide +kernel
theorem dX0_refresh_40 : decode cX0_refresh 40 = .ok (.iload_n 1, 1) := by decide +kernel
theorem dX0_refresh_41 : decode cX0_refresh 41 = .ok (.invokevirtual 31, 3) := by decide +kernel
theorem dX0_refresh_44 : decode cX0_refresh 44 = .ok (.iinc 1 1, 3) := by decide +kernel
theorem dX0_refresh_47 : decode cX0_refresh 47 = .ok (.goto (-19), 3) := by decide +kernel
theorem dX0_refresh_50 : decode cX0_refresh 50 = .ok (.return_, 1) := by decide +kernel
theorem dX0_fillSetsUpTo_0 : decode cX0_fillSetsUpTo 0 = .ok (.iconst 1, 1) := by decide +kernel
theorem dX0_fillSetsUpTo_1 : decode cX0_fillSetsUpTo 1 = .ok (.iload_n 1, 1) := by decide +kernel
theorem dX0_fillSetsUpTo_2 : decode cX0_fillSetsUpTo 2 = .ok (.iconst 1, 1) := by decide +kernel
theorem dX0_fillSetsUpTo_3 : decode cX0_fillSetsUpTo 3 = .ok (.isub, 1) := by decide +kernel
theorem dX0_fillSetsUpTo_4 : decode cX0_fillSetsUpTo 4 = .ok (.ishl, 1) := by decide +kernel
theorem dX0_fillSetsUpTo_5 : decode cX0_fillSetsUpTo 5 = .ok (.istore_n 2, 1) := by decide +kernel
theorem dX0_fillSetsUpTo_6 : decode cX0_fillSetsUpTo 6 = .ok (.aload_n 0, 1) := by decide +kernel
theorem dX0_fillSetsUpTo_7 : decode cX0_fillSetsUpTo 7 = .ok (.getfield 9, 3) := by decide +kernel
theorem dX0_fillSetsUpTo_10 : decode cX0_fillSetsUpTo 10 = .ok (.iload_n 2, 1) := by decide +kernel
theorem dX0_fillSetsUpTo_11 : decode cX0_fillSetsUpTo 11 = .ok (.iconst 0, 1) := by decide +kernel
theorem dX0_fillSetsUpTo_12 : decode cX0_fillSetsUpTo 12 = .ok (.iastore, 1) := by decide +kernel
theorem dX0_fillSetsUpTo_13 : decode cX0_fillSetsUpTo 13 = .ok (.iconst 1, 1) := by decide +kernel
theorem dX0_fillSetsUpTo_14 : decode cX0_fillSetsUpTo 14 = .ok (.istore_n 3, 1) := by decide +kernel
theorem dX0_fillSetsUpTo_15 : decode cX0_fillSetsUpTo 15 = .ok (.iload_n 3, 1) := by decide +kernel
theorem dX0_fillSetsUpTo_16 : decode cX0_fillSetsUpTo 16 = .ok (.iload_n 1, 1) := by decide +kernel
theorem dX0_fillSetsUpTo_17 : decode cX0_fillSetsUpTo 17 = .ok (.if_icmp .ge 69, 3) := by decide +kernel
theorem dX0_fillSetsUpTo_20 : decode cX0_fillSetsUpTo 20 = .ok (.iconst 1, 1) := by decide +kernel
theorem dX0_fillSetsUpTo_21 : decode cX0_fillSetsUpTo 21 = .ok (.iload_n 3, 1) := by decide +kernel
theorem dX0_fillSetsUpTo_22 : decode cX0_fillSetsUpTo 22 = .ok (.iconst 1, 1) := by decide +kernel
theorem dX0_fillSetsUpTo_23 : decode cX0_fillSetsUpTo 23 = .ok (.isub, 1) := by decide +kernel
theorem dX0_fillSetsUpTo_24 : decode cX0_fillSetsUpTo 24 = .ok (.ishl, 1) := by decide +kernel
theorem dX0_fillSetsUpTo_25 : decode cX0_fillSetsUpTo 25 = .ok (.istore 4, 2) := by decide +kernel
theorem dX0_fillSetsUpTo_27 : decode cX0_fillSetsUpTo 27 = .ok (.aload_n 0, 1) := by decide +kernel
theorem dX0_fillSetsUpTo_28 : decode cX0_fillSetsUpTo 28 = .ok (.getfield 19, 3) := by decide +kernel
theorem dX0_fillSetsUpTo_31 : decode cX0_fillSetsUpTo 31 = .ok (.getfield 35, 3) := by decide +kernel
theorem dX0_fillSetsUpTo_34 : decode cX0_fillSetsUpTo 34 = .ok (.iload_n 1, 1) := by decide +kernel
theorem dX0_fillSetsUpTo_35 : decode cX0_fillSetsUpTo 35 = .ok (.aaload, 1) := by decide +kernel
theorem dX0_fillSetsUpTo_36 : decode cX0_fillSetsUpTo 36 = .ok (.iload_n 3, 1) := by decide +kernel
theorem dX0_fillSetsUpTo_37 : decode cX0_fillSetsUpTo 37 = .ok (.iaload, 1) := by decide +kernel
theorem dX0_fillSetsUpTo_38 : decode cX0_fillSetsUpTo 38 = .ok (.istore 5, 2) := by decide +kernel
theorem dX0_fillSetsUpTo_40 : decode cX0_fillSetsUpTo 40 = .ok (.iconst 0, 1) := by decide +kernel
theorem dX0_fillSetsUpTo_41 : decode cX0_fillSetsUpTo 41 = .ok (.istore 6, 2) := by decide +kernel
theorem dX0_fillSetsUpTo_43 : decode cX0_fillSetsUpTo 43 = .ok (.iload 6, 2) := by decide +kernel
theorem dX0_fillSetsUpTo_45 : decode cX0_fillSetsUpTo 45 = .ok (.iload 4, 2) := by decide +kernel
theorem dX0_fillSetsUpTo_47 : decode cX0_fillSetsUpTo 47 = .ok (.if_icmp .ge 33, 3) := by decide +kernel
theorem dX0_fillSetsUpTo_50 : decode cX0_fillSetsUpTo 50 = .ok (.aload_n 0, 1) := by decide +kernel
theorem dX0_fillSetsUpTo_51 : decode cX0_fillSetsUpTo 51 = .ok (.getfield 9, 3) := by decide +kernel
theorem dX0_fillSetsUpTo_54 : decode cX0_fillSetsUpTo 54 = .ok (.iload_n 2, 1) := by decide +kernel
theorem dX0_fillSetsUpTo_55 : decode cX0_fillSetsUpTo 55 = .ok (.iload 4, 2) := by decide +kernel
theorem dX0_fillSetsUpTo_57 : decode cX0_fillSetsUpTo 57 = .ok (.iadd, 1) := by decide +kernel
theorem dX0_fillSetsUpTo_58 : decode cX0_fillSetsUpTo 58 = .ok (.iload 6, 2) := by decide +kernel
theorem dX0_fillSetsUpTo_60 : decode cX0_fillSetsUpTo 60 = .ok (.iadd, 1) := by decide +kernel
theorem dX0_fillSetsUpTo_61 : decode cX0_fillSetsUpTo 61 = .ok (.aload_n 0, 1) := by decide +kernel
theorem dX0_fillSetsUpTo_62 : decode cX0_fillSetsUpTo 62 = .ok (.getfield 9, 3) := by decide +kernel
theorem dX0_fillSetsUpTo_65 : decode cX0_fillSetsUpTo 65 = .ok (.iload_n 2, 1) := by decide +kernel
theorem dX0_fillSetsUpTo_66 : decode cX0_fillSetsUpTo 66 = .ok (.iload 6, 2) := by decide +kernel
theorem dX0_fillSetsUpTo_68 : decode cX0_fillSetsUpTo 68 = .ok (.iadd, 1) := by decide +kernel
theorem dX0_fillSetsUpTo_69 : decode cX0_fillSetsUpTo 69 = .ok (.iaload, 1) := by decide +kernel
theorem dX0_fillSetsUpTo_70 : decode cX0_fillSetsUpTo 70 = .ok (.iload 5, 2) := by decide +kernel
theorem dX0_fillSetsUpTo_72 : decode cX0_fillSetsUpTo 72 = .ok (.iadd, 1) := by decide +kernel
theorem dX0_fillSetsUpTo_73 : decode cX0_fillSetsUpTo 73 = .ok (.iastore, 1) := by decide +kernel
theorem dX0_fillSetsUpTo_74 : decode cX0_fillSetsUpTo 74 = .ok (.iinc 6 1, 3) := by decide +kernel
theorem dX0_fillSetsUpTo_77 : decode cX0_fillSetsUpTo 77 = .ok (.goto (-34), 3) := by decide +kernel
theorem dX0_fillSetsUpTo_80 : decode cX0_fillSetsUpTo 80 = .ok (.iinc 3 1, 3) := by decide +kernel
theorem dX0_fillSetsUpTo_83 : decode cX0_fillSetsUpTo 83 = .ok (.goto (-68), 3) := by decide +kernel
theorem dX0_fillSetsUpTo_86 : decode cX0_fillSetsUpTo 86 = .ok (.aload_n 0, 1) := by decide +kernel
theorem dX0_fillSetsUpTo_87 : decode cX0_fillSetsUpTo 87 = .ok (.getfield 19, 3) := by decide +kernel
theorem dX0_fillSetsUpTo_90 : decode cX0_fillSetsUpTo 90 = .ok (.iload_n 1, 1) := by decide +kernel
theorem dX0_fillSetsUpTo_91 : decode cX0_fillSetsUpTo 91 = .ok (.invokevirtual 39, 3) := by decide +kernel
theorem dX0_fillSetsUpTo_94 : decode cX0_fillSetsUpTo 94 = .ok (.istore_n 3, 1) := by decide +kernel
theorem dX0_fillSetsUpTo_95 : decode cX0_fillSetsUpTo 95 = .ok (.iconst 0, 1) := by decide +kernel
theorem dX0_fillSetsUpTo_96 : decode cX0_fillSetsUpTo 96 = .ok (.istore 4, 2) := by decide +kernel
theorem dX0_fillSetsUpTo_98 : decode cX0_fillSetsUpTo 98 = .ok (.iload 4, 2) := by decide +kernel
theorem dX0_fillSetsUpTo_100 : decode cX0_fillSetsUpTo 100 = .ok (.iload_n 2, 1) := by decide +kernel
theorem dX0_fillSetsUpTo_101 : decode cX0_fillSetsUpTo 101 = .ok (.if_icmp .ge 39, 3) := by decide +kernel
theorem dX0_fillSetsUpTo_104 : decode cX0_fillSetsUpTo 104 = .ok (.aload_n 0, 1) := by decide +kernel
theorem dX0_fillSetsUpTo_105 : decode cX0_fillSetsUpTo 105 = .ok (.getfield 9, 3) := by decide +kernel
theorem dX0_fillSetsUpTo_108 : decode cX0_fillSetsUpTo 108 = .ok (.iload_n 2, 1) := by decide +kernel
theorem dX0_fillSetsUpTo_109 : decode cX0_fillSetsUpTo 109 = .ok (.iload 4, 2) := by decide +kernel
theorem dX0_fillSetsUpTo_111 : decode cX0_fillSetsUpTo 111 = .ok (.iadd, 1) := by decide +kernel
theorem dX0_fillSetsUpTo_112 : decode cX0_fillSetsUpTo 112 = .ok (.aload_n 0, 1) := by decide +kernel
theorem dX0_fillSetsUpTo_113 : decode cX0_fillSetsUpTo 113 = .ok (.getfield 9, 3) := by decide +kernel
theorem dX0_fillSetsUpTo_116 : decode cX0_fillSetsUpTo 116 = .ok (.iload 4, 2) := by decide +kernel
theorem dX0_fillSetsUpTo_118 : decode cX0_fillSetsUpTo 118 = .ok (.iaload, 1) := by decide +kernel
theorem dX0_fillSetsUpTo_119 : decode cX0_fillSetsUpTo 119 = .ok (.iload_n 3, 1) := by decide +kernel
theorem dX0_fillSetsUpTo_120 : decode cX0_fillSetsUpTo 120 = .ok (.iadd, 1) := by decide +kernel
theorem dX0_fillSetsUpTo_121 : decode cX0_fillSetsUpTo 121 = .ok (.iconst 2, 1) := by decide +kernel
theorem dX0_fillSetsUpTo_122 : decode cX0_fillSetsUpTo 122 = .ok (.aload_n 0, 1) := by decide +kernel
theorem dX0_fillSetsUpTo_123 : decode cX0_fillSetsUpTo 123 = .ok (.getfield 9, 3) := by decide +kernel
theorem dX0_fillSetsUpTo_126 : decode cX0_fillSetsUpTo 126 = .ok (.iload_n 2, 1) := by decide +kernel
theorem dX0_fillSetsUpTo_127 : decode cX0_fillSetsUpTo 127 = .ok (.iload 4, 2) := by decide +kernel
theorem dX0_fillSetsUpTo_129 : decode cX0_fillSetsUpTo 129 = .ok (.iadd, 1) := by decide +kernel
theorem dX0_fillSetsUpTo_130 : decode cX0_fillSetsUpTo 130 = .ok (.iaload, 1) := by decide +kernel
theorem dX0_fillSetsUpTo_131 : decode cX0_fillSetsUpTo 131 = .ok (.imul, 1) := by decide +kernel
theorem dX0_fillSetsUpTo_132 : decode cX0_fillSetsUpTo 132 = .ok (.isub, 1) := by decide +kernel
theorem dX0_fillSetsUpTo_133 : decode cX0_fillSetsUpTo 133 = .ok (.iastore, 1) := by decide +kernel
theorem dX0_fillSetsUpTo_134 : decode cX0_fillSetsUpTo 134 = .ok (.iinc 4 1, 3) := by decide +kernel
theorem dX0_fillSetsUpTo_137 : decode cX0_fillSetsUpTo 137 = .ok (.goto (-39), 3) := by decide +kernel
theorem dX0_fillSetsUpTo_140 : decode cX0_fillSetsUpTo 140 = .ok (.return_, 1) := by decide +kernel
theorem dX0_cutAt_0 : decode cX0_cutAt 0 = .ok (.iload_n 1, 1) := by decide +kernel
theorem dX0_cutAt_1 : decode cX0_cutAt 1 = .ok (.iconst 1, 1) := by decide +kernel
theorem dX0_cutAt_2 : decode cX0_cutAt 2 = .ok (.iand, 1) := by decide +kernel
theorem dX0_cutAt_3 : decode cX0_cutAt 3 = .ok (.ifCond .ne 7, 3) := by decide +kernel
theorem dX0_cutAt_6 : decode cX0_cutAt 6 = .ok (.iload_n 1, 1) := by decide +kernel
theorem dX0_cutAt_7 : decode cX0_cutAt 7 = .ok (.goto 14, 3) := by decide +kernel
theorem dX0_cutAt_10 : decode cX0_cutAt 10 = .ok (.aload_n 0, 1) := by decide +kernel
theorem dX0_cutAt_11 : decode cX0_cutAt 11 = .ok (.getfield 19, 3) := by decide +kernel
theorem dX0_cutAt_14 : decode cX0_cutAt 14 = .ok (.invokevirtual 43, 3) := by decide +kernel
theorem dX0_cutAt_17 : decode cX0_cutAt 17 = .ok (.iload_n 1, 1) := by decide +kernel
theorem dX0_cutAt_18 : decode cX0_cutAt 18 = .ok (.iconst (-1), 1) := by decide +kernel
theorem dX0_cutAt_19 : decode cX0_cutAt 19 = .ok (.ixor, 1) := by decide +kernel
theorem dX0_cutAt_20 : decode cX0_cutAt 20 = .ok (.iand, 1) := by decide +kernel
theorem dX0_cutAt_21 : decode cX0_cutAt 21 = .ok (.istore_n 2, 1) := by decide +kernel
theorem dX0_cutAt_22 : decode cX0_cutAt 22 = .ok (.aload_n 0, 1) := by decide +kernel
theorem dX0_cutAt_23 : decode cX0_cutAt 23 = .ok (.getfield 9, 3) := by decide +kernel
theorem dX0_cutAt_26 : decode cX0_cutAt 26 = .ok (.iload_n 2, 1) := by decide +kernel
theorem dX0_cutAt_27 : decode cX0_cutAt 27 = .ok (.iconst 1, 1) := by decide +kernel
theorem dX0_cutAt_28 : decode cX0_cutAt 28 = .ok (.ishr, 1) := by decide +kernel
theorem dX0_cutAt_29 : decode cX0_cutAt 29 = .ok (.iaload, 1) := by decide +kernel
theorem dX0_cutAt_30 : decode cX0_cutAt 30 = .ok (.ireturn, 1) := by decide +kernel
theorem dX0_cutBetween_0 : decode cX0_cutBetween 0 = .ok (.aload_n 0, 1) := by decide +kernel
theorem dX0_cutBetween_1 : decode cX0_cutBetween 1 = .ok (.aload_n 0, 1) := by decide +kernel
theorem dX0_cutBetween_2 : decode cX0_cutBetween 2 = .ok (.iload_n 1, 1) := by decide +kernel
theorem dX0_cutBetween_3 : decode cX0_cutBetween 3 = .ok (.iload_n 2, 1) := by decide +kernel
theorem dX0_cutBetween_4 : decode cX0_cutBetween 4 = .ok (.invokevirtual 47, 3) := by decide +kernel
theorem dX0_cutBetween_7 : decode cX0_cutBetween 7 = .ok (.invokevirtual 51, 3) := by decide +kernel
theorem dX0_cutBetween_10 : decode cX0_cutBetween 10 = .ok (.ireturn, 1) := by decide +kernel
theorem dX0_sideAgainst_0 : decode cX0_sideAgainst 0 = .ok (.iconst 1, 1) := by decide +kernel
theorem dX0_sideAgainst_1 : decode cX0_sideAgainst 1 = .ok (.iload_n 1, 1) := by decide +kernel
theorem dX0_sideAgainst_2 : decode cX0_sideAgainst 2 = .ok (.ishl, 1) := by decide +kernel
theorem dX0_sideAgainst_3 : decode cX0_sideAgainst 3 = .ok (.istore_n 3, 1) := by decide +kernel
theorem dX0_sideAgainst_4 : decode cX0_sideAgainst 4 = .ok (.aload_n 0, 1) := by decide +kernel
theorem dX0_sideAgainst_5 : decode cX0_sideAgainst 5 = .ok (.getfield 19, 3) := by decide +kernel
theorem dX0_sideAgainst_8 : decode cX0_sideAgainst 8 = .ok (.invokevirtual 43, 3) := by decide +kernel
theorem dX0_sideAgainst_11 : decode cX0_sideAgainst 11 = .ok (.iload_n 3, 1) := by decide +kernel
theorem dX0_sideAgainst_12 : decode cX0_sideAgainst 12 = .ok (.iconst (-1), 1) := by decide +kernel
theorem dX0_sideAgainst_13 : decode cX0_sideAgainst 13 = .ok (.ixor, 1) := by decide +kernel
theorem dX0_sideAgainst_14 : decode cX0_sideAgainst 14 = .ok (.iand, 1) := by decide +kernel
theorem dX0_sideAgainst_15 : decode cX0_sideAgainst 15 = .ok (.iconst 1, 1) := by decide +kernel
theorem dX0_sideAgainst_16 : decode cX0_sideAgainst 16 = .ok (.iload_n 2, 1) := by decide +kernel
theorem dX0_sideAgainst_17 : decode cX0_sideAgainst 17 = .ok (.ishl, 1) := by decide +kernel
theorem dX0_sideAgainst_18 : decode cX0_sideAgainst 18 = .ok (.iconst (-1), 1) := by decide +kernel
theorem dX0_sideAgainst_19 : decode cX0_sideAgainst 19 = .ok (.ixor, 1) := by decide +kernel
theorem dX0_sideAgainst_20 : decode cX0_sideAgainst 20 = .ok (.iand, 1) := by decide +kernel
theorem dX0_sideAgainst_21 : decode cX0_sideAgainst 21 = .ok (.istore 4, 2) := by decide +kernel
theorem dX0_sideAgainst_23 : decode cX0_sideAgainst 23 = .ok (.iload_n 3, 1) := by decide +kernel
theorem dX0_sideAgainst_24 : decode cX0_sideAgainst 24 = .ok (.istore 5, 2) := by decide +kernel
theorem dX0_sideAgainst_26 : decode cX0_sideAgainst 26 = .ok (.aload_n 0, 1) := by decide +kernel
theorem dX0_sideAgainst_27 : decode cX0_sideAgainst 27 = .ok (.iload_n 3, 1) := by decide +kernel
theorem dX0_sideAgainst_28 : decode cX0_sideAgainst 28 = .ok (.invokevirtual 51, 3) := by decide +kernel
theorem dX0_sideAgainst_31 : decode cX0_sideAgainst 31 = .ok (.istore 6, 2) := by decide +kernel
theorem dX0_sideAgainst_33 : decode cX0_sideAgainst 33 = .ok (.iconst 1, 1) := by decide +kernel
theorem dX0_sideAgainst_34 : decode cX0_sideAgainst 34 = .ok (.aload_n 0, 1) := by decide +kernel
theorem dX0_sideAgainst_35 : decode cX0_sideAgainst 35 = .ok (.getfield 19, 3) := by decide +kernel
theorem dX0_sideAgainst_38 : decode cX0_sideAgainst 38 = .ok (.getfield 28, 3) := by decide +kernel
theorem dX0_sideAgainst_41 : decode cX0_sideAgainst 41 = .ok (.iconst 2, 1) := by decide +kernel
theorem dX0_sideAgainst_42 : decode cX0_sideAgainst 42 = .ok (.isub, 1) := by decide +kernel
theorem dX0_sideAgainst_43 : decode cX0_sideAgainst 43 = .ok (.ishl, 1) := by decide +kernel
theorem dX0_sideAgainst_44 : decode cX0_sideAgainst 44 = .ok (.istore 7, 2) := by decide +kernel
theorem dX0_sideAgainst_46 : decode cX0_sideAgainst 46 = .ok (.iconst 0, 1) := by decide +kernel
theorem dX0_sideAgainst_47 : decode cX0_sideAgainst 47 = .ok (.istore 8, 2) := by decide +kernel
theorem dX0_sideAgainst_49 : decode cX0_sideAgainst 49 = .ok (.iconst 1, 1) := by decide +kernel
theorem dX0_sideAgainst_50 : decode cX0_sideAgainst 50 = .ok (.istore 9, 2) := by decide +kernel
theorem dX0_sideAgainst_52 : decode cX0_sideAgainst 52 = .ok (.iload 9, 2) := by decide +kernel
theorem dX0_sideAgainst_54 : decode cX0_sideAgainst 54 = .ok (.iload 7, 2) := by decide +kernel
theorem dX0_sideAgainst_56 : decode cX0_sideAgainst 56 = .ok (.if_icmp .ge 45, 3) := by decide +kernel
theorem dX0_sideAgainst_59 : decode cX0_sideAgainst 59 = .ok (.iload 4, 2) := by decide +kernel
theorem dX0_sideAgainst_61 : decode cX0_sideAgainst 61 = .ok (.iload 8, 2) := by decide +kernel
theorem dX0_sideAgainst_63 : decode cX0_sideAgainst 63 = .ok (.invokestatic 54, 3) := by decide +kernel
theorem dX0_sideAgainst_66 : decode cX0_sideAgainst 66 = .ok (.istore 8, 2) := by decide +kernel
theorem dX0_sideAgainst_68 : decode cX0_sideAgainst 68 = .ok (.aload_n 0, 1) := by decide +kernel
theorem dX0_sideAgainst_69 : decode cX0_sideAgainst 69 = .ok (.iload_n 3, 1) := by decide +kernel
theorem dX0_sideAgainst_70 : decode cX0_sideAgainst 70 = .ok (.iload 8, 2) := by decide +kernel
theorem dX0_sideAgainst_72 : decode cX0_sideAgainst 72 = .ok (.ior, 1) := by decide +kernel
theorem dX0_sideAgainst_73 : decode cX0_sideAgainst 73 = .ok (.invokevirtual 51, 3) := by decide +kernel
theorem dX0_sideAgainst_76 : decode cX0_sideAgainst 76 = .ok (.istore 10, 2) := by decide +kernel
theorem dX0_sideAgainst_78 : decode cX0_sideAgainst 78 = .ok (.iload 10, 2) := by decide +kernel
theorem dX0_sideAgainst_80 : decode cX0_sideAgainst 80 = .ok (.iload 6, 2) := by decide +kernel
theorem dX0_sideAgainst_82 : decode cX0_sideAgainst 82 = .ok (.if_icmp .ge 13, 3) := by decide +kernel
theorem dX0_sideAgainst_85 : decode cX0_sideAgainst 85 = .ok (.iload_n 3, 1) := by decide +kernel
theorem dX0_sideAgainst_86 : decode cX0_sideAgainst 86 = .ok (.iload 8, 2) := by decide +kernel
theorem dX0_sideAgainst_88 : decode cX0_sideAgainst 88 = .ok (.ior, 1) := by decide +kernel
theorem dX0_sideAgainst_89 : decode cX0_sideAgainst 89 = .ok (.istore 5, 2) := by decide +kernel
theorem dX0_sideAgainst_91 : decode cX0_sideAgainst 91 = .ok (.iload 10, 2) := by decide +kernel
theorem dX0_sideAgainst_93 : decode cX0_sideAgainst 93 = .ok (.istore 6, 2) := by decide +kernel
theorem dX0_sideAgainst_95 : decode cX0_sideAgainst 95 = .ok (.iinc 9 1, 3) := by decide +kernel
theorem dX0_sideAgainst_98 : decode cX0_sideAgainst 98 = .ok (.goto (-46), 3) := by decide +kernel
theorem dX0_sideAgainst_101 : decode cX0_sideAgainst 101 = .ok (.iload 5, 2) := by decide +kernel
theorem dX0_sideAgainst_103 : decode cX0_sideAgainst 103 = .ok (.ireturn, 1) := by decide +kernel
theorem dX0_leastCut_0 : decode cX0_leastCut 0 = .ok (.aload_n 0, 1) := by decide +kernel
theorem dX0_leastCut_1 : decode cX0_leastCut 1 = .ok (.iconst 2, 1) := by decide +kernel
theorem dX0_leastCut_2 : decode cX0_leastCut 2 = .ok (.invokevirtual 51, 3) := by decide +kernel
theorem dX0_leastCut_5 : decode cX0_leastCut 5 = .ok (.istore_n 1, 1) := by decide +kernel
theorem dX0_leastCut_6 : decode cX0_leastCut 6 = .ok (.iconst 4, 1) := by decide +kernel
theorem dX0_leastCut_7 : decode cX0_leastCut 7 = .ok (.istore_n 2, 1) := by decide +kernel
theorem dX0_leastCut_8 : decode cX0_leastCut 8 = .ok (.iload_n 2, 1) := by decide +kernel
theorem dX0_leastCut_9 : decode cX0_leastCut 9 = .ok (.aload_n 0, 1) := by decide +kernel
theorem dX0_leastCut_10 : decode cX0_leastCut 10 = .ok (.getfield 19, 3) := by decide +kernel
theorem dX0_leastCut_13 : decode cX0_leastCut 13 = .ok (.invokevirtual 43, 3) := by decide +kernel
theorem dX0_leastCut_16 : decode cX0_leastCut 16 = .ok (.if_icmp .gt 19, 3) := by decide +kernel
theorem dX0_leastCut_19 : decode cX0_leastCut 19 = .ok (.iload_n 1, 1) := by decide +kernel
theorem dX0_leastCut_20 : decode cX0_leastCut 20 = .ok (.aload_n 0, 1) := by decide +kernel
theorem dX0_leastCut_21 : decode cX0_leastCut 21 = .ok (.iload_n 2, 1) := by decide +kernel
theorem dX0_leastCut_22 : decode cX0_leastCut 22 = .ok (.invokevirtual 51, 3) := by decide +kernel
theorem dX0_leastCut_25 : decode cX0_leastCut 25 = .ok (.invokestatic 57, 3) := by decide +kernel
theorem dX0_leastCut_28 : decode cX0_leastCut 28 = .ok (.istore_n 1, 1) := by decide +kernel
theorem dX0_leastCut_29 : decode cX0_leastCut 29 = .ok (.iinc 2 2, 3) := by decide +kernel
theorem dX0_leastCut_32 : decode cX0_leastCut 32 = .ok (.goto (-24), 3) := by decide +kernel
theorem dX0_leastCut_35 : decode cX0_leastCut 35 = .ok (.iload_n 1, 1) := by decide +kernel
theorem dX0_leastCut_36 : decode cX0_leastCut 36 = .ok (.ireturn, 1) := by decide +kernel
theorem dX0_countLeastOnes_0 : decode cX0_countLeastOnes 0 = .ok (.aload_n 0, 1) := by decide +kernel
theorem dX0_countLeastOnes_1 : decode cX0_countLeastOnes 1 = .ok (.invokevirtual 62, 3) := by decide +kernel
theorem dX0_countLeastOnes_4 : decode cX0_countLeastOnes 4 = .ok (.istore_n 1, 1) := by decide +kernel
theorem dX0_countLeastOnes_5 : decode cX0_countLeastOnes 5 = .ok (.iconst 0, 1) := by decide +kernel
theorem dX0_countLeastOnes_6 : decode cX0_countLeastOnes 6 = .ok (.istore_n 2, 1) := by decide +kernel
theorem dX0_countLeastOnes_7 : decode cX0_countLeastOnes 7 = .ok (.iconst 2, 1) := by decide +kernel
theorem dX0_countLeastOnes_8 : decode cX0_countLeastOnes 8 = .ok (.istore_n 3, 1) := by decide +kernel
theorem dX0_countLeastOnes_9 : decode cX0_countLeastOnes 9 = .ok (.iload_n 3, 1) := by decide +kernel
theorem dX0_countLeastOnes_10 : decode cX0_countLeastOnes 10 = .ok (.aload_n 0, 1) := by decide +kernel
theorem dX0_countLeastOnes_11 : decode cX0_countLeastOnes 11 = .ok (.getfield 19, 3) := by decide +kernel
theorem dX0_countLeastOnes_14 : decode cX0_countLeastOnes 14 = .ok (.invokevirtual 43, 3) := by decide +kernel
theorem dX0_countLeastOnes_17 : decode cX0_countLeastOnes 17 = .ok (.if_icmp .gt 21, 3) := by decide +kernel
theorem dX0_countLeastOnes_20 : decode cX0_countLeastOnes 20 = .ok (.aload_n 0, 1) := by decide +kernel
theorem dX0_countLeastOnes_21 : decode cX0_countLeastOnes 21 = .ok (.iload_n 3, 1) := by decide +kernel
theorem dX0_countLeastOnes_22 : decode cX0_countLeastOnes 22 = .ok (.invokevirtual 51, 3) := by decide +kernel
theorem dX0_countLeastOnes_25 : decode cX0_countLeastOnes 25 = .ok (.iload_n 1, 1) := by decide +kernel
theorem dX0_countLeastOnes_26 : decode cX0_countLeastOnes 26 = .ok (.if_icmp .ne 6, 3) := by decide +kernel
theorem dX0_countLeastOnes_29 : decode cX0_countLeastOnes 29 = .ok (.iinc 2 1, 3) := by decide +kernel
theorem dX0_countLeastOnes_32 : decode cX0_countLeastOnes 32 = .ok (.iinc 3 2, 3) := by decide +kernel
theorem dX0_countLeastOnes_35 : decode cX0_countLeastOnes 35 = .ok (.goto (-26), 3) := by decide +kernel
theorem dX0_countLeastOnes_38 : decode cX0_countLeastOnes 38 = .ok (.iload_n 2, 1) := by decide +kernel
theorem dX0_countLeastOnes_39 : decode cX0_countLeastOnes 39 = .ok (.ireturn, 1) := by decide +kernel
theorem dX0_leastOne_0 : decode cX0_leastOne 0 = .ok (.aload_n 0, 1) := by decide +kernel
theorem dX0_leastOne_1 : decode cX0_leastOne 1 = .ok (.invokevirtual 62, 3) := by decide +kernel
theorem dX0_leastOne_4 : decode cX0_leastOne 4 = .ok (.istore_n 2, 1) := by decide +kernel
theorem dX0_leastOne_5 : decode cX0_leastOne 5 = .ok (.iconst 0, 1) := by decide +kernel
theorem dX0_leastOne_6 : decode cX0_leastOne 6 = .ok (.istore_n 3, 1) := by decide +kernel
theorem dX0_leastOne_7 : decode cX0_leastOne 7 = .ok (.iconst 2, 1) := by decide +kernel
theorem dX0_leastOne_8 : decode cX0_leastOne 8 = .ok (.istore 4, 2) := by decide +kernel
theorem dX0_leastOne_10 : decode cX0_leastOne 10 = .ok (.iload 4, 2) := by decide +kernel
theorem dX0_leastOne_12 : decode cX0_leastOne 12 = .ok (.aload_n 0, 1) := by decide +kernel
theorem dX0_leastOne_13 : decode cX0_leastOne 13 = .ok (.getfield 19, 3) := by decide +kernel
theorem dX0_leastOne_16 : decode cX0_leastOne 16 = .ok (.invokevirtual 43, 3) := by decide +kernel
theorem dX0_leastOne_19 : decode cX0_leastOne 19 = .ok (.if_icmp .gt 30, 3) := by decide +kernel
theorem dX0_leastOne_22 : decode cX0_leastOne 22 = .ok (.aload_n 0, 1) := by decide +kernel
theorem dX0_leastOne_23 : decode cX0_leastOne 23 = .ok (.iload 4, 2) := by decide +kernel
theorem dX0_leastOne_25 : decode cX0_leastOne 25 = .ok (.invokevirtual 51, 3) := by decide +kernel
theorem dX0_leastOne_28 : decode cX0_leastOne 28 = .ok (.iload_n 2, 1) := by decide +kernel
theorem dX0_leastOne_29 : decode cX0_leastOne 29 = .ok (.if_icmp .ne 14, 3) := by decide +kernel
theorem dX0_leastOne_32 : decode cX0_leastOne 32 = .ok (.iload_n 3, 1) := by decide +kernel
theorem dX0_leastOne_33 : decode cX0_leastOne 33 = .ok (.iload_n 1, 1) := by decide +kernel
theorem dX0_leastOne_34 : decode cX0_leastOne 34 = .ok (.if_icmp .ne 6, 3) := by decide +kernel
theorem dX0_leastOne_37 : decode cX0_leastOne 37 = .ok (.iload 4, 2) := by decide +kernel
theorem dX0_leastOne_39 : decode cX0_leastOne 39 = .ok (.ireturn, 1) := by decide +kernel
theorem dX0_leastOne_40 : decode cX0_leastOne 40 = .ok (.iinc 3 1, 3) := by decide +kernel
theorem dX0_leastOne_43 : decode cX0_leastOne 43 = .ok (.iinc 4 2, 3) := by decide +kernel
theorem dX0_leastOne_46 : decode cX0_leastOne 46 = .ok (.goto (-36), 3) := by decide +kernel
theorem dX0_leastOne_49 : decode cX0_leastOne 49 = .ok (.iconst (-1), 1) := by decide +kernel
theorem dX0_leastOne_50 : decode cX0_leastOne 50 = .ok (.ireturn, 1) := by decide +kernel
theorem dX0_sparsestSide_0 : decode cX0_sparsestSide 0 = .ok (.iconst 2, 1) := by decide +kernel
theorem dX0_sparsestSide_1 : decode cX0_sparsestSide 1 = .ok (.istore_n 1, 1) := by decide +kernel
theorem dX0_sparsestSide_2 : decode cX0_sparsestSide 2 = .ok (.aload_n 0, 1) := by decide +kernel
theorem dX0_sparsestSide_3 : decode cX0_sparsestSide 3 = .ok (.iconst 2, 1) := by decide +kernel
theorem dX0_sparsestSide_4 : decode cX0_sparsestSide 4 = .ok (.invokevirtual 51, 3) := by decide +kernel
theorem dX0_sparsestSide_7 : decode cX0_sparsestSide 7 = .ok (.istore_n 2, 1) := by decide +kernel
theorem dX0_sparsestSide_8 : decode cX0_sparsestSide 8 = .ok (.aload_n 0, 1) := by decide +kernel
theorem dX0_sparsestSide_9 : decode cX0_sparsestSide 9 = .ok (.getfield 19, 3) := by decide +kernel
theorem dX0_sparsestSide_12 : decode cX0_sparsestSide 12 = .ok (.iconst 2, 1) := by decide +kernel
theorem dX0_sparsestSide_13 : decode cX0_sparsestSide 13 = .ok (.invokevirtual 65, 3) := by decide +kernel
theorem dX0_sparsestSide_16 : decode cX0_sparsestSide 16 = .ok (.istore_n 3, 1) := by decide +kernel
theorem dX0_sparsestSide_17 : decode cX0_sparsestSide 17 = .ok (.iconst 4, 1) := by decide +kernel
theorem dX0_sparsestSide_18 : decode cX0_sparsestSide 18 = .ok (.istore 4, 2) := by decide +kernel
theorem dX0_sparsestSide_20 : decode cX0_sparsestSide 20 = .ok (.iload 4, 2) := by decide +kernel
theorem dX0_sparsestSide_22 : decode cX0_sparsestSide 22 = .ok (.aload_n 0, 1) := by decide +kernel
theorem dX0_sparsestSide_23 : decode cX0_sparsestSide 23 = .ok (.getfield 19, 3) := by decide +kernel
theorem dX0_sparsestSide_26 : decode cX0_sparsestSide 26 = .ok (.invokevirtual 43, 3) := by decide +kernel
theorem dX0_sparsestSide_29 : decode cX0_sparsestSide 29 = .ok (.if_icmp .gt 48, 3) := by decide +kernel
theorem dX0_sparsestSide_32 : decode cX0_sparsestSide 32 = .ok (.aload_n 0, 1) := by decide +kernel
theorem dX0_sparsestSide_33 : decode cX0_sparsestSide 33 = .ok (.iload 4, 2) := by decide +kernel
theorem dX0_sparsestSide_35 : decode cX0_sparsestSide 35 = .ok (.invokevirtual 51, 3) := by decide +kernel
theorem dX0_sparsestSide_38 : decode cX0_sparsestSide 38 = .ok (.istore 5, 2) := by decide +kernel
theorem dX0_sparsestSide_40 : decode cX0_sparsestSide 40 = .ok (.aload_n 0, 1) := by decide +kernel
theorem dX0_sparsestSide_41 : decode cX0_sparsestSide 41 = .ok (.getfield 19, 3) := by decide +kernel
theorem dX0_sparsestSide_44 : decode cX0_sparsestSide 44 = .ok (.iload 4, 2) := by decide +kernel
theorem dX0_sparsestSide_46 : decode cX0_sparsestSide 46 = .ok (.invokevirtual 65, 3) := by decide +kernel
theorem dX0_sparsestSide_49 : decode cX0_sparsestSide 49 = .ok (.istore 6, 2) := by decide +kernel
theorem dX0_sparsestSide_51 : decode cX0_sparsestSide 51 = .ok (.iload 5, 2) := by decide +kernel
theorem dX0_sparsestSide_53 : decode cX0_sparsestSide 53 = .ok (.iload_n 3, 1) := by decide +kernel
theorem dX0_sparsestSide_54 : decode cX0_sparsestSide 54 = .ok (.imul, 1) := by decide +kernel
theorem dX0_sparsestSide_55 : decode cX0_sparsestSide 55 = .ok (.iload_n 2, 1) := by decide +kernel
theorem dX0_sparsestSide_56 : decode cX0_sparsestSide 56 = .ok (.iload 6, 2) := by decide +kernel
theorem dX0_sparsestSide_58 : decode cX0_sparsestSide 58 = .ok (.imul, 1) := by decide +kernel
theorem dX0_sparsestSide_59 : decode cX0_sparsestSide 59 = .ok (.if_icmp .ge 12, 3) := by decide +kernel
theorem dX0_sparsestSide_62 : decode cX0_sparsestSide 62 = .ok (.iload 4, 2) := by decide +kernel
theorem dX0_sparsestSide_64 : decode cX0_sparsestSide 64 = .ok (.istore_n 1, 1) := by decide +kernel
theorem dX0_sparsestSide_65 : decode cX0_sparsestSide 65 = .ok (.iload 5, 2) := by decide +kernel
theorem dX0_sparsestSide_67 : decode cX0_sparsestSide 67 = .ok (.istore_n 2, 1) := by decide +kernel
theorem dX0_sparsestSide_68 : decode cX0_sparsestSide 68 = .ok (.iload 6, 2) := by decide +kernel
theorem dX0_sparsestSide_70 : decode cX0_sparsestSide 70 = .ok (.istore_n 3, 1) := by decide +kernel
theorem dX0_sparsestSide_71 : decode cX0_sparsestSide 71 = .ok (.iinc 4 2, 3) := by decide +kernel
theorem dX0_sparsestSide_74 : decode cX0_sparsestSide 74 = .ok (.goto (-54), 3) := by decide +kernel
theorem dX0_sparsestSide_77 : decode cX0_sparsestSide 77 = .ok (.iload_n 1, 1) := by decide +kernel
theorem dX0_sparsestSide_78 : decode cX0_sparsestSide 78 = .ok (.ireturn, 1) := by decide +kernel
theorem dX1_init_0 : decode cX1_init 0 = .ok (.aload_n 0, 1) := by decide +kernel
theorem dX1_init_1 : decode cX1_init 1 = .ok (.invokespecial 3, 3) := by decide +kernel
theorem dX1_init_4 : decode cX1_init 4 = .ok (.aload_n 0, 1) := by decide +kernel
theorem dX1_init_5 : decode cX1_init 5 = .ok (.bipush 12, 2) := by decide +kernel
theorem dX1_init_7 : decode cX1_init 7 = .ok (.newarray .int, 2) := by decide +kernel
theorem dX1_init_9 : decode cX1_init 9 = .ok (.putfield 9, 3) := by decide +kernel
theorem dX1_init_12 : decode cX1_init 12 = .ok (.aload_n 0, 1) := by decide +kernel
theorem dX1_init_13 : decode cX1_init 13 = .ok (.aload_n 1, 1) := by decide +kernel
theorem dX1_init_14 : decode cX1_init 14 = .ok (.putfield 15, 3) := by decide +kernel
theorem dX1_init_17 : decode cX1_init 17 = .ok (.return_, 1) := by decide +kernel
theorem dX1_drawBy_0 : decode cX1_drawBy 0 = .ok (.iconst 0, 1) := by decide +kernel
theorem dX1_drawBy_1 : decode cX1_drawBy 1 = .ok (.istore_n 2, 1) := by decide +kernel
theorem dX1_drawBy_2 : decode cX1_drawBy 2 = .ok (.iload_n 2, 1) := by decide +kernel
theorem dX1_drawBy_3 : decode cX1_drawBy 3 = .ok (.aload_n 0, 1) := by decide +kernel
theorem dX1_drawBy_4 : decode cX1_drawBy 4 = .ok (.getfield 15, 3) := by decide +kernel
theorem dX1_drawBy_7 : decode cX1_drawBy 7 = .ok (.getfield 19, 3) := by decide +kernel
theorem dX1_drawBy_10 : decode cX1_drawBy 10 = .ok (.if_icmp .ge 18, 3) := by decide +kernel
theorem dX1_drawBy_13 : decode cX1_drawBy 13 = .ok (.aload_n 0, 1) := by decide +kernel
theorem dX1_drawBy_14 : decode cX1_drawBy 14 = .ok (.getfield 9, 3) := by decide +kernel
theorem dX1_drawBy_17 : decode cX1_drawBy 17 = .ok (.iload_n 2, 1) := by decide +kernel
theorem dX1_drawBy_18 : decode cX1_drawBy 18 = .ok (.iconst 1, 1) := by decide +kernel
theorem dX1_drawBy_19 : decode cX1_drawBy 19 = .ok (.iload_n 2, 1) := by decide +kernel
theorem dX1_drawBy_20 : decode cX1_drawBy 20 = .ok (.ishl, 1) := by decide +kernel
theorem dX1_drawBy_21 : decode cX1_drawBy 21 = .ok (.iastore, 1) := by decide +kernel
theorem dX1_drawBy_22 : decode cX1_drawBy 22 = .ok (.iinc 2 1, 3) := by decide +kernel
theorem dX1_drawBy_25 : decode cX1_drawBy 25 = .ok (.goto (-23), 3) := by decide +kernel
theorem dX1_drawBy_28 : decode cX1_drawBy 28 = .ok (.iload_n 1, 1) := by decide +kernel
theorem dX1_drawBy_29 : decode cX1_drawBy 29 = .ok (.istore_n 2, 1) := by decide +kernel
theorem dX1_drawBy_30 : decode cX1_drawBy 30 = .ok (.aload_n 0, 1) := by decide +kernel
theorem dX1_drawBy_31 : decode cX1_drawBy 31 = .ok (.getfield 15, 3) := by decide +kernel
theorem dX1_drawBy_34 : decode cX1_drawBy 34 = .ok (.getfield 19, 3) := by decide +kernel
theorem dX1_drawBy_37 : decode cX1_drawBy 37 = .ok (.istore_n 3, 1) := by decide +kernel
theorem dX1_drawBy_38 : decode cX1_drawBy 38 = .ok (.iload_n 3, 1) := by decide +kernel
theorem dX1_drawBy_39 : decode cX1_drawBy 39 = .ok (.iconst 2, 1) := by decide +kernel
theorem dX1_drawBy_40 : decode cX1_drawBy 40 = .ok (.if_icmp .le 42, 3) := by decide +kernel
theorem dX1_drawBy_43 : decode cX1_drawBy 43 = .ok (.aload_n 0, 1) := by decide +kernel
theorem dX1_drawBy_44 : decode cX1_drawBy 44 = .ok (.invokevirtual 25, 3) := by decide +kernel
theorem dX1_drawBy_47 : decode cX1_drawBy 47 = .ok (.istore 4, 2) := by decide +kernel
theorem dX1_drawBy_49 : decode cX1_drawBy 49 = .ok (.iload 4, 2) := by decide +kernel
theorem dX1_drawBy_51 : decode cX1_drawBy 51 = .ok (.iconst 1, 1) := by decide +kernel
theorem dX1_drawBy_52 : decode cX1_drawBy 52 = .ok (.if_icmp .ge 6, 3) := by decide +kernel
theorem dX1_drawBy_55 : decode cX1_drawBy 55 = .ok (.goto 27, 3) := by decide +kernel
theorem dX1_drawBy_58 : decode cX1_drawBy 58 = .ok (.iload_n 2, 1) := by decide +kernel
theorem dX1_drawBy_59 : decode cX1_drawBy 59 = .ok (.ldc 29, 2) := by decide +kernel
theorem dX1_drawBy_61 : decode cX1_drawBy 61 = .ok (.imul, 1) := by decide +kernel
theorem dX1_drawBy_62 : decode cX1_drawBy 62 = .ok (.ldc 30, 2) := by decide +kernel
theorem dX1_drawBy_64 : decode cX1_drawBy 64 = .ok (.iadd, 1) := by decide +kernel
theorem dX1_drawBy_65 : decode cX1_drawBy 65 = .ok (.istore_n 2, 1) := by decide +kernel
theorem dX1_drawBy_66 : decode cX1_drawBy 66 = .ok (.aload_n 0, 1) := by decide +kernel
theorem dX1_drawBy_67 : decode cX1_drawBy 67 = .ok (.iload_n 2, 1) := by decide +kernel
theorem dX1_drawBy_68 : decode cX1_drawBy 68 = .ok (.iconst 1, 1) := by decide +kernel
theorem dX1_drawBy_69 : decode cX1_drawBy 69 = .ok (.iushr, 1) := by decide +kernel
theorem dX1_drawBy_70 : decode cX1_drawBy 70 = .ok (.iload 4, 2) := by decide +kernel
theorem dX1_drawBy_72 : decode cX1_drawBy 72 = .ok (.irem, 1) := by decide +kernel
theorem dX1_drawBy_73 : decode cX1_drawBy 73 = .ok (.invokevirtual 31, 3) := by decide +kernel
theorem dX1_drawBy_76 : decode cX1_drawBy 76 = .ok (.iinc 3 (-1), 3) := by decide +kernel
theorem dX1_drawBy_79 : decode cX1_drawBy 79 = .ok (.goto (-41), 3) := by decide +kernel
theorem dX1_drawBy_82 : decode cX1_drawBy 82 = .ok (.aload_n 0, 1) := by decide +kernel
theorem dX1_drawBy_83 : decode cX1_drawBy 83 = .ok (.getfield 9, 3) := by decide +kernel
theorem dX1_drawBy_86 : decode cX1_drawBy 86 = .ok (.iconst 0, 1) := by decide +kernel
theorem dX1_drawBy_87 : decode cX1_drawBy 87 = .ok (.iaload, 1) := by decide +kernel
theorem dX1_drawBy_88 : decode cX1_drawBy 88 = .ok (.ireturn, 1) := by decide +kernel
theorem dX1_isBetweenGroups_0 : decode cX1_isBetweenGroups 0 = .ok (.aload_n 0, 1) := by decide +kernel
theorem dX1_isBetweenGroups_1 : decode cX1_isBetweenGroups 1 = .ok (.getfield 9, 3) := by decide +kernel
theorem dX1_isBetweenGroups_4 : decode cX1_isBetweenGroups 4 = .ok (.aload_n 0, 1) := by decide +kernel
theorem dX1_isBetweenGroups_5 : decode cX1_isBetweenGroups 5 = .ok (.getfield 15, 3) := by decide +kernel
theorem dX1_isBetweenGroups_8 : decode cX1_isBetweenGroups 8 = .ok (.getfield 35, 3) := by decide +kernel
theorem dX1_isBetweenGroups_11 : decode cX1_isBetweenGroups 11 = .ok (.iload_n 1, 1) := by decide +kernel
theorem dX1_isBetweenGroups_12 : decode cX1_isBetweenGroups 12 = .ok (.iaload, 1) := by decide +kernel
theorem dX1_isBetweenGroups_13 : decode cX1_isBetweenGroups 13 = .ok (.iaload, 1) := by decide +kernel
theorem dX1_isBetweenGroups_14 : decode cX1_isBetweenGroups 14 = .ok (.aload_n 0, 1) := by decide +kernel
theorem dX1_isBetweenGroups_15 : decode cX1_isBetweenGroups 15 = .ok (.getfield 9, 3) := by decide +kernel
theorem dX1_isBetweenGroups_18 : decode cX1_isBetweenGroups 18 = .ok (.aload_n 0, 1) := by decide +kernel
theorem dX1_isBetweenGroups_19 : decode cX1_isBetweenGroups 19 = .ok (.getfield 15, 3) := by decide +kernel
theorem dX1_isBetweenGroups_22 : decode cX1_isBetweenGroups 22 = .ok (.getfield 38, 3) := by decide +kernel
theorem dX1_isBetweenGroups_25 : decode cX1_isBetweenGroups 25 = .ok (.iload_n 1, 1) := by decide +kernel
theorem dX1_isBetweenGroups_26 : decode cX1_isBetweenGroups 26 = .ok (.iaload, 1) := by decide +kernel
theorem dX1_isBetweenGroups_27 : decode cX1_isBetweenGroups 27 = .ok (.iaload, 1) := by decide +kernel
theorem dX1_isBetweenGroups_28 : decode cX1_isBetweenGroups 28 = .ok (.if_icmp .eq 7, 3) := by decide +kernel
theorem dX1_isBetweenGroups_31 : decode cX1_isBetweenGroups 31 = .ok (.iconst 1, 1) := by decide +kernel
theorem dX1_isBetweenGroups_32 : decode cX1_isBetweenGroups 32 = .ok (.goto 4, 3) := by decide +kernel
theorem dX1_isBetweenGroups_35 : decode cX1_isBetweenGroups 35 = .ok (.iconst 0, 1) := by decide +kernel
theorem dX1_isBetweenGroups_36 : decode cX1_isBetweenGroups 36 = .ok (.ireturn, 1) := by decide +kernel
theorem dX1_weightBetweenGroups_0 : decode cX1_weightBetweenGroups 0 = .ok (.iconst 0, 1) := by decide +kernel
theorem dX1_weightBetweenGroups_1 : decode cX1_weightBetweenGroups 1 = .ok (.istore_n 1, 1) := by decide +kernel
theorem dX1_weightBetweenGroups_2 : decode cX1_weightBetweenGroups 2 = .ok (.iconst 0, 1) := by decide +kernel
theorem dX1_weightBetweenGroups_3 : decode cX1_weightBetweenGroups 3 = .ok (.istore_n 2, 1) := by decide +kernel
theorem dX1_weightBetweenGroups_4 : decode cX1_weightBetweenGroups 4 = .ok (.iload_n 2, 1) := by decide +kernel
theorem dX1_weightBetweenGroups_5 : decode cX1_weightBetweenGroups 5 = .ok (.aload_n 0, 1) := by decide +kernel
theorem dX1_weightBetweenGroups_6 : decode cX1_weightBetweenGroups 6 = .ok (.getfield 15, 3) := by decide +kernel
theorem dX1_weightBetweenGroups_9 : decode cX1_weightBetweenGroups 9 = .ok (.getfield 41, 3) := by decide +kernel
theorem dX1_weightBetweenGroups_12 : decode cX1_weightBetweenGroups 12 = .ok (.if_icmp .ge 29, 3) := by decide +kernel
theorem dX1_weightBetweenGroups_15 : decode cX1_weightBetweenGroups 15 = .ok (.aload_n 0, 1) := by decide +kernel
theorem dX1_weightBetweenGroups_16 : decode cX1_weightBetweenGroups 16 = .ok (.iload_n 2, 1) := by decide +kernel
theorem dX1_weightBetweenGroups_17 : decode cX1_weightBetweenGroups 17 = .ok (.invokevirtual 44, 3) := by decide +kernel
theorem dX1_weightBetweenGroups_20 : decode cX1_weightBetweenGroups 20 = .ok (.ifCond .eq 15, 3) := by decide +kernel
theorem dX1_weightBetweenGroups_23 : decode cX1_weightBetweenGroups 23 = .ok (.iload_n 1, 1) := by decide +kernel
theorem dX1_weightBetweenGroups_24 : decode cX1_weightBetweenGroups 24 = .ok (.aload_n 0, 1) := by decide +kernel
theorem dX1_weightBetweenGroups_25 : decode cX1_weightBetweenGroups 25 = .ok (.getfield 15, 3) := by decide +kernel
theorem dX1_weightBetweenGroups_28 : decode cX1_weightBetweenGroups 28 = .ok (.getfield 48, 3) := by decide +kernel
theorem dX1_weightBetweenGroups_31 : decode cX1_weightBetweenGroups 31 = .ok (.iload_n 2, 1) := by decide +kernel
theorem dX1_weightBetweenGroups_32 : decode cX1_weightBetweenGroups 32 = .ok (.iaload, 1) := by decide +kernel
theorem dX1_weightBetweenGroups_33 : decode cX1_weightBetweenGroups 33 = .ok (.iadd, 1) := by decide +kernel
theorem dX1_weightBetweenGroups_34 : decode cX1_weightBetweenGroups 34 = .ok (.istore_n 1, 1) := by decide +kernel
theorem dX1_weightBetweenGroups_35 : decode cX1_weightBetweenGroups 35 = .ok (.iinc 2 1, 3) := by decide +kernel
theorem dX1_weightBetweenGroups_38 : decode cX1_weightBetweenGroups 38 = .ok (.goto (-34), 3) := by decide +kernel
theorem dX1_weightBetweenGroups_41 : decode cX1_weightBetweenGroups 41 = .ok (.iload_n 1, 1) := by decide +kernel
theorem dX1_weightBetweenGroups_42 : decode cX1_weightBetweenGroups 42 = .ok (.ireturn, 1) := by decide +kernel
theorem dX1_joinByArcAt_0 : decode cX1_joinByArcAt 0 = .ok (.iconst 0, 1) := by decide +kernel
theorem dX1_joinByArcAt_1 : decode cX1_joinByArcAt 1 = .ok (.istore_n 2, 1) := by decide +kernel
theorem dX1_joinByArcAt_2 : decode cX1_joinByArcAt 2 = .ok (.iconst 0, 1) := by decide +kernel
theorem dX1_joinByArcAt_3 : decode cX1_joinByArcAt 3 = .ok (.istore_n 3, 1) := by decide +kernel
theorem dX1_joinByArcAt_4 : decode cX1_joinByArcAt 4 = .ok (.iload_n 3, 1) := by decide +kernel
theorem dX1_joinByArcAt_5 : decode cX1_joinByArcAt 5 = .ok (.aload_n 0, 1) := by decide +kernel
theorem dX1_joinByArcAt_6 : decode cX1_joinByArcAt 6 = .ok (.getfield 15, 3) := by decide +kernel
theorem dX1_joinByArcAt_9 : decode cX1_joinByArcAt 9 = .ok (.getfield 41, 3) := by decide +kernel
theorem dX1_joinByArcAt_12 : decode cX1_joinByArcAt 12 = .ok (.if_icmp .ge 68, 3) := by decide +kernel
theorem dX1_joinByArcAt_15 : decode cX1_joinByArcAt 15 = .ok (.aload_n 0, 1) := by decide +kernel
theorem dX1_joinByArcAt_16 : decode cX1_joinByArcAt 16 = .ok (.iload_n 3, 1) := by decide +kernel
theorem dX1_joinByArcAt_17 : decode cX1_joinByArcAt 17 = .ok (.invokevirtual 44, 3) := by decide +kernel
theorem dX1_joinByArcAt_20 : decode cX1_joinByArcAt 20 = .ok (.ifCond .eq 54, 3) := by decide +kernel
theorem dX1_joinByArcAt_23 : decode cX1_joinByArcAt 23 = .ok (.iload_n 2, 1) := by decide +kernel
theorem dX1_joinByArcAt_24 : decode cX1_joinByArcAt 24 = .ok (.aload_n 0, 1) := by decide +kernel
theorem dX1_joinByArcAt_25 : decode cX1_joinByArcAt 25 = .ok (.getfield 15, 3) := by decide +kernel
theorem dX1_joinByArcAt_28 : decode cX1_joinByArcAt 28 = .ok (.getfield 48, 3) := by decide +kernel
theorem dX1_joinByArcAt_31 : decode cX1_joinByArcAt 31 = .ok (.iload_n 3, 1) := by decide +kernel
theorem dX1_joinByArcAt_32 : decode cX1_joinByArcAt 32 = .ok (.iaload, 1) := by decide +kernel
theorem dX1_joinByArcAt_33 : decode cX1_joinByArcAt 33 = .ok (.iadd, 1) := by decide +kernel
theorem dX1_joinByArcAt_34 : decode cX1_joinByArcAt 34 = .ok (.istore_n 2, 1) := by decide +kernel
theorem dX1_joinByArcAt_35 : decode cX1_joinByArcAt 35 = .ok (.iload_n 2, 1) := by decide +kernel
theorem dX1_joinByArcAt_36 : decode cX1_joinByArcAt 36 = .ok (.iload_n 1, 1) := by decide +kernel
theorem dX1_joinByArcAt_37 : decode cX1_joinByArcAt 37 = .ok (.if_icmp .le 37, 3) := by decide +kernel
theorem dX1_joinByArcAt_40 : decode cX1_joinByArcAt 40 = .ok (.aload_n 0, 1) := by decide +kernel
theorem dX1_joinByArcAt_41 : decode cX1_joinByArcAt 41 = .ok (.aload_n 0, 1) := by decide +kernel
theorem dX1_joinByArcAt_42 : decode cX1_joinByArcAt 42 = .ok (.getfield 9, 3) := by decide +kernel
theorem dX1_joinByArcAt_45 : decode cX1_joinByArcAt 45 = .ok (.aload_n 0, 1) := by decide +kernel
theorem dX1_joinByArcAt_46 : decode cX1_joinByArcAt 46 = .ok (.getfield 15, 3) := by decide +kernel
theorem dX1_joinByArcAt_49 : decode cX1_joinByArcAt 49 = .ok (.getfield 35, 3) := by decide +kernel
theorem dX1_joinByArcAt_52 : decode cX1_joinByArcAt 52 = .ok (.iload_n 3, 1) := by decide +kernel
theorem dX1_joinByArcAt_53 : decode cX1_joinByArcAt 53 = .ok (.iaload, 1) := by decide +kernel
theorem dX1_joinByArcAt_54 : decode cX1_joinByArcAt 54 = .ok (.iaload, 1) := by decide +kernel
theorem dX1_joinByArcAt_55 : decode cX1_joinByArcAt 55 = .ok (.aload_n 0, 1) := by decide +kernel
theorem dX1_joinByArcAt_56 : decode cX1_joinByArcAt 56 = .ok (.getfield 9, 3) := by decide +kernel
theorem dX1_joinByArcAt_59 : decode cX1_joinByArcAt 59 = .ok (.aload_n 0, 1) := by decide +kernel
theorem dX1_joinByArcAt_60 : decode cX1_joinByArcAt 60 = .ok (.getfield 15, 3) := by decide +kernel
theorem dX1_joinByArcAt_63 : decode cX1_joinByArcAt 63 = .ok (.getfield 38, 3) := by decide +kernel
theorem dX1_joinByArcAt_66 : decode cX1_joinByArcAt 66 = .ok (.iload_n 3, 1) := by decide +kernel
theorem dX1_joinByArcAt_67 : decode cX1_joinByArcAt 67 = .ok (.iaload, 1) := by decide +kernel
theorem dX1_joinByArcAt_68 : decode cX1_joinByArcAt 68 = .ok (.iaload, 1) := by decide +kernel
theorem dX1_joinByArcAt_69 : decode cX1_joinByArcAt 69 = .ok (.ior, 1) := by decide +kernel
theorem dX1_joinByArcAt_70 : decode cX1_joinByArcAt 70 = .ok (.invokevirtual 51, 3) := by decide +kernel
theorem dX1_joinByArcAt_73 : decode cX1_joinByArcAt 73 = .ok (.return_, 1) := by decide +kernel
theorem dX1_joinByArcAt_74 : decode cX1_joinByArcAt 74 = .ok (.iinc 3 1, 3) := by decide +kernel
theorem dX1_joinByArcAt_77 : decode cX1_joinByArcAt 77 = .ok (.goto (-73), 3) := by decide +kernel
theorem dX1_joinByArcAt_80 : decode cX1_joinByArcAt 80 = .ok (.return_, 1) := by decide +kernel
theorem dX1_joinGroups_0 : decode cX1_joinGroups 0 = .ok (.iconst 0, 1) := by decide +kernel
theorem dX1_joinGroups_1 : decode cX1_joinGroups 1 = .ok (.istore_n 2, 1) := by decide +kernel
theorem dX1_joinGroups_2 : decode cX1_joinGroups 2 = .ok (.iload_n 2, 1) := by decide +kernel
theorem dX1_joinGroups_3 : decode cX1_joinGroups 3 = .ok (.aload_n 0, 1) := by decide +kernel
theorem dX1_joinGroups_4 : decode cX1_joinGroups 4 = .ok (.getfield 15, 3) := by decide +kernel
theorem dX1_joinGroups_7 : decode cX1_joinGroups 7 = .ok (.getfield 19, 3) := by decide +kernel
theorem dX1_joinGroups_10 : decode cX1_joinGroups 10 = .ok (.if_icmp .ge 25, 3) := by decide +kernel
theorem dX1_joinGroups_13 : decode cX1_joinGroups 13 = .ok (.iload_n 1, 1) := by decide +kernel
theorem dX1_joinGroups_14 : decode cX1_joinGroups 14 = .ok (.iload_n 2, 1) := by decide +kernel
theorem dX1_joinGroups_15 : decode cX1_joinGroups 15 = .ok (.ishr, 1) := by decide +kernel
theorem dX1_joinGroups_16 : decode cX1_joinGroups 16 = .ok (.iconst 1, 1) := by decide +kernel
theorem dX1_joinGroups_17 : decode cX1_joinGroups 17 = .ok (.iand, 1) := by decide +kernel
theorem dX1_joinGroups_18 : decode cX1_joinGroups 18 = .ok (.iconst 1, 1) := by decide +kernel
theorem dX1_joinGroups_19 : decode cX1_joinGroups 19 = .ok (.if_icmp .ne 10, 3) := by decide +kernel
theorem dX1_joinGroups_22 : decode cX1_joinGroups 22 = .ok (.aload_n 0, 1) := by decide +kernel
theorem dX1_joinGroups_23 : decode cX1_joinGroups 23 = .ok (.getfield 9, 3) := by decide +kernel
theorem dX1_joinGroups_26 : decode cX1_joinGroups 26 = .ok (.iload_n 2, 1) := by decide +kernel
theorem dX1_joinGroups_27 : decode cX1_joinGroups 27 = .ok (.iload_n 1, 1) := by decide +kernel
theorem dX1_joinGroups_28 : decode cX1_joinGroups 28 = .ok (.iastore, 1) := by decide +kernel
theorem dX1_joinGroups_29 : decode cX1_joinGroups 29 = .ok (.iinc 2 1, 3) := by decide +kernel
theorem dX1_joinGroups_32 : decode cX1_joinGroups 32 = .ok (.goto (-30), 3) := by decide +kernel
theorem dX1_joinGroups_35 : decode cX1_joinGroups 35 = .ok (.return_, 1) := by decide +kernel
theorem dX3_init_0 : decode cX3_init 0 = .ok (.aload_n 0, 1) := by decide +kernel
theorem dX3_init_1 : decode cX3_init 1 = .ok (.invokespecial 3, 3) := by decide +kernel
theorem dX3_init_4 : decode cX3_init 4 = .ok (.aload_n 0, 1) := by decide +kernel
theorem dX3_init_5 : decode cX3_init 5 = .ok (.bipush 12, 2) := by decide +kernel
theorem dX3_init_7 : decode cX3_init 7 = .ok (.newarray .int, 2) := by decide +kernel
theorem dX3_init_9 : decode cX3_init 9 = .ok (.putfield 9, 3) := by decide +kernel
theorem dX3_init_12 : decode cX3_init 12 = .ok (.aload_n 0, 1) := by decide +kernel
theorem dX3_init_13 : decode cX3_init 13 = .ok (.bipush 12, 2) := by decide +kernel
theorem dX3_init_15 : decode cX3_init 15 = .ok (.newarray .int, 2) := by decide +kernel
theorem dX3_init_17 : decode cX3_init 17 = .ok (.putfield 15, 3) := by decide +kernel
theorem dX3_init_20 : decode cX3_init 20 = .ok (.aload_n 0, 1) := by decide +kernel
theorem dX3_init_21 : decode cX3_init 21 = .ok (.iconst (-1), 1) := by decide +kernel
theorem dX3_init_22 : decode cX3_init 22 = .ok (.putfield 18, 3) := by decide +kernel
theorem dX3_init_25 : decode cX3_init 25 = .ok (.aload_n 0, 1) := by decide +kernel
theorem dX3_init_26 : decode cX3_init 26 = .ok (.aload_n 1, 1) := by decide +kernel
theorem dX3_init_27 : decode cX3_init 27 = .ok (.putfield 22, 3) := by decide +kernel
theorem dX3_init_30 : decode cX3_init 30 = .ok (.aload_n 0, 1) := by decide +kernel
theorem dX3_init_31 : decode cX3_init 31 = .ok (.aload_n 2, 1) := by decide +kernel
theorem dX3_init_32 : decode cX3_init 32 = .ok (.putfield 26, 3) := by decide +kernel
theorem dX3_init_35 : decode cX3_init 35 = .ok (.return_, 1) := by decide +kernel
theorem dX3_refresh_0 : decode cX3_refresh 0 = .ok (.aload_n 0, 1) := by decide +kernel
theorem dX3_refresh_1 : decode cX3_refresh 1 = .ok (.getfield 18, 3) := by decide +kernel
theorem dX3_refresh_4 : decode cX3_refresh 4 = .ok (.aload_n 0, 1) := by decide +kernel
theorem dX3_refresh_5 : decode cX3_refresh 5 = .ok (.getfield 22, 3) := by decide +kernel
theorem dX3_refresh_8 : decode cX3_refresh 8 = .ok (.getfield 30, 3) := by decide +kernel
theorem dX3_refresh_11 : decode cX3_refresh 11 = .ok (.if_icmp .ne 4, 3) := by decide +kernel
theorem dX3_refresh_14 : decode cX3_refresh 14 = .ok (.return_, 1) := by decide +kernel
theorem dX3_refresh_15 : decode cX3_refresh 15 = .ok (.aload_n 0, 1) := by decide +kernel
theorem dX3_refresh_16 : decode cX3_refresh 16 = .ok (.aload_n 0, 1) := by decide +kernel
theorem dX3_refresh_17 : decode cX3_refresh 17 = .ok (.getfield 22, 3) := by decide +kernel
theorem dX3_refresh_20 : decode cX3_refresh 20 = .ok (.getfield 30, 3) := by decide +kernel
theorem dX3_refresh_23 : decode cX3_refresh 23 = .ok (.putfield 18, 3) := by decide +kernel
theorem dX3_refresh_26 : decode cX3_refresh 26 = .ok (.iconst 0, 1) := by decide +kernel
theorem dX3_refresh_27 : decode cX3_refresh 27 = .ok (.istore_n 1, 1) := by decide +kernel
theorem dX3_refresh_28 : decode cX3_refresh 28 = .ok (.iload_n 1, 1) := by decide +kernel
theorem dX3_refresh_29 : decode cX3_refresh 29 = .ok (.aload_n 0, 1) := by decide +kernel
theorem dX3_refresh_30 : decode cX3_refresh 30 = .ok (.getfield 22, 3) := by decide +kernel
theorem dX3_refresh_33 : decode cX3_refresh 33 = .ok (.getfield 35, 3) := by decide +kernel
theorem dX3_refresh_36 : decode cX3_refresh 36 = .ok (.if_icmp .ge 16, 3) := by decide +kernel
theorem dX3_refresh_39 : decode cX3_refresh 39 = .ok (.aload_n 0, 1) := by decide +kernel
theorem dX3_refresh_40 : decode cX3_refresh 40 = .ok (.getfield 9, 3) := by decide +kernel
theorem dX3_refresh_43 : decode cX3_refresh 43 = .ok (.iload_n 1, 1) := by decide +kernel
theorem dX3_refresh_44 : decode cX3_refresh 44 = .ok (.iconst 0, 1) := by decide +kernel
theorem dX3_refresh_45 : decode cX3_refresh 45 = .ok (.iastore, 1) := by decide +kernel
theorem dX3_refresh_46 : decode cX3_refresh 46 = .ok (.iinc 1 1, 3) := by decide +kernel
theorem dX3_refresh_49 : decode cX3_refresh 49 = .ok (.goto (-21), 3) := by decide +kernel
theorem dX3_refresh_52 : decode cX3_refresh 52 = .ok (.iconst 1, 1) := by decide +kernel
theorem dX3_refresh_53 : decode cX3_refresh 53 = .ok (.istore_n 1, 1) := by decide +kernel
theorem dX3_refresh_54 : decode cX3_refresh 54 = .ok (.iload_n 1, 1) := by decide +kernel
theorem dX3_refresh_55 : decode cX3_refresh 55 = .ok (.aload_n 0, 1) := by decide +kernel
theorem dX3_refresh_56 : decode cX3_refresh 56 = .ok (.getfield 22, 3) := by decide +kernel
theorem dX3_refresh_59 : decode cX3_refresh 59 = .ok (.getfield 35, 3) := by decide +kernel
theorem dX3_refresh_62 : decode cX3_refresh 62 = .ok (.if_icmp .ge 14, 3) := by decide +kernel
theorem dX3_refresh_65 : decode cX3_refresh 65 = .ok (.aload_n 0, 1) := by decide +kernel
theorem dX3_refresh_66 : decode cX3_refresh 66 = .ok (.iload_n 1, 1) := by decide +kernel
theorem dX3_refresh_67 : decode cX3_refresh 67 = .ok (.invokevirtual 38, 3) := by decide +kernel
theorem dX3_refresh_70 : decode cX3_refresh 70 = .ok (.iinc 1 1, 3) := by decide +kernel
theorem dX3_refresh_73 : decode cX3_refresh 73 = .ok (.goto (-19), 3) := by decide +kernel
theorem dX3_refresh_76 : decode cX3_refresh 76 = .ok (.return_, 1) := by decide +kernel
theorem dX3_hang_0 : decode cX3_hang 0 = .ok (.aload_n 0, 1) := by decide +kernel
theorem dX3_hang_1 : decode cX3_hang 1 = .ok (.getfield 9, 3) := by decide +kernel
theorem dX3_hang_4 : decode cX3_hang 4 = .ok (.iload_n 1, 1) := by decide +kernel
theorem dX3_hang_5 : decode cX3_hang 5 = .ok (.iaload, 1) := by decide +kernel
theorem dX3_hang_6 : decode cX3_hang 6 = .ok (.istore_n 2, 1) := by decide +kernel
theorem dX3_hang_7 : decode cX3_hang 7 = .ok (.aload_n 0, 1) := by decide +kernel
theorem dX3_hang_8 : decode cX3_hang 8 = .ok (.getfield 26, 3) := by decide +kernel
theorem dX3_hang_11 : decode cX3_hang 11 = .ok (.iload_n 1, 1) := by decide +kernel
theorem dX3_hang_12 : decode cX3_hang 12 = .ok (.iload_n 2, 1) := by decide +kernel
theorem dX3_hang_13 : decode cX3_hang 13 = .ok (.invokevirtual 42, 3) := by decide +kernel
theorem dX3_hang_16 : decode cX3_hang 16 = .ok (.istore_n 3, 1) := by decide +kernel
theorem dX3_hang_17 : decode cX3_hang 17 = .ok (.aload_n 0, 1) := by decide +kernel
theorem dX3_hang_18 : decode cX3_hang 18 = .ok (.getfield 15, 3) := by decide +kernel
theorem dX3_hang_21 : decode cX3_hang 21 = .ok (.iload_n 1, 1) := by decide +kernel
theorem dX3_hang_22 : decode cX3_hang 22 = .ok (.aload_n 0, 1) := by decide +kernel
theorem dX3_hang_23 : decode cX3_hang 23 = .ok (.getfield 26, 3) := by decide +kernel
theorem dX3_hang_26 : decode cX3_hang 26 = .ok (.iload_n 3, 1) := by decide +kernel
theorem dX3_hang_27 : decode cX3_hang 27 = .ok (.invokevirtual 48, 3) := by decide +kernel
theorem dX3_hang_30 : decode cX3_hang 30 = .ok (.iastore, 1) := by decide +kernel
theorem dX3_hang_31 : decode cX3_hang 31 = .ok (.iload_n 1, 1) := by decide +kernel
theorem dX3_hang_32 : decode cX3_hang 32 = .ok (.iconst 1, 1) := by decide +kernel
theorem dX3_hang_33 : decode cX3_hang 33 = .ok (.iadd, 1) := by decide +kernel
theorem dX3_hang_34 : decode cX3_hang 34 = .ok (.istore 4, 2) := by decide +kernel
theorem dX3_hang_36 : decode cX3_hang 36 = .ok (.iload 4, 2) := by decide +kernel
theorem dX3_hang_38 : decode cX3_hang 38 = .ok (.aload_n 0, 1) := by decide +kernel
theorem dX3_hang_39 : decode cX3_hang 39 = .ok (.getfield 22, 3) := by decide +kernel
theorem dX3_hang_42 : decode cX3_hang 42 = .ok (.getfield 35, 3) := by decide +kernel
theorem dX3_hang_45 : decode cX3_hang 45 = .ok (.if_icmp .ge 38, 3) := by decide +kernel
theorem dX3_hang_48 : decode cX3_hang 48 = .ok (.aload_n 0, 1) := by decide +kernel
theorem dX3_hang_49 : decode cX3_hang 49 = .ok (.getfield 9, 3) := by decide +kernel
theorem dX3_hang_52 : decode cX3_hang 52 = .ok (.iload 4, 2) := by decide +kernel
theorem dX3_hang_54 : decode cX3_hang 54 = .ok (.iaload, 1) := by decide +kernel
theorem dX3_hang_55 : decode cX3_hang 55 = .ok (.iload_n 2, 1) := by decide +kernel
theorem dX3_hang_56 : decode cX3_hang 56 = .ok (.if_icmp .ne 21, 3) := by decide +kernel
theorem dX3_hang_59 : decode cX3_hang 59 = .ok (.iload_n 3, 1) := by decide +kernel
theorem dX3_hang_60 : decode cX3_hang 60 = .ok (.iload 4, 2) := by decide +kernel
theorem dX3_hang_62 : decode cX3_hang 62 = .ok (.ishr, 1) := by decide +kernel
theorem dX3_hang_63 : decode cX3_hang 63 = .ok (.iconst 1, 1) := by decide +kernel
theorem dX3_hang_64 : decode cX3_hang 64 = .ok (.iand, 1) := by decide +kernel
theorem dX3_hang_65 : decode cX3_hang 65 = .ok (.iconst 1, 1) := by decide +kernel
theorem dX3_hang_66 : decode cX3_hang 66 = .ok (.if_icmp .ne 11, 3) := by decide +kernel
theorem dX3_hang_69 : decode cX3_hang 69 = .ok (.aload_n 0, 1) := by decide +kernel
theorem dX3_hang_70 : decode cX3_hang 70 = .ok (.getfield 9, 3) := by decide +kernel
theorem dX3_hang_73 : decode cX3_hang 73 = .ok (.iload 4, 2) := by decide +kernel
theorem dX3_hang_75 : decode cX3_hang 75 = .ok (.iload_n 1, 1) := by decide +kernel
theorem dX3_hang_76 : decode cX3_hang 76 = .ok (.iastore, 1) := by decide +kernel
theorem dX3_hang_77 : decode cX3_hang 77 = .ok (.iinc 4 1, 3) := by decide +kernel
theorem dX3_hang_80 : decode cX3_hang 80 = .ok (.goto (-44), 3) := by decide +kernel
theorem dX3_hang_83 : decode cX3_hang 83 = .ok (.return_, 1) := by decide +kernel
theorem dX3_leastBranchBetween_0 : decode cX3_leastBranchBetween 0 = .ok (.ldc 54, 2) := by decide +kernel
theorem dX3_leastBranchBetween_2 : decode cX3_leastBranchBetween 2 = .ok (.istore_n 3, 1) := by decide +kernel
theorem dX3_leastBranchBetween_3 : decode cX3_leastBranchBetween 3 = .ok (.iload_n 1, 1) := by decide +kernel
theorem dX3_leastBranchBetween_4 : decode cX3_leastBranchBetween 4 = .ok (.istore 4, 2) := by decide +kernel
theorem dX3_leastBranchBetween_6 : decode cX3_leastBranchBetween 6 = .ok (.iload_n 2, 1) := by decide +kernel
theorem dX3_leastBranchBetween_7 : decode cX3_leastBranchBetween 7 = .ok (.istore 5, 2) := by decide +kernel
theorem dX3_leastBranchBetween_9 : decode cX3_leastBranchBetween 9 = .ok (.iconst 0, 1) := by decide +kernel
theorem dX3_leastBranchBetween_10 : decode cX3_leastBranchBetween 10 = .ok (.istore 6, 2) := by decide +kernel
theorem dX3_leastBranchBetween_12 : decode cX3_leastBranchBetween 12 = .ok (.iload 6, 2) := by decide +kernel
theorem dX3_leastBranchBetween_14 : decode cX3_leastBranchBetween 14 = .ok (.bipush 24, 2) := by decide +kernel
theorem dX3_leastBranchBetween_16 : decode cX3_leastBranchBetween 16 = .ok (.if_icmp .ge 59, 3) := by decide +kernel
theorem dX3_leastBranchBetween_19 : decode cX3_leastBranchBetween 19 = .ok (.iload 4, 2) := by decide +kernel
theorem dX3_leastBranchBetween_21 : decode cX3_leastBranchBetween 21 = .ok (.iload 5, 2) := by decide +kernel
theorem dX3_leastBranchBetween_23 : decode cX3_leastBranchBetween 23 = .ok (.if_icmp .eq 52, 3) := by decide +kernel
theorem dX3_leastBranchBetween_26 : decode cX3_leastBranchBetween 26 = .ok (.iload 4, 2) := by decide +kernel
theorem dX3_leastBranchBetween_28 : decode cX3_leastBranchBetween 28 = .ok (.iload 5, 2) := by decide +kernel
theorem dX3_leastBranchBetween_30 : decode cX3_leastBranchBetween 30 = .ok (.invokestatic 55, 3) := by decide +kernel
theorem dX3_leastBranchBetween_33 : decode cX3_leastBranchBetween 33 = .ok (.istore 7, 2) := by decide +kernel
theorem dX3_leastBranchBetween_35 : decode cX3_leastBranchBetween 35 = .ok (.iload 4, 2) := by decide +kernel
theorem dX3_leastBranchBetween_37 : decode cX3_leastBranchBetween 37 = .ok (.iload 5, 2) := by decide +kernel
theorem dX3_leastBranchBetween_39 : decode cX3_leastBranchBetween 39 = .ok (.invokestatic 60, 3) := by decide +kernel
theorem dX3_leastBranchBetween_42 : decode cX3_leastBranchBetween 42 = .ok (.istore 5, 2) := by decide +kernel
theorem dX3_leastBranchBetween_44 : decode cX3_leastBranchBetween 44 = .ok (.iload 7, 2) := by decide +kernel
theorem dX3_leastBranchBetween_46 : decode cX3_leastBranchBetween 46 = .ok (.istore 4, 2) := by decide +kernel
theorem dX3_leastBranchBetween_48 : decode cX3_leastBranchBetween 48 = .ok (.iload_n 3, 1) := by decide +kernel
theorem dX3_leastBranchBetween_49 : decode cX3_leastBranchBetween 49 = .ok (.aload_n 0, 1) := by decide +kernel
theorem dX3_leastBranchBetween_50 : decode cX3_leastBranchBetween 50 = .ok (.getfield 15, 3) := by decide +kernel
theorem dX3_leastBranchBetween_53 : decode cX3_leastBranchBetween 53 = .ok (.iload 5, 2) := by decide +kernel
theorem dX3_leastBranchBetween_55 : decode cX3_leastBranchBetween 55 = .ok (.iaload, 1) := by decide +kernel
theorem dX3_leastBranchBetween_56 : decode cX3_leastBranchBetween 56 = .ok (.invokestatic 55, 3) := by decide +kernel
theorem dX3_leastBranchBetween_59 : decode cX3_leastBranchBetween 59 = .ok (.istore_n 3, 1) := by decide +kernel
theorem dX3_leastBranchBetween_60 : decode cX3_leastBranchBetween 60 = .ok (.aload_n 0, 1) := by decide +kernel
theorem dX3_leastBranchBetween_61 : decode cX3_leastBranchBetween 61 = .ok (.getfield 9, 3) := by decide +kernel
theorem dX3_leastBranchBetween_64 : decode cX3_leastBranchBetween 64 = .ok (.iload 5, 2) := by decide +kernel
theorem dX3_leastBranchBetween_66 : decode cX3_leastBranchBetween 66 = .ok (.iaload, 1) := by decide +kernel
theorem dX3_leastBranchBetween_67 : decode cX3_leastBranchBetween 67 = .ok (.istore 5, 2) := by decide +kernel
theorem dX3_leastBranchBetween_69 : decode cX3_leastBranchBetween 69 = .ok (.iinc 6 1, 3) := by decide +kernel
theorem dX3_leastBranchBetween_72 : decode cX3_leastBranchBetween 72 = .ok (.goto (-60), 3) := by decide +kernel
theorem dX3_leastBranchBetween_75 : decode cX3_leastBranchBetween 75 = .ok (.iload_n 3, 1) := by decide +kernel
theorem dX3_leastBranchBetween_76 : decode cX3_leastBranchBetween 76 = .ok (.ireturn, 1) := by decide +kernel
theorem dX4_init_0 : decode cX4_init 0 = .ok (.aload_n 0, 1) := by decide +kernel
theorem dX4_init_1 : decode cX4_init 1 = .ok (.invokespecial 3, 3) := by decide +kernel
theorem dX4_init_4 : decode cX4_init 4 = .ok (.aload_n 0, 1) := by decide +kernel
theorem dX4_init_5 : decode cX4_init 5 = .ok (.bipush 10, 2) := by decide +kernel
theorem dX4_init_7 : decode cX4_init 7 = .ok (.newarray .int, 2) := by decide +kernel
theorem dX4_init_9 : decode cX4_init 9 = .ok (.putfield 9, 3) := by decide +kernel
theorem dX4_init_12 : decode cX4_init 12 = .ok (.aload_n 0, 1) := by decide +kernel
theorem dX4_init_13 : decode cX4_init 13 = .ok (.bipush 10, 2) := by decide +kernel
theorem dX4_init_15 : decode cX4_init 15 = .ok (.newarray .int, 2) := by decide +kernel
theorem dX4_init_17 : decode cX4_init 17 = .ok (.putfield 15, 3) := by decide +kernel
theorem dX4_init_20 : decode cX4_init 20 = .ok (.aload_n 0, 1) := by decide +kernel
theorem dX4_init_21 : decode cX4_init 21 = .ok (.iconst 0, 1) := by decide +kernel
theorem dX4_init_22 : decode cX4_init 22 = .ok (.putfield 18, 3) := by decide +kernel
theorem dX4_init_25 : decode cX4_init 25 = .ok (.aload_n 0, 1) := by decide +kernel
theorem dX4_init_26 : decode cX4_init 26 = .ok (.iconst (-1), 1) := by decide +kernel
theorem dX4_init_27 : decode cX4_init 27 = .ok (.putfield 22, 3) := by decide +kernel
theorem dX4_init_30 : decode cX4_init 30 = .ok (.aload_n 0, 1) := by decide +kernel
theorem dX4_init_31 : decode cX4_init 31 = .ok (.aload_n 1, 1) := by decide +kernel
theorem dX4_init_32 : decode cX4_init 32 = .ok (.putfield 25, 3) := by decide +kernel
theorem dX4_init_35 : decode cX4_init 35 = .ok (.aload_n 0, 1) := by decide +kernel
theorem dX4_init_36 : decode cX4_init 36 = .ok (.iload_n 2, 1) := by decide +kernel
theorem dX4_init_37 : decode cX4_init 37 = .ok (.putfield 29, 3) := by decide +kernel
theorem dX4_init_40 : decode cX4_init 40 = .ok (.return_, 1) := by decide +kernel
theorem dX4_refresh_0 : decode cX4_refresh 0 = .ok (.aload_n 0, 1) := by decide +kernel
theorem dX4_refresh_1 : decode cX4_refresh 1 = .ok (.getfield 22, 3) := by decide +kernel
theorem dX4_refresh_4 : decode cX4_refresh 4 = .ok (.aload_n 0, 1) := by decide +kernel
theorem dX4_refresh_5 : decode cX4_refresh 5 = .ok (.getfield 25, 3) := by decide +kernel
theorem dX4_refresh_8 : decode cX4_refresh 8 = .ok (.getfield 32, 3) := by decide +kernel
theorem dX4_refresh_11 : decode cX4_refresh 11 = .ok (.if_icmp .eq 15, 3) := by decide +kernel
theorem dX4_refresh_14 : decode cX4_refresh 14 = .ok (.aload_n 0, 1) := by decide +kernel
theorem dX4_refresh_15 : decode cX4_refresh 15 = .ok (.getfield 25, 3) := by decide +kernel
theorem dX4_refresh_18 : decode cX4_refresh 18 = .ok (.getfield 37, 3) := by decide +kernel
theorem dX4_refresh_21 : decode cX4_refresh 21 = .ok (.bipush 10, 2) := by decide +kernel
theorem dX4_refresh_23 : decode cX4_refresh 23 = .ok (.if_icmp .le 4, 3) := by decide +kernel
theorem dX4_refresh_26 : decode cX4_refresh 26 = .ok (.return_, 1) := by decide +kernel
theorem dX4_refresh_27 : decode cX4_refresh 27 = .ok (.aload_n 0, 1) := by decide +kernel
theorem dX4_refresh_28 : decode cX4_refresh 28 = .ok (.aload_n 0, 1) := by decide +kernel
theorem dX4_refresh_29 : decode cX4_refresh 29 = .ok (.getfield 25, 3) := by decide +kernel
theorem dX4_refresh_32 : decode cX4_refresh 32 = .ok (.getfield 32, 3) := by decide +kernel
theorem dX4_refresh_35 : decode cX4_refresh 35 = .ok (.putfield 22, 3) := by decide +kernel
theorem dX4_refresh_38 : decode cX4_refresh 38 = .ok (.aload_n 0, 1) := by decide +kernel
theorem dX4_refresh_39 : decode cX4_refresh 39 = .ok (.ldc 42, 2) := by decide +kernel
theorem dX4_refresh_41 : decode cX4_refresh 41 = .ok (.putfield 18, 3) := by decide +kernel
theorem dX4_refresh_44 : decode cX4_refresh 44 = .ok (.aload_n 0, 1) := by decide +kernel
theorem dX4_refresh_45 : decode cX4_refresh 45 = .ok (.iconst 0, 1) := by decide +kernel
theorem dX4_refresh_46 : decode cX4_refresh 46 = .ok (.iconst 0, 1) := by decide +kernel
theorem dX4_refresh_47 : decode cX4_refresh 47 = .ok (.iconst 0, 1) := by decide +kernel
theorem dX4_refresh_48 : decode cX4_refresh 48 = .ok (.invokestatic 43, 3) := by decide +kernel
theorem dX4_refresh_51 : decode cX4_refresh 51 = .ok (.return_, 1) := by decide +kernel
theorem dX4_tryFrom_0 : decode cX4_tryFrom 0 = .ok (.aload_n 0, 1) := by decide +kernel
theorem dX4_tryFrom_1 : decode cX4_tryFrom 1 = .ok (.getfield 25, 3) := by decide +kernel
theorem dX4_tryFrom_4 : decode cX4_tryFrom 4 = .ok (.getfield 37, 3) := by decide +kernel
theorem dX4_tryFrom_7 : decode cX4_tryFrom 7 = .ok (.istore 4, 2) := by decide +kernel
theorem dX4_tryFrom_9 : decode cX4_tryFrom 9 = .ok (.aload_n 0, 1) := by decide +kernel
theorem dX4_tryFrom_10 : decode cX4_tryFrom 10 = .ok (.getfield 29, 3) := by decide +kernel
theorem dX4_tryFrom_13 : decode cX4_tryFrom 13 = .ok (.iload_n 2, 1) := by decide +kernel
theorem dX4_tryFrom_14 : decode cX4_tryFrom 14 = .ok (.isub, 1) := by decide +kernel
theorem dX4_tryFrom_15 : decode cX4_tryFrom 15 = .ok (.iload 4, 2) := by decide +kernel
theorem dX4_tryFrom_17 : decode cX4_tryFrom 17 = .ok (.iload_n 1, 1) := by decide +kernel
theorem dX4_tryFrom_18 : decode cX4_tryFrom 18 = .ok (.isub, 1) := by decide +kernel
theorem dX4_tryFrom_19 : decode cX4_tryFrom 19 = .ok (.if_icmp .gt 7, 3) := by decide +kernel
theorem dX4_tryFrom_22 : decode cX4_tryFrom 22 = .ok (.iconst 1, 1) := by decide +kernel
theorem dX4_tryFrom_23 : decode cX4_tryFrom 23 = .ok (.goto 4, 3) := by decide +kernel
theorem dX4_tryFrom_26 : decode cX4_tryFrom 26 = .ok (.iconst 0, 1) := by decide +kernel
theorem dX4_tryFrom_27 : decode cX4_tryFrom 27 = .ok (.istore 5, 2) := by decide +kernel
theorem dX4_tryFrom_29 : decode cX4_tryFrom 29 = .ok (.iload 5, 2) := by decide +kernel
theorem dX4_tryFrom_31 : decode cX4_tryFrom 31 = .ok (.ifCond .eq 11, 3) := by decide +kernel
theorem dX4_tryFrom_34 : decode cX4_tryFrom 34 = .ok (.iload_n 3, 1) := by decide +kernel
theorem dX4_tryFrom_35 : decode cX4_tryFrom 35 = .ok (.aload_n 0, 1) := by decide +kernel
theorem dX4_tryFrom_36 : decode cX4_tryFrom 36 = .ok (.getfield 18, 3) := by decide +kernel
theorem dX4_tryFrom_39 : decode cX4_tryFrom 39 = .ok (.if_icmp .lt 4, 3) := by decide +kernel
theorem dX4_tryFrom_42 : decode cX4_tryFrom 42 = .ok (.return_, 1) := by decide +kernel
theorem dX4_tryFrom_43 : decode cX4_tryFrom 43 = .ok (.iload_n 1, 1) := by decide +kernel
theorem dX4_tryFrom_44 : decode cX4_tryFrom 44 = .ok (.iload 4, 2) := by decide +kernel
theorem dX4_tryFrom_46 : decode cX4_tryFrom 46 = .ok (.if_icmp .lt 9, 3) := by decide +kernel
theorem dX4_tryFrom_49 : decode cX4_tryFrom 49 = .ok (.aload_n 0, 1) := by decide +kernel
theorem dX4_tryFrom_50 : decode cX4_tryFrom 50 = .ok (.iload_n 3, 1) := by decide +kernel
theorem dX4_tryFrom_51 : decode cX4_tryFrom 51 = .ok (.invokevirtual 47, 3) := by decide +kernel
theorem dX4_tryFrom_54 : decode cX4_tryFrom 54 = .ok (.return_, 1) := by decide +kernel
theorem dX4_tryFrom_55 : decode cX4_tryFrom 55 = .ok (.iconst 0, 1) := by decide +kernel
theorem dX4_tryFrom_56 : decode cX4_tryFrom 56 = .ok (.istore 6, 2) := by decide +kernel
theorem dX4_tryFrom_58 : decode cX4_tryFrom 58 = .ok (.iload 6, 2) := by decide +kernel
theorem dX4_tryFrom_60 : decode cX4_tryFrom 60 = .ok (.iload_n 2, 1) := by decide +kernel
theorem dX4_tryFrom_61 : decode cX4_tryFrom 61 = .ok (.if_icmp .gt 52, 3) := by decide +kernel
theorem dX4_tryFrom_64 : decode cX4_tryFrom 64 = .ok (.iload 6, 2) := by decide +kernel
theorem dX4_tryFrom_66 : decode cX4_tryFrom 66 = .ok (.aload_n 0, 1) := by decide +kernel
theorem dX4_tryFrom_67 : decode cX4_tryFrom 67 = .ok (.getfield 29, 3) := by decide +kernel
theorem dX4_tryFrom_70 : decode cX4_tryFrom 70 = .ok (.if_icmp .ge 43, 3) := by decide +kernel
theorem dX4_tryFrom_73 : decode cX4_tryFrom 73 = .ok (.aload_n 0, 1) := by decide +kernel
theorem dX4_tryFrom_74 : decode cX4_tryFrom 74 = .ok (.getfield 9, 3) := by decide +kernel
theorem dX4_tryFrom_77 : decode cX4_tryFrom 77 = .ok (.iload_n 1, 1) := by decide +kernel
theorem dX4_tryFrom_78 : decode cX4_tryFrom 78 = .ok (.iload 6, 2) := by decide +kernel
theorem dX4_tryFrom_80 : decode cX4_tryFrom 80 = .ok (.iastore, 1) := by decide +kernel
theorem dX4_tryFrom_81 : decode cX4_tryFrom 81 = .ok (.aload_n 0, 1) := by decide +kernel
theorem dX4_tryFrom_82 : decode cX4_tryFrom 82 = .ok (.iload_n 1, 1) := by decide +kernel
theorem dX4_tryFrom_83 : decode cX4_tryFrom 83 = .ok (.invokevirtual 51, 3) := by decide +kernel
theorem dX4_tryFrom_86 : decode cX4_tryFrom 86 = .ok (.istore 7, 2) := by decide +kernel
theorem dX4_tryFrom_88 : decode cX4_tryFrom 88 = .ok (.aload_n 0, 1) := by decide +kernel
theorem dX4_tryFrom_89 : decode cX4_tryFrom 89 = .ok (.iload_n 1, 1) := by decide +kernel
theorem dX4_tryFrom_90 : decode cX4_tryFrom 90 = .ok (.iconst 1, 1) := by decide +kernel
theorem dX4_tryFrom_91 : decode cX4_tryFrom 91 = .ok (.iadd, 1) := by decide +kernel
theorem dX4_tryFrom_92 : decode cX4_tryFrom 92 = .ok (.iload_n 2, 1) := by decide +kernel
theorem dX4_tryFrom_93 : decode cX4_tryFrom 93 = .ok (.iload 6, 2) := by decide +kernel
theorem dX4_tryFrom_95 : decode cX4_tryFrom 95 = .ok (.iconst 1, 1) := by decide +kernel
theorem dX4_tryFrom_96 : decode cX4_tryFrom 96 = .ok (.iadd, 1) := by decide +kernel
theorem dX4_tryFrom_97 : decode cX4_tryFrom 97 = .ok (.invokestatic 55, 3) := by decide +kernel
theorem dX4_tryFrom_100 : decode cX4_tryFrom 100 = .ok (.iload_n 3, 1) := by decide +kernel
theorem dX4_tryFrom_101 : decode cX4_tryFrom 101 = .ok (.iload 7, 2) := by decide +kernel
theorem dX4_tryFrom_103 : decode cX4_tryFrom 103 = .ok (.iadd, 1) := by decide +kernel
theorem dX4_tryFrom_104 : decode cX4_tryFrom 104 = .ok (.invokestatic 43, 3) := by decide +kernel
theorem dX4_tryFrom_107 : decode cX4_tryFrom 107 = .ok (.iinc 6 1, 3) := by decide +kernel
theorem dX4_tryFrom_110 : decode cX4_tryFrom 110 = .ok (.goto (-52), 3) := by decide +kernel
theorem dX4_tryFrom_113 : decode cX4_tryFrom 113 = .ok (.return_, 1) := by decide +kernel
theorem dX4_costToLower_0 : decode cX4_costToLower 0 = .ok (.iconst 0, 1) := by decide +kernel
theorem dX4_costToLower_1 : decode cX4_costToLower 1 = .ok (.istore_n 2, 1) := by decide +kernel
theorem dX4_costToLower_2 : decode cX4_costToLower 2 = .ok (.iconst 0, 1) := by decide +kernel
theorem dX4_costToLower_3 : decode cX4_costToLower 3 = .ok (.istore_n 3, 1) := by decide +kernel
theorem dX4_costToLower_4 : decode cX4_costToLower 4 = .ok (.iload_n 3, 1) := by decide +kernel
theorem dX4_costToLower_5 : decode cX4_costToLower 5 = .ok (.iload_n 1, 1) := by decide +kernel
theorem dX4_costToLower_6 : decode cX4_costToLower 6 = .ok (.if_icmp .ge 38, 3) := by decide +kernel
theorem dX4_costToLower_9 : decode cX4_costToLower 9 = .ok (.aload_n 0, 1) := by decide +kernel
theorem dX4_costToLower_10 : decode cX4_costToLower 10 = .ok (.getfield 9, 3) := by decide +kernel
theorem dX4_costToLower_13 : decode cX4_costToLower 13 = .ok (.iload_n 3, 1) := by decide +kernel
theorem dX4_costToLower_14 : decode cX4_costToLower 14 = .ok (.iaload, 1) := by decide +kernel
theorem dX4_costToLower_15 : decode cX4_costToLower 15 = .ok (.aload_n 0, 1) := by decide +kernel
theorem dX4_costToLower_16 : decode cX4_costToLower 16 = .ok (.getfield 9, 3) := by decide +kernel
theorem dX4_costToLower_19 : decode cX4_costToLower 19 = .ok (.iload_n 1, 1) := by decide +kernel
theorem dX4_costToLower_20 : decode cX4_costToLower 20 = .ok (.iaload, 1) := by decide +kernel
theorem dX4_costToLower_21 : decode cX4_costToLower 21 = .ok (.if_icmp .eq 17, 3) := by decide +kernel
theorem dX4_costToLower_24 : decode cX4_costToLower 24 = .ok (.iload_n 2, 1) := by decide +kernel
theorem dX4_costToLower_25 : decode cX4_costToLower 25 = .ok (.aload_n 0, 1) := by decide +kernel
theorem dX4_costToLower_26 : decode cX4_costToLower 26 = .ok (.getfield 25, 3) := by decide +kernel
theorem dX4_costToLower_29 : decode cX4_costToLower 29 = .ok (.getfield 61, 3) := by decide +kernel
theorem dX4_costToLower_32 : decode cX4_costToLower 32 = .ok (.iload_n 1, 1) := by decide +kernel
theorem dX4_costToLower_33 : decode cX4_costToLower 33 = .ok (.aaload, 1) := by decide +kernel
theorem dX4_costToLower_34 : decode cX4_costToLower 34 = .ok (.iload_n 3, 1) := by decide +kernel
theorem dX4_costToLower_35 : decode cX4_costToLower 35 = .ok (.iaload, 1) := by decide +kernel
theorem dX4_costToLower_36 : decode cX4_costToLower 36 = .ok (.iadd, 1) := by decide +kernel
theorem dX4_costToLower_37 : decode cX4_costToLower 37 = .ok (.istore_n 2, 1) := by decide +kernel
theorem dX4_costToLower_38 : decode cX4_costToLower 38 = .ok (.iinc 3 1, 3) := by decide +kernel
theorem dX4_costToLower_41 : decode cX4_costToLower 41 = .ok (.goto (-37), 3) := by decide +kernel
theorem dX4_costToLower_44 : decode cX4_costToLower 44 = .ok (.iload_n 2, 1) := by decide +kernel
theorem dX4_costToLower_45 : decode cX4_costToLower 45 = .ok (.ireturn, 1) := by decide +kernel
theorem dX4_keepTried_0 : decode cX4_keepTried 0 = .ok (.aload_n 0, 1) := by decide +kernel
theorem dX4_keepTried_1 : decode cX4_keepTried 1 = .ok (.iload_n 1, 1) := by decide +kernel
theorem dX4_keepTried_2 : decode cX4_keepTried 2 = .ok (.putfield 18, 3) := by decide +kernel
theorem dX4_keepTried_5 : decode cX4_keepTried 5 = .ok (.iconst 0, 1) := by decide +kernel
theorem dX4_keepTried_6 : decode cX4_keepTried 6 = .ok (.istore_n 2, 1) := by decide +kernel
theorem dX4_keepTried_7 : decode cX4_keepTried 7 = .ok (.iload_n 2, 1) := by decide +kernel
theorem dX4_keepTried_8 : decode cX4_keepTried 8 = .ok (.aload_n 0, 1) := by decide +kernel
theorem dX4_keepTried_9 : decode cX4_keepTried 9 = .ok (.getfield 25, 3) := by decide +kernel
theorem dX4_keepTried_12 : decode cX4_keepTried 12 = .ok (.getfield 37, 3) := by decide +kernel
theorem dX4_keepTried_15 : decode cX4_keepTried 15 = .ok (.if_icmp .ge 21, 3) := by decide +kernel
theorem dX4_keepTried_18 : decode cX4_keepTried 18 = .ok (.aload_n 0, 1) := by decide +kernel
theorem dX4_keepTried_19 : decode cX4_keepTried 19 = .ok (.getfield 15, 3) := by decide +kernel
theorem dX4_keepTried_22 : decode cX4_keepTried 22 = .ok (.iload_n 2, 1) := by decide +kernel
theorem dX4_keepTried_23 : decode cX4_keepTried 23 = .ok (.aload_n 0, 1) := by decide +kernel
theorem dX4_keepTried_24 : decode cX4_keepTried 24 = .ok (.getfield 9, 3) := by decide +kernel
theorem dX4_keepTried_27 : decode cX4_keepTried 27 = .ok (.iload_n 2, 1) := by decide +kernel
theorem dX4_keepTried_28 : decode cX4_keepTried 28 = .ok (.iaload, 1) := by decide +kernel
theorem dX4_keepTried_29 : decode cX4_keepTried 29 = .ok (.iastore, 1) := by decide +kernel
theorem dX4_keepTried_30 : decode cX4_keepTried 30 = .ok (.iinc 2 1, 3) := by decide +kernel
theorem dX4_keepTried_33 : decode cX4_keepTried 33 = .ok (.goto (-26), 3) := by decide +kernel
theorem dX4_keepTried_36 : decode cX4_keepTried 36 = .ok (.return_, 1) := by decide +kernel
