/-! decode rows: by program -/
theorem dX6_least_0 : decode cX6_least 0 = .ok (.aload_n 0, 1) := by decide +kernel
theorem dX6_least_1 : decode cX6_least 1 = .ok (.getfield 60, 3) := by decide +kernel
theorem dX6_least_4 : decode cX6_least 4 = .ok (.iconst 2, 1) := by decide +kernel
theorem dX6_least_5 : decode cX6_least 5 = .ok (.if_icmp .ge 8, 3) := by decide +kernel
theorem dX6_least_8 : decode cX6_least 8 = .ok (.bipush (-3), 2) := by decide +kernel
theorem dX6_least_10 : decode cX6_least 10 = .ok (.goto 7, 3) := by decide +kernel
theorem dX6_least_13 : decode cX6_least 13 = .ok (.aload_n 0, 1) := by decide +kernel
theorem dX6_least_14 : decode cX6_least 14 = .ok (.invokevirtual 103, 3) := by decide +kernel
theorem dX6_least_17 : decode cX6_least 17 = .ok (.ireturn, 1) := by decide +kernel
theorem dX6_leastOne_0 : decode cX6_leastOne 0 = .ok (.aload_n 0, 1) := by decide +kernel
theorem dX6_leastOne_1 : decode cX6_leastOne 1 = .ok (.invokevirtual 103, 3) := by decide +kernel
theorem dX6_leastOne_4 : decode cX6_leastOne 4 = .ok (.istore_n 2, 1) := by decide +kernel
theorem dX6_leastOne_5 : decode cX6_leastOne 5 = .ok (.iconst 0, 1) := by decide +kernel
theorem dX6_leastOne_6 : decode cX6_leastOne 6 = .ok (.istore_n 3, 1) := by decide +kernel
theorem dX6_leastOne_7 : decode cX6_leastOne 7 = .ok (.iconst 2, 1) := by decide +kernel
theorem dX6_leastOne_8 : decode cX6_leastOne 8 = .ok (.istore 4, 2) := by decide +kernel
theorem dX6_leastOne_10 : decode cX6_leastOne 10 = .ok (.iload 4, 2) := by decide +kernel
theorem dX6_leastOne_12 : decode cX6_leastOne 12 = .ok (.aload_n 0, 1) := by decide +kernel
theorem dX6_leastOne_13 : decode cX6_leastOne 13 = .ok (.invokevirtual 77, 3) := by decide +kernel
theorem dX6_leastOne_16 : decode cX6_leastOne 16 = .ok (.if_icmp .gt 39, 3) := by decide +kernel
theorem dX6_leastOne_19 : decode cX6_leastOne 19 = .ok (.aload_n 0, 1) := by decide +kernel
theorem dX6_leastOne_20 : decode cX6_leastOne 20 = .ok (.getfield 60, 3) := by decide +kernel
theorem dX6_leastOne_23 : decode cX6_leastOne 23 = .ok (.iconst 1, 1) := by decide +kernel
theorem dX6_leastOne_24 : decode cX6_leastOne 24 = .ok (.if_icmp .le 31, 3) := by decide +kernel
theorem dX6_leastOne_27 : decode cX6_leastOne 27 = .ok (.aload_n 0, 1) := by decide +kernel
theorem dX6_leastOne_28 : decode cX6_leastOne 28 = .ok (.getfield 29, 3) := by decide +kernel
theorem dX6_leastOne_31 : decode cX6_leastOne 31 = .ok (.iload 4, 2) := by decide +kernel
theorem dX6_leastOne_33 : decode cX6_leastOne 33 = .ok (.iaload, 1) := by decide +kernel
theorem dX6_leastOne_34 : decode cX6_leastOne 34 = .ok (.iload_n 2, 1) := by decide +kernel
theorem dX6_leastOne_35 : decode cX6_leastOne 35 = .ok (.if_icmp .ne 14, 3) := by decide +kernel
theorem dX6_leastOne_38 : decode cX6_leastOne 38 = .ok (.iload_n 3, 1) := by decide +kernel
theorem dX6_leastOne_39 : decode cX6_leastOne 39 = .ok (.iload_n 1, 1) := by decide +kernel
theorem dX6_leastOne_40 : decode cX6_leastOne 40 = .ok (.if_icmp .ne 6, 3) := by decide +kernel
theorem dX6_leastOne_43 : decode cX6_leastOne 43 = .ok (.iload 4, 2) := by decide +kernel
theorem dX6_leastOne_45 : decode cX6_leastOne 45 = .ok (.ireturn, 1) := by decide +kernel
theorem dX6_leastOne_46 : decode cX6_leastOne 46 = .ok (.iinc 3 1, 3) := by decide +kernel
theorem dX6_leastOne_49 : decode cX6_leastOne 49 = .ok (.iinc 4 2, 3) := by decide +kernel
theorem dX6_leastOne_52 : decode cX6_leastOne 52 = .ok (.goto (-42), 3) := by decide +kernel
theorem dX6_leastOne_55 : decode cX6_leastOne 55 = .ok (.iload_n 1, 1) := by decide +kernel
theorem dX6_leastOne_56 : decode cX6_leastOne 56 = .ok (.ifCond .ge 7, 3) := by decide +kernel
theorem dX6_leastOne_59 : decode cX6_leastOne 59 = .ok (.iload_n 3, 1) := by decide +kernel
theorem dX6_leastOne_60 : decode cX6_leastOne 60 = .ok (.goto 4, 3) := by decide +kernel
theorem dX6_leastOne_63 : decode cX6_leastOne 63 = .ok (.iconst (-1), 1) := by decide +kernel
theorem dX6_leastOne_64 : decode cX6_leastOne 64 = .ok (.ireturn, 1) := by decide +kernel
theorem dX6_counted_0 : decode cX6_counted 0 = .ok (.aload_n 0, 1) := by decide +kernel
theorem dX6_counted_1 : decode cX6_counted 1 = .ok (.iconst (-1), 1) := by decide +kernel
theorem dX6_counted_2 : decode cX6_counted 2 = .ok (.invokevirtual 106, 3) := by decide +kernel
theorem dX6_counted_5 : decode cX6_counted 5 = .ok (.ireturn, 1) := by decide +kernel
theorem dX6_every_0 : decode cX6_every 0 = .ok (.iload_n 1, 1) := by decide +kernel
theorem dX6_every_1 : decode cX6_every 1 = .ok (.ifCond .ge 7, 3) := by decide +kernel
theorem dX6_every_4 : decode cX6_every 4 = .ok (.iconst (-1), 1) := by decide +kernel
theorem dX6_every_5 : decode cX6_every 5 = .ok (.goto 8, 3) := by decide +kernel
theorem dX6_every_8 : decode cX6_every 8 = .ok (.aload_n 0, 1) := by decide +kernel
theorem dX6_every_9 : decode cX6_every 9 = .ok (.iload_n 1, 1) := by decide +kernel
theorem dX6_every_10 : decode cX6_every 10 = .ok (.invokevirtual 106, 3) := by decide +kernel
theorem dX6_every_13 : decode cX6_every 13 = .ok (.ireturn, 1) := by decide +kernel
theorem dX6_drawn_0 : decode cX6_drawn 0 = .ok (.aload_n 0, 1) := by decide +kernel
theorem dX6_drawn_1 : decode cX6_drawn 1 = .ok (.getfield 60, 3) := by decide +kernel
theorem dX6_drawn_4 : decode cX6_drawn 4 = .ok (.iconst 2, 1) := by decide +kernel
theorem dX6_drawn_5 : decode cX6_drawn 5 = .ok (.if_icmp .ge 6, 3) := by decide +kernel
theorem dX6_drawn_8 : decode cX6_drawn 8 = .ok (.bipush (-3), 2) := by decide +kernel
theorem dX6_drawn_10 : decode cX6_drawn 10 = .ok (.ireturn, 1) := by decide +kernel
theorem dX6_drawn_11 : decode cX6_drawn 11 = .ok (.iconst 0, 1) := by decide +kernel
theorem dX6_drawn_12 : decode cX6_drawn 12 = .ok (.istore_n 2, 1) := by decide +kernel
theorem dX6_drawn_13 : decode cX6_drawn 13 = .ok (.iload_n 2, 1) := by decide +kernel
theorem dX6_drawn_14 : decode cX6_drawn 14 = .ok (.aload_n 0, 1) := by decide +kernel
theorem dX6_drawn_15 : decode cX6_drawn 15 = .ok (.getfield 60, 3) := by decide +kernel
theorem dX6_drawn_18 : decode cX6_drawn 18 = .ok (.if_icmp .ge 16, 3) := by decide +kernel
theorem dX6_drawn_21 : decode cX6_drawn 21 = .ok (.aload_n 0, 1) := by decide +kernel
theorem dX6_drawn_22 : decode cX6_drawn 22 = .ok (.getfield 47, 3) := by decide +kernel
theorem dX6_drawn_25 : decode cX6_drawn 25 = .ok (.iload_n 2, 1) := by decide +kernel
theorem dX6_drawn_26 : decode cX6_drawn 26 = .ok (.iload_n 2, 1) := by decide +kernel
theorem dX6_drawn_27 : decode cX6_drawn 27 = .ok (.iastore, 1) := by decide +kernel
theorem dX6_drawn_28 : decode cX6_drawn 28 = .ok (.iinc 2 1, 3) := by decide +kernel
theorem dX6_drawn_31 : decode cX6_drawn 31 = .ok (.goto (-18), 3) := by decide +kernel
theorem dX6_drawn_34 : decode cX6_drawn 34 = .ok (.iload_n 1, 1) := by decide +kernel
theorem dX6_drawn_35 : decode cX6_drawn 35 = .ok (.istore_n 2, 1) := by decide +kernel
theorem dX6_drawn_36 : decode cX6_drawn 36 = .ok (.aload_n 0, 1) := by decide +kernel
theorem dX6_drawn_37 : decode cX6_drawn 37 = .ok (.getfield 60, 3) := by decide +kernel
theorem dX6_drawn_40 : decode cX6_drawn 40 = .ok (.istore_n 3, 1) := by decide +kernel
theorem dX6_drawn_41 : decode cX6_drawn 41 = .ok (.aload_n 0, 1) := by decide +kernel
theorem dX6_drawn_42 : decode cX6_drawn 42 = .ok (.invokevirtual 109, 3) := by decide +kernel
theorem dX6_drawn_45 : decode cX6_drawn 45 = .ok (.istore 4, 2) := by decide +kernel
theorem dX6_drawn_47 : decode cX6_drawn 47 = .ok (.iload_n 3, 1) := by decide +kernel
theorem dX6_drawn_48 : decode cX6_drawn 48 = .ok (.iconst 2, 1) := by decide +kernel
theorem dX6_drawn_49 : decode cX6_drawn 49 = .ok (.if_icmp .le 161, 3) := by decide +kernel
theorem dX6_drawn_52 : decode cX6_drawn 52 = .ok (.iload 4, 2) := by decide +kernel
theorem dX6_drawn_54 : decode cX6_drawn 54 = .ok (.ifCond .le 156, 3) := by decide +kernel
theorem dX6_drawn_57 : decode cX6_drawn 57 = .ok (.iload_n 2, 1) := by decide +kernel
theorem dX6_drawn_58 : decode cX6_drawn 58 = .ok (.ldc 112, 2) := by decide +kernel
theorem dX6_drawn_60 : decode cX6_drawn 60 = .ok (.imul, 1) := by decide +kernel
theorem dX6_drawn_61 : decode cX6_drawn 61 = .ok (.ldc 113, 2) := by decide +kernel
theorem dX6_drawn_63 : decode cX6_drawn 63 = .ok (.iadd, 1) := by decide +kernel
theorem dX6_drawn_64 : decode cX6_drawn 64 = .ok (.istore_n 2, 1) := by decide +kernel
theorem dX6_drawn_65 : decode cX6_drawn 65 = .ok (.iload_n 2, 1) := by decide +kernel
theorem dX6_drawn_66 : decode cX6_drawn 66 = .ok (.iconst 1, 1) := by decide +kernel
theorem dX6_drawn_67 : decode cX6_drawn 67 = .ok (.iushr, 1) := by decide +kernel
theorem dX6_drawn_68 : decode cX6_drawn 68 = .ok (.iload 4, 2) := by decide +kernel
theorem dX6_drawn_70 : decode cX6_drawn 70 = .ok (.irem, 1) := by decide +kernel
theorem dX6_drawn_71 : decode cX6_drawn 71 = .ok (.istore 5, 2) := by decide +kernel
theorem dX6_drawn_73 : decode cX6_drawn 73 = .ok (.iconst 0, 1) := by decide +kernel
theorem dX6_drawn_74 : decode cX6_drawn 74 = .ok (.istore 6, 2) := by decide +kernel
theorem dX6_drawn_76 : decode cX6_drawn 76 = .ok (.iconst 0, 1) := by decide +kernel
theorem dX6_drawn_77 : decode cX6_drawn 77 = .ok (.istore 7, 2) := by decide +kernel
theorem dX6_drawn_79 : decode cX6_drawn 79 = .ok (.iload 7, 2) := by decide +kernel
theorem dX6_drawn_81 : decode cX6_drawn 81 = .ok (.iload 5, 2) := by decide +kernel
theorem dX6_drawn_83 : decode cX6_drawn 83 = .ok (.if_icmp .gt 34, 3) := by decide +kernel
theorem dX6_drawn_86 : decode cX6_drawn 86 = .ok (.iload 7, 2) := by decide +kernel
theorem dX6_drawn_88 : decode cX6_drawn 88 = .ok (.aload_n 0, 1) := by decide +kernel
theorem dX6_drawn_89 : decode cX6_drawn 89 = .ok (.iload 6, 2) := by decide +kernel
theorem dX6_drawn_91 : decode cX6_drawn 91 = .ok (.invokevirtual 114, 3) := by decide +kernel
theorem dX6_drawn_94 : decode cX6_drawn 94 = .ok (.ifCond .eq 13, 3) := by decide +kernel
theorem dX6_drawn_97 : decode cX6_drawn 97 = .ok (.aload_n 0, 1) := by decide +kernel
theorem dX6_drawn_98 : decode cX6_drawn 98 = .ok (.getfield 16, 3) := by decide +kernel
theorem dX6_drawn_101 : decode cX6_drawn 101 = .ok (.iload 6, 2) := by decide +kernel
theorem dX6_drawn_103 : decode cX6_drawn 103 = .ok (.iaload, 1) := by decide +kernel
theorem dX6_drawn_104 : decode cX6_drawn 104 = .ok (.goto 4, 3) := by decide +kernel
theorem dX6_drawn_107 : decode cX6_drawn 107 = .ok (.iconst 0, 1) := by decide +kernel
theorem dX6_drawn_108 : decode cX6_drawn 108 = .ok (.iadd, 1) := by decide +kernel
theorem dX6_drawn_109 : decode cX6_drawn 109 = .ok (.istore 7, 2) := by decide +kernel
theorem dX6_drawn_111 : decode cX6_drawn 111 = .ok (.iinc 6 1, 3) := by decide +kernel
theorem dX6_drawn_114 : decode cX6_drawn 114 = .ok (.goto (-35), 3) := by decide +kernel
theorem dX6_drawn_117 : decode cX6_drawn 117 = .ok (.aload_n 0, 1) := by decide +kernel
theorem dX6_drawn_118 : decode cX6_drawn 118 = .ok (.getfield 47, 3) := by decide +kernel
theorem dX6_drawn_121 : decode cX6_drawn 121 = .ok (.aload_n 0, 1) := by decide +kernel
theorem dX6_drawn_122 : decode cX6_drawn 122 = .ok (.getfield 13, 3) := by decide +kernel
theorem dX6_drawn_125 : decode cX6_drawn 125 = .ok (.iload 6, 2) := by decide +kernel
theorem dX6_drawn_127 : decode cX6_drawn 127 = .ok (.iconst 1, 1) := by decide +kernel
theorem dX6_drawn_128 : decode cX6_drawn 128 = .ok (.isub, 1) := by decide +kernel
theorem dX6_drawn_129 : decode cX6_drawn 129 = .ok (.iaload, 1) := by decide +kernel
theorem dX6_drawn_130 : decode cX6_drawn 130 = .ok (.iaload, 1) := by decide +kernel
theorem dX6_drawn_131 : decode cX6_drawn 131 = .ok (.istore 8, 2) := by decide +kernel
theorem dX6_drawn_133 : decode cX6_drawn 133 = .ok (.aload_n 0, 1) := by decide +kernel
theorem dX6_drawn_134 : decode cX6_drawn 134 = .ok (.getfield 47, 3) := by decide +kernel
theorem dX6_drawn_137 : decode cX6_drawn 137 = .ok (.aload_n 0, 1) := by decide +kernel
theorem dX6_drawn_138 : decode cX6_drawn 138 = .ok (.getfield 7, 3) := by decide +kernel
theorem dX6_drawn_141 : decode cX6_drawn 141 = .ok (.iload 6, 2) := by decide +kernel
theorem dX6_drawn_143 : decode cX6_drawn 143 = .ok (.iconst 1, 1) := by decide +kernel
theorem dX6_drawn_144 : decode cX6_drawn 144 = .ok (.isub, 1) := by decide +kernel
theorem dX6_drawn_145 : decode cX6_drawn 145 = .ok (.iaload, 1) := by decide +kernel
theorem dX6_drawn_146 : decode cX6_drawn 146 = .ok (.iaload, 1) := by decide +kernel
theorem dX6_drawn_147 : decode cX6_drawn 147 = .ok (.istore 9, 2) := by decide +kernel
theorem dX6_drawn_149 : decode cX6_drawn 149 = .ok (.iconst 0, 1) := by decide +kernel
theorem dX6_drawn_150 : decode cX6_drawn 150 = .ok (.istore 10, 2) := by decide +kernel
theorem dX6_drawn_152 : decode cX6_drawn 152 = .ok (.iload 10, 2) := by decide +kernel
theorem dX6_drawn_154 : decode cX6_drawn 154 = .ok (.aload_n 0, 1) := by decide +kernel
theorem dX6_drawn_155 : decode cX6_drawn 155 = .ok (.getfield 60, 3) := by decide +kernel
theorem dX6_drawn_158 : decode cX6_drawn 158 = .ok (.if_icmp .ge 40, 3) := by decide +kernel
theorem dX6_drawn_161 : decode cX6_drawn 161 = .ok (.aload_n 0, 1) := by decide +kernel
theorem dX6_drawn_162 : decode cX6_drawn 162 = .ok (.getfield 47, 3) := by decide +kernel
theorem dX6_drawn_165 : decode cX6_drawn 165 = .ok (.iload 10, 2) := by decide +kernel
theorem dX6_drawn_167 : decode cX6_drawn 167 = .ok (.aload_n 0, 1) := by decide +kernel
theorem dX6_drawn_168 : decode cX6_drawn 168 = .ok (.getfield 47, 3) := by decide +kernel
theorem dX6_drawn_171 : decode cX6_drawn 171 = .ok (.iload 10, 2) := by decide +kernel
theorem dX6_drawn_173 : decode cX6_drawn 173 = .ok (.iaload, 1) := by decide +kernel
theorem dX6_drawn_174 : decode cX6_drawn 174 = .ok (.iload 8, 2) := by decide +kernel
theorem dX6_drawn_176 : decode cX6_drawn 176 = .ok (.if_icmp .ne 8, 3) := by decide +kernel
theorem dX6_drawn_179 : decode cX6_drawn 179 = .ok (.iload 9, 2) := by decide +kernel
theorem dX6_drawn_181 : decode cX6_drawn 181 = .ok (.goto 10, 3) := by decide +kernel
theorem dX6_drawn_184 : decode cX6_drawn 184 = .ok (.aload_n 0, 1) := by decide +kernel
theorem dX6_drawn_185 : decode cX6_drawn 185 = .ok (.getfield 47, 3) := by decide +kernel
theorem dX6_drawn_188 : decode cX6_drawn 188 = .ok (.iload 10, 2) := by decide +kernel
theorem dX6_drawn_190 : decode cX6_drawn 190 = .ok (.iaload, 1) := by decide +kernel
theorem dX6_drawn_191 : decode cX6_drawn 191 = .ok (.iastore, 1) := by decide +kernel
theorem dX6_drawn_192 : decode cX6_drawn 192 = .ok (.iinc 10 1, 3) := by decide +kernel
theorem dX6_drawn_195 : decode cX6_drawn 195 = .ok (.goto (-43), 3) := by decide +kernel
theorem dX6_drawn_198 : decode cX6_drawn 198 = .ok (.iinc 3 (-1), 3) := by decide +kernel
theorem dX6_drawn_201 : decode cX6_drawn 201 = .ok (.aload_n 0, 1) := by decide +kernel
theorem dX6_drawn_202 : decode cX6_drawn 202 = .ok (.invokevirtual 109, 3) := by decide +kernel
theorem dX6_drawn_205 : decode cX6_drawn 205 = .ok (.istore 4, 2) := by decide +kernel
theorem dX6_drawn_207 : decode cX6_drawn 207 = .ok (.goto (-160), 3) := by decide +kernel
theorem dX6_drawn_210 : decode cX6_drawn 210 = .ok (.iconst 0, 1) := by decide +kernel
theorem dX6_drawn_211 : decode cX6_drawn 211 = .ok (.istore 5, 2) := by decide +kernel
theorem dX6_drawn_213 : decode cX6_drawn 213 = .ok (.iconst 0, 1) := by decide +kernel
theorem dX6_drawn_214 : decode cX6_drawn 214 = .ok (.istore 6, 2) := by decide +kernel
theorem dX6_drawn_216 : decode cX6_drawn 216 = .ok (.iload 6, 2) := by decide +kernel
theorem dX6_drawn_218 : decode cX6_drawn 218 = .ok (.aload_n 0, 1) := by decide +kernel
theorem dX6_drawn_219 : decode cX6_drawn 219 = .ok (.getfield 60, 3) := by decide +kernel
theorem dX6_drawn_222 : decode cX6_drawn 222 = .ok (.if_icmp .ge 38, 3) := by decide +kernel
theorem dX6_drawn_225 : decode cX6_drawn 225 = .ok (.iload 5, 2) := by decide +kernel
theorem dX6_drawn_227 : decode cX6_drawn 227 = .ok (.aload_n 0, 1) := by decide +kernel
theorem dX6_drawn_228 : decode cX6_drawn 228 = .ok (.getfield 47, 3) := by decide +kernel
theorem dX6_drawn_231 : decode cX6_drawn 231 = .ok (.iload 6, 2) := by decide +kernel
theorem dX6_drawn_233 : decode cX6_drawn 233 = .ok (.iaload, 1) := by decide +kernel
theorem dX6_drawn_234 : decode cX6_drawn 234 = .ok (.aload_n 0, 1) := by decide +kernel
theorem dX6_drawn_235 : decode cX6_drawn 235 = .ok (.getfield 47, 3) := by decide +kernel
theorem dX6_drawn_238 : decode cX6_drawn 238 = .ok (.iconst 0, 1) := by decide +kernel
theorem dX6_drawn_239 : decode cX6_drawn 239 = .ok (.iaload, 1) := by decide +kernel
theorem dX6_drawn_240 : decode cX6_drawn 240 = .ok (.if_icmp .ne 10, 3) := by decide +kernel
theorem dX6_drawn_243 : decode cX6_drawn 243 = .ok (.iconst 1, 1) := by decide +kernel
theorem dX6_drawn_244 : decode cX6_drawn 244 = .ok (.iload 6, 2) := by decide +kernel
theorem dX6_drawn_246 : decode cX6_drawn 246 = .ok (.ishl, 1) := by decide +kernel
theorem dX6_drawn_247 : decode cX6_drawn 247 = .ok (.goto 4, 3) := by decide +kernel
theorem dX6_drawn_250 : decode cX6_drawn 250 = .ok (.iconst 0, 1) := by decide +kernel
theorem dX6_drawn_251 : decode cX6_drawn 251 = .ok (.ior, 1) := by decide +kernel
theorem dX6_drawn_252 : decode cX6_drawn 252 = .ok (.istore 5, 2) := by decide +kernel
theorem dX6_drawn_254 : decode cX6_drawn 254 = .ok (.iinc 6 1, 3) := by decide +kernel
theorem dX6_drawn_257 : decode cX6_drawn 257 = .ok (.goto (-41), 3) := by decide +kernel
theorem dX6_drawn_260 : decode cX6_drawn 260 = .ok (.iload 5, 2) := by decide +kernel
theorem dX6_drawn_262 : decode cX6_drawn 262 = .ok (.ireturn, 1) := by decide +kernel
theorem dX6_isLoose_0 : decode cX6_isLoose 0 = .ok (.aload_n 0, 1) := by decide +kernel
theorem dX6_isLoose_1 : decode cX6_isLoose 1 = .ok (.getfield 19, 3) := by decide +kernel
theorem dX6_isLoose_4 : decode cX6_isLoose 4 = .ok (.iload_n 1, 1) := by decide +kernel
theorem dX6_isLoose_5 : decode cX6_isLoose 5 = .ok (.baload, 1) := by decide +kernel
theorem dX6_isLoose_6 : decode cX6_isLoose 6 = .ok (.ifCond .eq 32, 3) := by decide +kernel
theorem dX6_isLoose_9 : decode cX6_isLoose 9 = .ok (.aload_n 0, 1) := by decide +kernel
theorem dX6_isLoose_10 : decode cX6_isLoose 10 = .ok (.getfield 47, 3) := by decide +kernel
theorem dX6_isLoose_13 : decode cX6_isLoose 13 = .ok (.aload_n 0, 1) := by decide +kernel
theorem dX6_isLoose_14 : decode cX6_isLoose 14 = .ok (.getfield 7, 3) := by decide +kernel
theorem dX6_isLoose_17 : decode cX6_isLoose 17 = .ok (.iload_n 1, 1) := by decide +kernel
theorem dX6_isLoose_18 : decode cX6_isLoose 18 = .ok (.iaload, 1) := by decide +kernel
theorem dX6_isLoose_19 : decode cX6_isLoose 19 = .ok (.iaload, 1) := by decide +kernel
theorem dX6_isLoose_20 : decode cX6_isLoose 20 = .ok (.aload_n 0, 1) := by decide +kernel
theorem dX6_isLoose_21 : decode cX6_isLoose 21 = .ok (.getfield 47, 3) := by decide +kernel
theorem dX6_isLoose_24 : decode cX6_isLoose 24 = .ok (.aload_n 0, 1) := by decide +kernel
theorem dX6_isLoose_25 : decode cX6_isLoose 25 = .ok (.getfield 13, 3) := by decide +kernel
theorem dX6_isLoose_28 : decode cX6_isLoose 28 = .ok (.iload_n 1, 1) := by decide +kernel
theorem dX6_isLoose_29 : decode cX6_isLoose 29 = .ok (.iaload, 1) := by decide +kernel
theorem dX6_isLoose_30 : decode cX6_isLoose 30 = .ok (.iaload, 1) := by decide +kernel
theorem dX6_isLoose_31 : decode cX6_isLoose 31 = .ok (.if_icmp .eq 7, 3) := by decide +kernel
theorem dX6_isLoose_34 : decode cX6_isLoose 34 = .ok (.iconst 1, 1) := by decide +kernel
theorem dX6_isLoose_35 : decode cX6_isLoose 35 = .ok (.goto 4, 3) := by decide +kernel
theorem dX6_isLoose_38 : decode cX6_isLoose 38 = .ok (.iconst 0, 1) := by decide +kernel
theorem dX6_isLoose_39 : decode cX6_isLoose 39 = .ok (.ireturn, 1) := by decide +kernel
theorem dX6_loose_0 : decode cX6_loose 0 = .ok (.iconst 0, 1) := by decide +kernel
theorem dX6_loose_1 : decode cX6_loose 1 = .ok (.istore_n 1, 1) := by decide +kernel
theorem dX6_loose_2 : decode cX6_loose 2 = .ok (.iconst 0, 1) := by decide +kernel
theorem dX6_loose_3 : decode cX6_loose 3 = .ok (.istore_n 2, 1) := by decide +kernel
theorem dX6_loose_4 : decode cX6_loose 4 = .ok (.iload_n 2, 1) := by decide +kernel
theorem dX6_loose_5 : decode cX6_loose 5 = .ok (.aload_n 0, 1) := by decide +kernel
theorem dX6_loose_6 : decode cX6_loose 6 = .ok (.getfield 71, 3) := by decide +kernel
theorem dX6_loose_9 : decode cX6_loose 9 = .ok (.if_icmp .ge 30, 3) := by decide +kernel
theorem dX6_loose_12 : decode cX6_loose 12 = .ok (.iload_n 1, 1) := by decide +kernel
theorem dX6_loose_13 : decode cX6_loose 13 = .ok (.aload_n 0, 1) := by decide +kernel
theorem dX6_loose_14 : decode cX6_loose 14 = .ok (.iload_n 2, 1) := by decide +kernel
theorem dX6_loose_15 : decode cX6_loose 15 = .ok (.invokevirtual 114, 3) := by decide +kernel
theorem dX6_loose_18 : decode cX6_loose 18 = .ok (.ifCond .eq 12, 3) := by decide +kernel
theorem dX6_loose_21 : decode cX6_loose 21 = .ok (.aload_n 0, 1) := by decide +kernel
theorem dX6_loose_22 : decode cX6_loose 22 = .ok (.getfield 16, 3) := by decide +kernel
theorem dX6_loose_25 : decode cX6_loose 25 = .ok (.iload_n 2, 1) := by decide +kernel
theorem dX6_loose_26 : decode cX6_loose 26 = .ok (.iaload, 1) := by decide +kernel
theorem dX6_loose_27 : decode cX6_loose 27 = .ok (.goto 4, 3) := by decide +kernel
theorem dX6_loose_30 : decode cX6_loose 30 = .ok (.iconst 0, 1) := by decide +kernel
theorem dX6_loose_31 : decode cX6_loose 31 = .ok (.iadd, 1) := by decide +kernel
theorem dX6_loose_32 : decode cX6_loose 32 = .ok (.istore_n 1, 1) := by decide +kernel
theorem dX6_loose_33 : decode cX6_loose 33 = .ok (.iinc 2 1, 3) := by decide +kernel
theorem dX6_loose_36 : decode cX6_loose 36 = .ok (.goto (-32), 3) := by decide +kernel
theorem dX6_loose_39 : decode cX6_loose 39 = .ok (.iload_n 1, 1) := by decide +kernel
theorem dX6_loose_40 : decode cX6_loose 40 = .ok (.ireturn, 1) := by decide +kernel
theorem dX6_partFault_0 : decode cX6_partFault 0 = .ok (.iload_n 1, 1) := by decide +kernel
theorem dX6_partFault_1 : decode cX6_partFault 1 = .ok (.iconst 1, 1) := by decide +kernel
theorem dX6_partFault_2 : decode cX6_partFault 2 = .ok (.if_icmp .lt 8, 3) := by decide +kernel
theorem dX6_partFault_5 : decode cX6_partFault 5 = .ok (.iload_n 1, 1) := by decide +kernel
theorem dX6_partFault_6 : decode cX6_partFault 6 = .ok (.iconst 4, 1) := by decide +kernel
theorem dX6_partFault_7 : decode cX6_partFault 7 = .ok (.if_icmp .le 8, 3) := by decide +kernel
theorem dX6_partFault_10 : decode cX6_partFault 10 = .ok (.bipush (-2), 2) := by decide +kernel
theorem dX6_partFault_12 : decode cX6_partFault 12 = .ok (.goto 31, 3) := by decide +kernel
theorem dX6_partFault_15 : decode cX6_partFault 15 = .ok (.aload_n 0, 1) := by decide +kernel
theorem dX6_partFault_16 : decode cX6_partFault 16 = .ok (.getfield 60, 3) := by decide +kernel
theorem dX6_partFault_19 : decode cX6_partFault 19 = .ok (.bipush 10, 2) := by decide +kernel
theorem dX6_partFault_21 : decode cX6_partFault 21 = .ok (.if_icmp .le 8, 3) := by decide +kernel
theorem dX6_partFault_24 : decode cX6_partFault 24 = .ok (.bipush (-4), 2) := by decide +kernel
theorem dX6_partFault_26 : decode cX6_partFault 26 = .ok (.goto 17, 3) := by decide +kernel
theorem dX6_partFault_29 : decode cX6_partFault 29 = .ok (.aload_n 0, 1) := by decide +kernel
theorem dX6_partFault_30 : decode cX6_partFault 30 = .ok (.getfield 60, 3) := by decide +kernel
theorem dX6_partFault_33 : decode cX6_partFault 33 = .ok (.iload_n 1, 1) := by decide +kernel
theorem dX6_partFault_34 : decode cX6_partFault 34 = .ok (.if_icmp .ge 8, 3) := by decide +kernel
theorem dX6_partFault_37 : decode cX6_partFault 37 = .ok (.bipush (-3), 2) := by decide +kernel
theorem dX6_partFault_39 : decode cX6_partFault 39 = .ok (.goto 4, 3) := by decide +kernel
theorem dX6_partFault_42 : decode cX6_partFault 42 = .ok (.iconst 0, 1) := by decide +kernel
theorem dX6_partFault_43 : decode cX6_partFault 43 = .ok (.ireturn, 1) := by decide +kernel
theorem dX6_findParts_0 : decode cX6_findParts 0 = .ok (.aload_n 0, 1) := by decide +kernel
theorem dX6_findParts_1 : decode cX6_findParts 1 = .ok (.invokevirtual 84, 3) := by decide +kernel
theorem dX6_findParts_4 : decode cX6_findParts 4 = .ok (.aload_n 0, 1) := by decide +kernel
theorem dX6_findParts_5 : decode cX6_findParts 5 = .ok (.getfield 41, 3) := by decide +kernel
theorem dX6_findParts_8 : decode cX6_findParts 8 = .ok (.iload_n 1, 1) := by decide +kernel
theorem dX6_findParts_9 : decode cX6_findParts 9 = .ok (.baload, 1) := by decide +kernel
theorem dX6_findParts_10 : decode cX6_findParts 10 = .ok (.ifCond .ne 4, 3) := by decide +kernel
theorem dX6_findParts_13 : decode cX6_findParts 13 = .ok (.return_, 1) := by decide +kernel
theorem dX6_findParts_14 : decode cX6_findParts 14 = .ok (.aload_n 0, 1) := by decide +kernel
theorem dX6_findParts_15 : decode cX6_findParts 15 = .ok (.getfield 41, 3) := by decide +kernel
theorem dX6_findParts_18 : decode cX6_findParts 18 = .ok (.iload_n 1, 1) := by decide +kernel
theorem dX6_findParts_19 : decode cX6_findParts 19 = .ok (.iconst 0, 1) := by decide +kernel
theorem dX6_findParts_20 : decode cX6_findParts 20 = .ok (.bastore, 1) := by decide +kernel
theorem dX6_findParts_21 : decode cX6_findParts 21 = .ok (.iconst (-1), 1) := by decide +kernel
theorem dX6_findParts_22 : decode cX6_findParts 22 = .ok (.istore_n 2, 1) := by decide +kernel
theorem dX6_findParts_23 : decode cX6_findParts 23 = .ok (.iconst 0, 1) := by decide +kernel
theorem dX6_findParts_24 : decode cX6_findParts 24 = .ok (.istore_n 3, 1) := by decide +kernel
theorem dX6_findParts_25 : decode cX6_findParts 25 = .ok (.aload_n 0, 1) := by decide +kernel
theorem dX6_findParts_26 : decode cX6_findParts 26 = .ok (.getfield 50, 3) := by decide +kernel
theorem dX6_findParts_29 : decode cX6_findParts 29 = .ok (.iconst 0, 1) := by decide +kernel
theorem dX6_findParts_30 : decode cX6_findParts 30 = .ok (.iconst (-1), 1) := by decide +kernel
theorem dX6_findParts_31 : decode cX6_findParts 31 = .ok (.iastore, 1) := by decide +kernel
theorem dX6_findParts_32 : decode cX6_findParts 32 = .ok (.aload_n 0, 1) := by decide +kernel
theorem dX6_findParts_33 : decode cX6_findParts 33 = .ok (.getfield 53, 3) := by decide +kernel
theorem dX6_findParts_36 : decode cX6_findParts 36 = .ok (.iconst 0, 1) := by decide +kernel
theorem dX6_findParts_37 : decode cX6_findParts 37 = .ok (.iconst 0, 1) := by decide +kernel
theorem dX6_findParts_38 : decode cX6_findParts 38 = .ok (.iastore, 1) := by decide +kernel
theorem dX6_findParts_39 : decode cX6_findParts 39 = .ok (.iload_n 3, 1) := by decide +kernel
theorem dX6_findParts_40 : decode cX6_findParts 40 = .ok (.ifCond .lt 184, 3) := by decide +kernel
theorem dX6_findParts_43 : decode cX6_findParts 43 = .ok (.aload_n 0, 1) := by decide +kernel
theorem dX6_findParts_44 : decode cX6_findParts 44 = .ok (.getfield 50, 3) := by decide +kernel
theorem dX6_findParts_47 : decode cX6_findParts 47 = .ok (.iload_n 3, 1) := by decide +kernel
theorem dX6_findParts_48 : decode cX6_findParts 48 = .ok (.dup2, 1) := by decide +kernel
theorem dX6_findParts_49 : decode cX6_findParts 49 = .ok (.iaload, 1) := by decide +kernel
theorem dX6_findParts_50 : decode cX6_findParts 50 = .ok (.iconst 1, 1) := by decide +kernel
theorem dX6_findParts_51 : decode cX6_findParts 51 = .ok (.iadd, 1) := by decide +kernel
theorem dX6_findParts_52 : decode cX6_findParts 52 = .ok (.iastore, 1) := by decide +kernel
theorem dX6_findParts_53 : decode cX6_findParts 53 = .ok (.aload_n 0, 1) := by decide +kernel
theorem dX6_findParts_54 : decode cX6_findParts 54 = .ok (.getfield 50, 3) := by decide +kernel
theorem dX6_findParts_57 : decode cX6_findParts 57 = .ok (.iload_n 3, 1) := by decide +kernel
theorem dX6_findParts_58 : decode cX6_findParts 58 = .ok (.iaload, 1) := by decide +kernel
theorem dX6_findParts_59 : decode cX6_findParts 59 = .ok (.iload_n 1, 1) := by decide +kernel
theorem dX6_findParts_60 : decode cX6_findParts 60 = .ok (.if_icmp .ne 9, 3) := by decide +kernel
theorem dX6_findParts_63 : decode cX6_findParts 63 = .ok (.iinc 3 (-1), 3) := by decide +kernel
theorem dX6_findParts_66 : decode cX6_findParts 66 = .ok (.goto (-27), 3) := by decide +kernel
theorem dX6_findParts_69 : decode cX6_findParts 69 = .ok (.aload_n 0, 1) := by decide +kernel
theorem dX6_findParts_70 : decode cX6_findParts 70 = .ok (.getfield 53, 3) := by decide +kernel
theorem dX6_findParts_73 : decode cX6_findParts 73 = .ok (.iload_n 3, 1) := by decide +kernel
theorem dX6_findParts_74 : decode cX6_findParts 74 = .ok (.iaload, 1) := by decide +kernel
theorem dX6_findParts_75 : decode cX6_findParts 75 = .ok (.istore 4, 2) := by decide +kernel
theorem dX6_findParts_77 : decode cX6_findParts 77 = .ok (.iconst 0, 1) := by decide +kernel
theorem dX6_findParts_78 : decode cX6_findParts 78 = .ok (.istore 5, 2) := by decide +kernel
theorem dX6_findParts_80 : decode cX6_findParts 80 = .ok (.iload 5, 2) := by decide +kernel
theorem dX6_findParts_82 : decode cX6_findParts 82 = .ok (.iload_n 3, 1) := by decide +kernel
theorem dX6_findParts_83 : decode cX6_findParts 83 = .ok (.if_icmp .ge 46, 3) := by decide +kernel
theorem dX6_findParts_86 : decode cX6_findParts 86 = .ok (.iload 4, 2) := by decide +kernel
theorem dX6_findParts_88 : decode cX6_findParts 88 = .ok (.aload_n 0, 1) := by decide +kernel
theorem dX6_findParts_89 : decode cX6_findParts 89 = .ok (.getfield 50, 3) := by decide +kernel
theorem dX6_findParts_92 : decode cX6_findParts 92 = .ok (.iload 5, 2) := by decide +kernel
theorem dX6_findParts_94 : decode cX6_findParts 94 = .ok (.iaload, 1) := by decide +kernel
theorem dX6_findParts_95 : decode cX6_findParts 95 = .ok (.aload_n 0, 1) := by decide +kernel
theorem dX6_findParts_96 : decode cX6_findParts 96 = .ok (.getfield 50, 3) := by decide +kernel
theorem dX6_findParts_99 : decode cX6_findParts 99 = .ok (.iload_n 3, 1) := by decide +kernel
theorem dX6_findParts_100 : decode cX6_findParts 100 = .ok (.iaload, 1) := by decide +kernel
theorem dX6_findParts_101 : decode cX6_findParts 101 = .ok (.if_icmp .eq 18, 3) := by decide +kernel
theorem dX6_findParts_104 : decode cX6_findParts 104 = .ok (.aload_n 0, 1) := by decide +kernel
theorem dX6_findParts_105 : decode cX6_findParts 105 = .ok (.getfield 23, 3) := by decide +kernel
theorem dX6_findParts_108 : decode cX6_findParts 108 = .ok (.bipush 12, 2) := by decide +kernel
theorem dX6_findParts_110 : decode cX6_findParts 110 = .ok (.iload_n 3, 1) := by decide +kernel
theorem dX6_findParts_111 : decode cX6_findParts 111 = .ok (.imul, 1) := by decide +kernel
theorem dX6_findParts_112 : decode cX6_findParts 112 = .ok (.iload 5, 2) := by decide +kernel
theorem dX6_findParts_114 : decode cX6_findParts 114 = .ok (.iadd, 1) := by decide +kernel
theorem dX6_findParts_115 : decode cX6_findParts 115 = .ok (.iaload, 1) := by decide +kernel
theorem dX6_findParts_116 : decode cX6_findParts 116 = .ok (.goto 4, 3) := by decide +kernel
theorem dX6_findParts_119 : decode cX6_findParts 119 = .ok (.iconst 0, 1) := by decide +kernel
theorem dX6_findParts_120 : decode cX6_findParts 120 = .ok (.iadd, 1) := by decide +kernel
theorem dX6_findParts_121 : decode cX6_findParts 121 = .ok (.istore 4, 2) := by decide +kernel
theorem dX6_findParts_123 : decode cX6_findParts 123 = .ok (.iinc 5 1, 3) := by decide +kernel
theorem dX6_findParts_126 : decode cX6_findParts 126 = .ok (.goto (-46), 3) := by decide +kernel
theorem dX6_findParts_129 : decode cX6_findParts 129 = .ok (.iload_n 2, 1) := by decide +kernel
theorem dX6_findParts_130 : decode cX6_findParts 130 = .ok (.ifCond .lt 12, 3) := by decide +kernel
theorem dX6_findParts_133 : decode cX6_findParts 133 = .ok (.iload 4, 2) := by decide +kernel
theorem dX6_findParts_135 : decode cX6_findParts 135 = .ok (.iload_n 2, 1) := by decide +kernel
theorem dX6_findParts_136 : decode cX6_findParts 136 = .ok (.if_icmp .lt 6, 3) := by decide +kernel
theorem dX6_findParts_139 : decode cX6_findParts 139 = .ok (.goto (-100), 3) := by decide +kernel
theorem dX6_findParts_142 : decode cX6_findParts 142 = .ok (.iload_n 3, 1) := by decide +kernel
theorem dX6_findParts_143 : decode cX6_findParts 143 = .ok (.aload_n 0, 1) := by decide +kernel
theorem dX6_findParts_144 : decode cX6_findParts 144 = .ok (.getfield 60, 3) := by decide +kernel
theorem dX6_findParts_147 : decode cX6_findParts 147 = .ok (.iconst 1, 1) := by decide +kernel
theorem dX6_findParts_148 : decode cX6_findParts 148 = .ok (.isub, 1) := by decide +kernel
theorem dX6_findParts_149 : decode cX6_findParts 149 = .ok (.if_icmp .ge 24, 3) := by decide +kernel
theorem dX6_findParts_152 : decode cX6_findParts 152 = .ok (.iinc 3 1, 3) := by decide +kernel
theorem dX6_findParts_155 : decode cX6_findParts 155 = .ok (.aload_n 0, 1) := by decide +kernel
theorem dX6_findParts_156 : decode cX6_findParts 156 = .ok (.getfield 50, 3) := by decide +kernel
theorem dX6_findParts_159 : decode cX6_findParts 159 = .ok (.iload_n 3, 1) := by decide +kernel
theorem dX6_findParts_160 : decode cX6_findParts 160 = .ok (.iconst (-1), 1) := by decide +kernel
theorem dX6_findParts_161 : decode cX6_findParts 161 = .ok (.iastore, 1) := by decide +kernel
theorem dX6_findParts_162 : decode cX6_findParts 162 = .ok (.aload_n 0, 1) := by decide +kernel
theorem dX6_findParts_163 : decode cX6_findParts 163 = .ok (.getfield 53, 3) := by decide +kernel
theorem dX6_findParts_166 : decode cX6_findParts 166 = .ok (.iload_n 3, 1) := by decide +kernel
theorem dX6_findParts_167 : decode cX6_findParts 167 = .ok (.iload 4, 2) := by decide +kernel
theorem dX6_findParts_169 : decode cX6_findParts 169 = .ok (.iastore, 1) := by decide +kernel
theorem dX6_findParts_170 : decode cX6_findParts 170 = .ok (.goto 51, 3) := by decide +kernel
theorem dX6_findParts_173 : decode cX6_findParts 173 = .ok (.aload_n 0, 1) := by decide +kernel
theorem dX6_findParts_174 : decode cX6_findParts 174 = .ok (.iload_n 1, 1) := by decide +kernel
theorem dX6_findParts_175 : decode cX6_findParts 175 = .ok (.invokevirtual 118, 3) := by decide +kernel
theorem dX6_findParts_178 : decode cX6_findParts 178 = .ok (.ifCond .eq 43, 3) := by decide +kernel
theorem dX6_findParts_181 : decode cX6_findParts 181 = .ok (.iload 4, 2) := by decide +kernel
theorem dX6_findParts_183 : decode cX6_findParts 183 = .ok (.istore_n 2, 1) := by decide +kernel
theorem dX6_findParts_184 : decode cX6_findParts 184 = .ok (.iconst 0, 1) := by decide +kernel
theorem dX6_findParts_185 : decode cX6_findParts 185 = .ok (.istore 5, 2) := by decide +kernel
theorem dX6_findParts_187 : decode cX6_findParts 187 = .ok (.iload 5, 2) := by decide +kernel
theorem dX6_findParts_189 : decode cX6_findParts 189 = .ok (.aload_n 0, 1) := by decide +kernel
theorem dX6_findParts_190 : decode cX6_findParts 190 = .ok (.getfield 60, 3) := by decide +kernel
theorem dX6_findParts_193 : decode cX6_findParts 193 = .ok (.if_icmp .ge 28, 3) := by decide +kernel
theorem dX6_findParts_196 : decode cX6_findParts 196 = .ok (.aload_n 0, 1) := by decide +kernel
theorem dX6_findParts_197 : decode cX6_findParts 197 = .ok (.getfield 44, 3) := by decide +kernel
theorem dX6_findParts_200 : decode cX6_findParts 200 = .ok (.bipush 12, 2) := by decide +kernel
theorem dX6_findParts_202 : decode cX6_findParts 202 = .ok (.iload_n 1, 1) := by decide +kernel
theorem dX6_findParts_203 : decode cX6_findParts 203 = .ok (.imul, 1) := by decide +kernel
theorem dX6_findParts_204 : decode cX6_findParts 204 = .ok (.iload 5, 2) := by decide +kernel
theorem dX6_findParts_206 : decode cX6_findParts 206 = .ok (.iadd, 1) := by decide +kernel
theorem dX6_findParts_207 : decode cX6_findParts 207 = .ok (.aload_n 0, 1) := by decide +kernel
theorem dX6_findParts_208 : decode cX6_findParts 208 = .ok (.getfield 50, 3) := by decide +kernel
theorem dX6_findParts_211 : decode cX6_findParts 211 = .ok (.iload 5, 2) := by decide +kernel
theorem dX6_findParts_213 : decode cX6_findParts 213 = .ok (.iaload, 1) := by decide +kernel
theorem dX6_findParts_214 : decode cX6_findParts 214 = .ok (.iastore, 1) := by decide +kernel
theorem dX6_findParts_215 : decode cX6_findParts 215 = .ok (.iinc 5 1, 3) := by decide +kernel
theorem dX6_findParts_218 : decode cX6_findParts 218 = .ok (.goto (-31), 3) := by decide +kernel
theorem dX6_findParts_221 : decode cX6_findParts 221 = .ok (.goto (-182), 3) := by decide +kernel
theorem dX6_findParts_224 : decode cX6_findParts 224 = .ok (.aload_n 0, 1) := by decide +kernel
theorem dX6_findParts_225 : decode cX6_findParts 225 = .ok (.getfield 38, 3) := by decide +kernel
theorem dX6_findParts_228 : decode cX6_findParts 228 = .ok (.iload_n 1, 1) := by decide +kernel
theorem dX6_findParts_229 : decode cX6_findParts 229 = .ok (.iload_n 2, 1) := by decide +kernel
theorem dX6_findParts_230 : decode cX6_findParts 230 = .ok (.iastore, 1) := by decide +kernel
theorem dX6_findParts_231 : decode cX6_findParts 231 = .ok (.return_, 1) := by decide +kernel
theorem dX6_isFull_0 : decode cX6_isFull 0 = .ok (.iconst 0, 1) := by decide +kernel
theorem dX6_isFull_1 : decode cX6_isFull 1 = .ok (.istore_n 2, 1) := by decide +kernel
theorem dX6_isFull_2 : decode cX6_isFull 2 = .ok (.iconst 0, 1) := by decide +kernel
theorem dX6_isFull_3 : decode cX6_isFull 3 = .ok (.istore_n 3, 1) := by decide +kernel
theorem dX6_isFull_4 : decode cX6_isFull 4 = .ok (.iload_n 3, 1) := by decide +kernel
theorem dX6_isFull_5 : decode cX6_isFull 5 = .ok (.aload_n 0, 1) := by decide +kernel
theorem dX6_isFull_6 : decode cX6_isFull 6 = .ok (.getfield 60, 3) := by decide +kernel
theorem dX6_isFull_9 : decode cX6_isFull 9 = .ok (.if_icmp .ge 20, 3) := by decide +kernel
theorem dX6_isFull_12 : decode cX6_isFull 12 = .ok (.iload_n 2, 1) := by decide +kernel
theorem dX6_isFull_13 : decode cX6_isFull 13 = .ok (.iconst 1, 1) := by decide +kernel
theorem dX6_isFull_14 : decode cX6_isFull 14 = .ok (.aload_n 0, 1) := by decide +kernel
theorem dX6_isFull_15 : decode cX6_isFull 15 = .ok (.getfield 50, 3) := by decide +kernel
theorem dX6_isFull_18 : decode cX6_isFull 18 = .ok (.iload_n 3, 1) := by decide +kernel
theorem dX6_isFull_19 : decode cX6_isFull 19 = .ok (.iaload, 1) := by decide +kernel
theorem dX6_isFull_20 : decode cX6_isFull 20 = .ok (.ishl, 1) := by decide +kernel
theorem dX6_isFull_21 : decode cX6_isFull 21 = .ok (.ior, 1) := by decide +kernel
theorem dX6_isFull_22 : decode cX6_isFull 22 = .ok (.istore_n 2, 1) := by decide +kernel
theorem dX6_isFull_23 : decode cX6_isFull 23 = .ok (.iinc 3 1, 3) := by decide +kernel
theorem dX6_isFull_26 : decode cX6_isFull 26 = .ok (.goto (-22), 3) := by decide +kernel
theorem dX6_isFull_29 : decode cX6_isFull 29 = .ok (.iload_n 2, 1) := by decide +kernel
theorem dX6_isFull_30 : decode cX6_isFull 30 = .ok (.iconst 1, 1) := by decide +kernel
theorem dX6_isFull_31 : decode cX6_isFull 31 = .ok (.iload_n 1, 1) := by decide +kernel
theorem dX6_isFull_32 : decode cX6_isFull 32 = .ok (.ishl, 1) := by decide +kernel
theorem dX6_isFull_33 : decode cX6_isFull 33 = .ok (.iconst 1, 1) := by decide +kernel
theorem dX6_isFull_34 : decode cX6_isFull 34 = .ok (.isub, 1) := by decide +kernel
theorem dX6_isFull_35 : decode cX6_isFull 35 = .ok (.if_icmp .ne 7, 3) := by decide +kernel
theorem dX6_isFull_38 : decode cX6_isFull 38 = .ok (.iconst 1, 1) := by decide +kernel
theorem dX6_isFull_39 : decode cX6_isFull 39 = .ok (.goto 4, 3) := by decide +kernel
theorem dX6_isFull_42 : decode cX6_isFull 42 = .ok (.iconst 0, 1) := by decide +kernel
theorem dX6_isFull_43 : decode cX6_isFull 43 = .ok (.ireturn, 1) := by decide +kernel
theorem dX6_parts_0 : decode cX6_parts 0 = .ok (.aload_n 0, 1) := by decide +kernel
theorem dX6_parts_1 : decode cX6_parts 1 = .ok (.iload_n 1, 1) := by decide +kernel
theorem dX6_parts_2 : decode cX6_parts 2 = .ok (.invokevirtual 121, 3) := by decide +kernel
theorem dX6_parts_5 : decode cX6_parts 5 = .ok (.istore_n 2, 1) := by decide +kernel
theorem dX6_parts_6 : decode cX6_parts 6 = .ok (.iload_n 2, 1) := by decide +kernel
theorem dX6_parts_7 : decode cX6_parts 7 = .ok (.ifCond .ge 5, 3) := by decide +kernel
theorem dX6_parts_10 : decode cX6_parts 10 = .ok (.iload_n 2, 1) := by decide +kernel
theorem dX6_parts_11 : decode cX6_parts 11 = .ok (.ireturn, 1) := by decide +kernel
theorem dX6_parts_12 : decode cX6_parts 12 = .ok (.aload_n 0, 1) := by decide +kernel
theorem dX6_parts_13 : decode cX6_parts 13 = .ok (.iload_n 1, 1) := by decide +kernel
theorem dX6_parts_14 : decode cX6_parts 14 = .ok (.invokevirtual 124, 3) := by decide +kernel
theorem dX6_parts_17 : decode cX6_parts 17 = .ok (.aload_n 0, 1) := by decide +kernel
theorem dX6_parts_18 : decode cX6_parts 18 = .ok (.getfield 38, 3) := by decide +kernel
theorem dX6_parts_21 : decode cX6_parts 21 = .ok (.iload_n 1, 1) := by decide +kernel
theorem dX6_parts_22 : decode cX6_parts 22 = .ok (.iaload, 1) := by decide +kernel
theorem dX6_parts_23 : decode cX6_parts 23 = .ok (.ireturn, 1) := by decide +kernel
theorem dX6_partOf_0 : decode cX6_partOf 0 = .ok (.iload_n 2, 1) := by decide +kernel
theorem dX6_partOf_1 : decode cX6_partOf 1 = .ok (.ifCond .lt 11, 3) := by decide +kernel
theorem dX6_partOf_4 : decode cX6_partOf 4 = .ok (.iload_n 2, 1) := by decide +kernel
theorem dX6_partOf_5 : decode cX6_partOf 5 = .ok (.aload_n 0, 1) := by decide +kernel
theorem dX6_partOf_6 : decode cX6_partOf 6 = .ok (.getfield 60, 3) := by decide +kernel
theorem dX6_partOf_9 : decode cX6_partOf 9 = .ok (.if_icmp .lt 5, 3) := by decide +kernel
theorem dX6_partOf_12 : decode cX6_partOf 12 = .ok (.iconst (-1), 1) := by decide +kernel
theorem dX6_partOf_13 : decode cX6_partOf 13 = .ok (.ireturn, 1) := by decide +kernel
theorem dX6_partOf_14 : decode cX6_partOf 14 = .ok (.aload_n 0, 1) := by decide +kernel
theorem dX6_partOf_15 : decode cX6_partOf 15 = .ok (.iload_n 1, 1) := by decide +kernel
theorem dX6_partOf_16 : decode cX6_partOf 16 = .ok (.invokevirtual 121, 3) := by decide +kernel
theorem dX6_partOf_19 : decode cX6_partOf 19 = .ok (.istore_n 3, 1) := by decide +kernel
theorem dX6_partOf_20 : decode cX6_partOf 20 = .ok (.iload_n 3, 1) := by decide +kernel
theorem dX6_partOf_21 : decode cX6_partOf 21 = .ok (.ifCond .ge 5, 3) := by decide +kernel
theorem dX6_partOf_24 : decode cX6_partOf 24 = .ok (.iload_n 3, 1) := by decide +kernel
theorem dX6_partOf_25 : decode cX6_partOf 25 = .ok (.ireturn, 1) := by decide +kernel
theorem dX6_partOf_26 : decode cX6_partOf 26 = .ok (.aload_n 0, 1) := by decide +kernel
theorem dX6_partOf_27 : decode cX6_partOf 27 = .ok (.iload_n 1, 1) := by decide +kernel
theorem dX6_partOf_28 : decode cX6_partOf 28 = .ok (.invokevirtual 124, 3) := by decide +kernel
theorem dX6_partOf_31 : decode cX6_partOf 31 = .ok (.aload_n 0, 1) := by decide +kernel
theorem dX6_partOf_32 : decode cX6_partOf 32 = .ok (.getfield 44, 3) := by decide +kernel
theorem dX6_partOf_35 : decode cX6_partOf 35 = .ok (.bipush 12, 2) := by decide +kernel
theorem dX6_partOf_37 : decode cX6_partOf 37 = .ok (.iload_n 1, 1) := by decide +kernel
theorem dX6_partOf_38 : decode cX6_partOf 38 = .ok (.imul, 1) := by decide +kernel
theorem dX6_partOf_39 : decode cX6_partOf 39 = .ok (.iload_n 2, 1) := by decide +kernel
theorem dX6_partOf_40 : decode cX6_partOf 40 = .ok (.iadd, 1) := by decide +kernel
theorem dX6_partOf_41 : decode cX6_partOf 41 = .ok (.iaload, 1) := by decide +kernel
theorem dX6_partOf_42 : decode cX6_partOf 42 = .ok (.ireturn, 1) := by decide +kernel
theorem dX6_count_0 : decode cX6_count 0 = .ok (.iconst 0, 1) := by decide +kernel
theorem dX6_count_1 : decode cX6_count 1 = .ok (.istore_n 1, 1) := by decide +kernel
theorem dX6_count_2 : decode cX6_count 2 = .ok (.iconst 0, 1) := by decide +kernel
theorem dX6_count_3 : decode cX6_count 3 = .ok (.istore_n 2, 1) := by decide +kernel
theorem dX6_count_4 : decode cX6_count 4 = .ok (.iload_n 2, 1) := by decide +kernel
theorem dX6_count_5 : decode cX6_count 5 = .ok (.bipush 12, 2) := by decide +kernel
theorem dX6_count_7 : decode cX6_count 7 = .ok (.if_icmp .ge 17, 3) := by decide +kernel
theorem dX6_count_10 : decode cX6_count 10 = .ok (.iload_n 1, 1) := by decide +kernel
theorem dX6_count_11 : decode cX6_count 11 = .ok (.iload_n 0, 1) := by decide +kernel
theorem dX6_count_12 : decode cX6_count 12 = .ok (.iload_n 2, 1) := by decide +kernel
theorem dX6_count_13 : decode cX6_count 13 = .ok (.ishr, 1) := by decide +kernel
theorem dX6_count_14 : decode cX6_count 14 = .ok (.iconst 1, 1) := by decide +kernel
theorem dX6_count_15 : decode cX6_count 15 = .ok (.iand, 1) := by decide +kernel
theorem dX6_count_16 : decode cX6_count 16 = .ok (.iadd, 1) := by decide +kernel
theorem dX6_count_17 : decode cX6_count 17 = .ok (.istore_n 1, 1) := by decide +kernel
theorem dX6_count_18 : decode cX6_count 18 = .ok (.iinc 2 1, 3) := by decide +kernel
theorem dX6_count_21 : decode cX6_count 21 = .ok (.goto (-17), 3) := by decide +kernel
theorem dX6_count_24 : decode cX6_count 24 = .ok (.iload_n 1, 1) := by decide +kernel
theorem dX6_count_25 : decode cX6_count 25 = .ok (.ireturn, 1) := by decide +kernel
theorem dX6_below_0 : decode cX6_below 0 = .ok (.iload_n 1, 1) := by decide +kernel
theorem dX6_below_1 : decode cX6_below 1 = .ok (.invokestatic 128, 3) := by decide +kernel
theorem dX6_below_4 : decode cX6_below 4 = .ok (.aload_n 0, 1) := by decide +kernel
theorem dX6_below_5 : decode cX6_below 5 = .ok (.getfield 60, 3) := by decide +kernel
theorem dX6_below_8 : decode cX6_below 8 = .ok (.iload_n 1, 1) := by decide +kernel
theorem dX6_below_9 : decode cX6_below 9 = .ok (.invokestatic 128, 3) := by decide +kernel
theorem dX6_below_12 : decode cX6_below 12 = .ok (.isub, 1) := by decide +kernel
theorem dX6_below_13 : decode cX6_below 13 = .ok (.imul, 1) := by decide +kernel
theorem dX6_below_14 : decode cX6_below 14 = .ok (.ireturn, 1) := by decide +kernel
theorem dX6_sparsestOf_0 : decode cX6_sparsestOf 0 = .ok (.aload_n 0, 1) := by decide +kernel
theorem dX6_sparsestOf_1 : decode cX6_sparsestOf 1 = .ok (.invokevirtual 84, 3) := by decide +kernel
theorem dX6_sparsestOf_4 : decode cX6_sparsestOf 4 = .ok (.iconst 2, 1) := by decide +kernel
theorem dX6_sparsestOf_5 : decode cX6_sparsestOf 5 = .ok (.istore_n 1, 1) := by decide +kernel
theorem dX6_sparsestOf_6 : decode cX6_sparsestOf 6 = .ok (.iconst 4, 1) := by decide +kernel
theorem dX6_sparsestOf_7 : decode cX6_sparsestOf 7 = .ok (.istore_n 2, 1) := by decide +kernel
theorem dX6_sparsestOf_8 : decode cX6_sparsestOf 8 = .ok (.iload_n 2, 1) := by decide +kernel
theorem dX6_sparsestOf_9 : decode cX6_sparsestOf 9 = .ok (.aload_n 0, 1) := by decide +kernel
theorem dX6_sparsestOf_10 : decode cX6_sparsestOf 10 = .ok (.invokevirtual 77, 3) := by decide +kernel
theorem dX6_sparsestOf_13 : decode cX6_sparsestOf 13 = .ok (.if_icmp .gt 38, 3) := by decide +kernel
theorem dX6_sparsestOf_16 : decode cX6_sparsestOf 16 = .ok (.aload_n 0, 1) := by decide +kernel
theorem dX6_sparsestOf_17 : decode cX6_sparsestOf 17 = .ok (.getfield 29, 3) := by decide +kernel
theorem dX6_sparsestOf_20 : decode cX6_sparsestOf 20 = .ok (.iload_n 2, 1) := by decide +kernel
theorem dX6_sparsestOf_21 : decode cX6_sparsestOf 21 = .ok (.iaload, 1) := by decide +kernel
theorem dX6_sparsestOf_22 : decode cX6_sparsestOf 22 = .ok (.aload_n 0, 1) := by decide +kernel
theorem dX6_sparsestOf_23 : decode cX6_sparsestOf 23 = .ok (.iload_n 1, 1) := by decide +kernel
theorem dX6_sparsestOf_24 : decode cX6_sparsestOf 24 = .ok (.invokevirtual 131, 3) := by decide +kernel
theorem dX6_sparsestOf_27 : decode cX6_sparsestOf 27 = .ok (.imul, 1) := by decide +kernel
theorem dX6_sparsestOf_28 : decode cX6_sparsestOf 28 = .ok (.aload_n 0, 1) := by decide +kernel
theorem dX6_sparsestOf_29 : decode cX6_sparsestOf 29 = .ok (.getfield 29, 3) := by decide +kernel
theorem dX6_sparsestOf_32 : decode cX6_sparsestOf 32 = .ok (.iload_n 1, 1) := by decide +kernel
theorem dX6_sparsestOf_33 : decode cX6_sparsestOf 33 = .ok (.iaload, 1) := by decide +kernel
theorem dX6_sparsestOf_34 : decode cX6_sparsestOf 34 = .ok (.aload_n 0, 1) := by decide +kernel
theorem dX6_sparsestOf_35 : decode cX6_sparsestOf 35 = .ok (.iload_n 2, 1) := by decide +kernel
theorem dX6_sparsestOf_36 : decode cX6_sparsestOf 36 = .ok (.invokevirtual 131, 3) := by decide +kernel
theorem dX6_sparsestOf_39 : decode cX6_sparsestOf 39 = .ok (.imul, 1) := by decide +kernel
theorem dX6_sparsestOf_40 : decode cX6_sparsestOf 40 = .ok (.if_icmp .ge 5, 3) := by decide +kernel
theorem dX6_sparsestOf_43 : decode cX6_sparsestOf 43 = .ok (.iload_n 2, 1) := by decide +kernel
theorem dX6_sparsestOf_44 : decode cX6_sparsestOf 44 = .ok (.istore_n 1, 1) := by decide +kernel
theorem dX6_sparsestOf_45 : decode cX6_sparsestOf 45 = .ok (.iinc 2 2, 3) := by decide +kernel
theorem dX6_sparsestOf_48 : decode cX6_sparsestOf 48 = .ok (.goto (-40), 3) := by decide +kernel
theorem dX6_sparsestOf_51 : decode cX6_sparsestOf 51 = .ok (.iload_n 1, 1) := by decide +kernel
theorem dX6_sparsestOf_52 : decode cX6_sparsestOf 52 = .ok (.ireturn, 1) := by decide +kernel
theorem dX6_sparsest_0 : decode cX6_sparsest 0 = .ok (.aload_n 0, 1) := by decide +kernel
theorem dX6_sparsest_1 : decode cX6_sparsest 1 = .ok (.getfield 60, 3) := by decide +kernel
theorem dX6_sparsest_4 : decode cX6_sparsest 4 = .ok (.iconst 2, 1) := by decide +kernel
theorem dX6_sparsest_5 : decode cX6_sparsest 5 = .ok (.if_icmp .ge 8, 3) := by decide +kernel
theorem dX6_sparsest_8 : decode cX6_sparsest 8 = .ok (.bipush (-3), 2) := by decide +kernel
theorem dX6_sparsest_10 : decode cX6_sparsest 10 = .ok (.goto 7, 3) := by decide +kernel
theorem dX6_sparsest_13 : decode cX6_sparsest 13 = .ok (.aload_n 0, 1) := by decide +kernel
theorem dX6_sparsest_14 : decode cX6_sparsest 14 = .ok (.invokevirtual 134, 3) := by decide +kernel
theorem dX6_sparsest_17 : decode cX6_sparsest 17 = .ok (.ireturn, 1) := by decide +kernel
theorem dX6_share_0 : decode cX6_share 0 = .ok (.iload_n 1, 1) := by decide +kernel
theorem dX6_share_1 : decode cX6_share 1 = .ok (.ifCond .lt 8, 3) := by decide +kernel
theorem dX6_share_4 : decode cX6_share 4 = .ok (.iload_n 1, 1) := by decide +kernel
theorem dX6_share_5 : decode cX6_share 5 = .ok (.iconst 1, 1) := by decide +kernel
theorem dX6_share_6 : decode cX6_share 6 = .ok (.if_icmp .le 6, 3) := by decide +kernel
theorem dX6_share_9 : decode cX6_share 9 = .ok (.bipush (-2), 2) := by decide +kernel
theorem dX6_share_11 : decode cX6_share 11 = .ok (.ireturn, 1) := by decide +kernel
theorem dX6_share_12 : decode cX6_share 12 = .ok (.aload_n 0, 1) := by decide +kernel
theorem dX6_share_13 : decode cX6_share 13 = .ok (.getfield 60, 3) := by decide +kernel
theorem dX6_share_16 : decode cX6_share 16 = .ok (.iconst 2, 1) := by decide +kernel
theorem dX6_share_17 : decode cX6_share 17 = .ok (.if_icmp .ge 6, 3) := by decide +kernel
theorem dX6_share_20 : decode cX6_share 20 = .ok (.bipush (-3), 2) := by decide +kernel
theorem dX6_share_22 : decode cX6_share 22 = .ok (.ireturn, 1) := by decide +kernel
theorem dX6_share_23 : decode cX6_share 23 = .ok (.aload_n 0, 1) := by decide +kernel
theorem dX6_share_24 : decode cX6_share 24 = .ok (.invokevirtual 134, 3) := by decide +kernel
theorem dX6_share_27 : decode cX6_share 27 = .ok (.istore_n 2, 1) := by decide +kernel
theorem dX6_share_28 : decode cX6_share 28 = .ok (.aload_n 0, 1) := by decide +kernel
theorem dX6_share_29 : decode cX6_share 29 = .ok (.getfield 29, 3) := by decide +kernel
theorem dX6_share_32 : decode cX6_share 32 = .ok (.iload_n 2, 1) := by decide +kernel
theorem dX6_share_33 : decode cX6_share 33 = .ok (.iaload, 1) := by decide +kernel
theorem dX6_share_34 : decode cX6_share 34 = .ok (.istore_n 3, 1) := by decide +kernel
theorem dX6_share_35 : decode cX6_share 35 = .ok (.aload_n 0, 1) := by decide +kernel
theorem dX6_share_36 : decode cX6_share 36 = .ok (.iload_n 2, 1) := by decide +kernel
theorem dX6_share_37 : decode cX6_share 37 = .ok (.invokevirtual 131, 3) := by decide +kernel
theorem dX6_share_40 : decode cX6_share 40 = .ok (.istore 4, 2) := by decide +kernel
theorem dX6_share_42 : decode cX6_share 42 = .ok (.iload_n 3, 1) := by decide +kernel
theorem dX6_share_43 : decode cX6_share 43 = .ok (.istore 5, 2) := by decide +kernel
theorem dX6_share_45 : decode cX6_share 45 = .ok (.iload 4, 2) := by decide +kernel
theorem dX6_share_47 : decode cX6_share 47 = .ok (.istore 6, 2) := by decide +kernel
theorem dX6_share_49 : decode cX6_share 49 = .ok (.iload 6, 2) := by decide +kernel
theorem dX6_share_51 : decode cX6_share 51 = .ok (.ifCond .eq 21, 3) := by decide +kernel
theorem dX6_share_54 : decode cX6_share 54 = .ok (.iload 5, 2) := by decide +kernel
theorem dX6_share_56 : decode cX6_share 56 = .ok (.iload 6, 2) := by decide +kernel
theorem dX6_share_58 : decode cX6_share 58 = .ok (.irem, 1) := by decide +kernel
theorem dX6_share_59 : decode cX6_share 59 = .ok (.istore 7, 2) := by decide +kernel
theorem dX6_share_61 : decode cX6_share 61 = .ok (.iload 6, 2) := by decide +kernel
theorem dX6_share_63 : decode cX6_share 63 = .ok (.istore 5, 2) := by decide +kernel
theorem dX6_share_65 : decode cX6_share 65 = .ok (.iload 7, 2) := by decide +kernel
theorem dX6_share_67 : decode cX6_share 67 = .ok (.istore 6, 2) := by decide +kernel
theorem dX6_share_69 : decode cX6_share 69 = .ok (.goto (-20), 3) := by decide +kernel
theorem dX6_share_72 : decode cX6_share 72 = .ok (.iload_n 1, 1) := by decide +kernel
theorem dX6_share_73 : decode cX6_share 73 = .ok (.ifCond .ne 7, 3) := by decide +kernel
theorem dX6_share_76 : decode cX6_share 76 = .ok (.iload_n 3, 1) := by decide +kernel
theorem dX6_share_77 : decode cX6_share 77 = .ok (.goto 5, 3) := by decide +kernel
theorem dX6_share_80 : decode cX6_share 80 = .ok (.iload 4, 2) := by decide +kernel
theorem dX6_share_82 : decode cX6_share 82 = .ok (.iload 5, 2) := by decide +kernel
theorem dX6_share_84 : decode cX6_share 84 = .ok (.idiv, 1) := by decide +kernel
theorem dX6_share_85 : decode cX6_share 85 = .ok (.ireturn, 1) := by decide +kernel
theorem dX6_part_0 : decode cX6_part 0 = .ok (.iconst 1, 1) := by decide +kernel
theorem dX6_part_1 : decode cX6_part 1 = .ok (.iload_n 1, 1) := by decide +kernel
theorem dX6_part_2 : decode cX6_part 2 = .ok (.ishl, 1) := by decide +kernel
theorem dX6_part_3 : decode cX6_part 3 = .ok (.istore_n 3, 1) := by decide +kernel
theorem dX6_part_4 : decode cX6_part 4 = .ok (.iconst 0, 1) := by decide +kernel
theorem dX6_part_5 : decode cX6_part 5 = .ok (.istore 4, 2) := by decide +kernel
theorem dX6_part_7 : decode cX6_part 7 = .ok (.iload 4, 2) := by decide +kernel
theorem dX6_part_9 : decode cX6_part 9 = .ok (.iload_n 3, 1) := by decide +kernel
theorem dX6_part_10 : decode cX6_part 10 = .ok (.if_icmp .eq 51, 3) := by decide +kernel
theorem dX6_part_13 : decode cX6_part 13 = .ok (.iload_n 3, 1) := by decide +kernel
theorem dX6_part_14 : decode cX6_part 14 = .ok (.istore 4, 2) := by decide +kernel
theorem dX6_part_16 : decode cX6_part 16 = .ok (.iconst 0, 1) := by decide +kernel
theorem dX6_part_17 : decode cX6_part 17 = .ok (.istore 5, 2) := by decide +kernel
theorem dX6_part_19 : decode cX6_part 19 = .ok (.iload 5, 2) := by decide +kernel
theorem dX6_part_21 : decode cX6_part 21 = .ok (.aload_n 0, 1) := by decide +kernel
theorem dX6_part_22 : decode cX6_part 22 = .ok (.getfield 60, 3) := by decide +kernel
theorem dX6_part_25 : decode cX6_part 25 = .ok (.if_icmp .ge 33, 3) := by decide +kernel
theorem dX6_part_28 : decode cX6_part 28 = .ok (.iload_n 3, 1) := by decide +kernel
theorem dX6_part_29 : decode cX6_part 29 = .ok (.iload 5, 2) := by decide +kernel
theorem dX6_part_31 : decode cX6_part 31 = .ok (.ishr, 1) := by decide +kernel
theorem dX6_part_32 : decode cX6_part 32 = .ok (.iconst 1, 1) := by decide +kernel
theorem dX6_part_33 : decode cX6_part 33 = .ok (.iand, 1) := by decide +kernel
theorem dX6_part_34 : decode cX6_part 34 = .ok (.iconst 1, 1) := by decide +kernel
theorem dX6_part_35 : decode cX6_part 35 = .ok (.if_icmp .ne 17, 3) := by decide +kernel
theorem dX6_part_38 : decode cX6_part 38 = .ok (.iload_n 3, 1) := by decide +kernel
theorem dX6_part_39 : decode cX6_part 39 = .ok (.aload_n 0, 1) := by decide +kernel
theorem dX6_part_40 : decode cX6_part 40 = .ok (.getfield 26, 3) := by decide +kernel
theorem dX6_part_43 : decode cX6_part 43 = .ok (.iload 5, 2) := by decide +kernel
theorem dX6_part_45 : decode cX6_part 45 = .ok (.iaload, 1) := by decide +kernel
theorem dX6_part_46 : decode cX6_part 46 = .ok (.iload_n 2, 1) := by decide +kernel
theorem dX6_part_47 : decode cX6_part 47 = .ok (.iconst (-1), 1) := by decide +kernel
theorem dX6_part_48 : decode cX6_part 48 = .ok (.ixor, 1) := by decide +kernel
theorem dX6_part_49 : decode cX6_part 49 = .ok (.iand, 1) := by decide +kernel
theorem dX6_part_50 : decode cX6_part 50 = .ok (.ior, 1) := by decide +kernel
theorem dX6_part_51 : decode cX6_part 51 = .ok (.istore_n 3, 1) := by decide +kernel
theorem dX6_part_52 : decode cX6_part 52 = .ok (.iinc 5 1, 3) := by decide +kernel
theorem dX6_part_55 : decode cX6_part 55 = .ok (.goto (-36), 3) := by decide +kernel
theorem dX6_part_58 : decode cX6_part 58 = .ok (.goto (-51), 3) := by decide +kernel
theorem dX6_part_61 : decode cX6_part 61 = .ok (.iload_n 3, 1) := by decide +kernel
theorem dX6_part_62 : decode cX6_part 62 = .ok (.ireturn, 1) := by decide +kernel
theorem dX6_barsOf_0 : decode cX6_barsOf 0 = .ok (.iconst (-1), 1) := by decide +kernel
theorem dX6_barsOf_1 : decode cX6_barsOf 1 = .ok (.istore_n 3, 1) := by decide +kernel
theorem dX6_barsOf_2 : decode cX6_barsOf 2 = .ok (.iconst 0, 1) := by decide +kernel
theorem dX6_barsOf_3 : decode cX6_barsOf 3 = .ok (.istore 4, 2) := by decide +kernel
theorem dX6_barsOf_5 : decode cX6_barsOf 5 = .ok (.iload 4, 2) := by decide +kernel
theorem dX6_barsOf_7 : decode cX6_barsOf 7 = .ok (.aload_n 0, 1) := by decide +kernel
theorem dX6_barsOf_8 : decode cX6_barsOf 8 = .ok (.invokevirtual 77, 3) := by decide +kernel
theorem dX6_barsOf_11 : decode cX6_barsOf 11 = .ok (.if_icmp .gt 60, 3) := by decide +kernel
theorem dX6_barsOf_14 : decode cX6_barsOf 14 = .ok (.iload 4, 2) := by decide +kernel
theorem dX6_barsOf_16 : decode cX6_barsOf 16 = .ok (.iload_n 1, 1) := by decide +kernel
theorem dX6_barsOf_17 : decode cX6_barsOf 17 = .ok (.ishr, 1) := by decide +kernel
theorem dX6_barsOf_18 : decode cX6_barsOf 18 = .ok (.iconst 1, 1) := by decide +kernel
theorem dX6_barsOf_19 : decode cX6_barsOf 19 = .ok (.iand, 1) := by decide +kernel
theorem dX6_barsOf_20 : decode cX6_barsOf 20 = .ok (.ifCond .ne 45, 3) := by decide +kernel
theorem dX6_barsOf_23 : decode cX6_barsOf 23 = .ok (.iload 4, 2) := by decide +kernel
theorem dX6_barsOf_25 : decode cX6_barsOf 25 = .ok (.iload_n 2, 1) := by decide +kernel
theorem dX6_barsOf_26 : decode cX6_barsOf 26 = .ok (.ishr, 1) := by decide +kernel
theorem dX6_barsOf_27 : decode cX6_barsOf 27 = .ok (.iconst 1, 1) := by decide +kernel
theorem dX6_barsOf_28 : decode cX6_barsOf 28 = .ok (.iand, 1) := by decide +kernel
theorem dX6_barsOf_29 : decode cX6_barsOf 29 = .ok (.ifCond .ne 36, 3) := by decide +kernel
theorem dX6_barsOf_32 : decode cX6_barsOf 32 = .ok (.aload_n 0, 1) := by decide +kernel
theorem dX6_barsOf_33 : decode cX6_barsOf 33 = .ok (.iload_n 1, 1) := by decide +kernel
theorem dX6_barsOf_34 : decode cX6_barsOf 34 = .ok (.iload 4, 2) := by decide +kernel
theorem dX6_barsOf_36 : decode cX6_barsOf 36 = .ok (.invokevirtual 137, 3) := by decide +kernel
theorem dX6_barsOf_39 : decode cX6_barsOf 39 = .ok (.iload_n 2, 1) := by decide +kernel
theorem dX6_barsOf_40 : decode cX6_barsOf 40 = .ok (.ishr, 1) := by decide +kernel
theorem dX6_barsOf_41 : decode cX6_barsOf 41 = .ok (.iconst 1, 1) := by decide +kernel
theorem dX6_barsOf_42 : decode cX6_barsOf 42 = .ok (.iand, 1) := by decide +kernel
theorem dX6_barsOf_43 : decode cX6_barsOf 43 = .ok (.ifCond .ne 22, 3) := by decide +kernel
theorem dX6_barsOf_46 : decode cX6_barsOf 46 = .ok (.iload_n 3, 1) := by decide +kernel
theorem dX6_barsOf_47 : decode cX6_barsOf 47 = .ok (.ifCond .lt 15, 3) := by decide +kernel
theorem dX6_barsOf_50 : decode cX6_barsOf 50 = .ok (.iload 4, 2) := by decide +kernel
theorem dX6_barsOf_52 : decode cX6_barsOf 52 = .ok (.invokestatic 128, 3) := by decide +kernel
theorem dX6_barsOf_55 : decode cX6_barsOf 55 = .ok (.iload_n 3, 1) := by decide +kernel
theorem dX6_barsOf_56 : decode cX6_barsOf 56 = .ok (.invokestatic 128, 3) := by decide +kernel
theorem dX6_barsOf_59 : decode cX6_barsOf 59 = .ok (.if_icmp .ge 6, 3) := by decide +kernel
theorem dX6_barsOf_62 : decode cX6_barsOf 62 = .ok (.iload 4, 2) := by decide +kernel
theorem dX6_barsOf_64 : decode cX6_barsOf 64 = .ok (.istore_n 3, 1) := by decide +kernel
theorem dX6_barsOf_65 : decode cX6_barsOf 65 = .ok (.iinc 4 1, 3) := by decide +kernel
theorem dX6_barsOf_68 : decode cX6_barsOf 68 = .ok (.goto (-63), 3) := by decide +kernel
theorem dX6_barsOf_71 : decode cX6_barsOf 71 = .ok (.iload_n 3, 1) := by decide +kernel
theorem dX6_barsOf_72 : decode cX6_barsOf 72 = .ok (.ireturn, 1) := by decide +kernel
theorem dX6_barFault_0 : decode cX6_barFault 0 = .ok (.aload_n 0, 1) := by decide +kernel
theorem dX6_barFault_1 : decode cX6_barFault 1 = .ok (.iload_n 1, 1) := by decide +kernel
theorem dX6_barFault_2 : decode cX6_barFault 2 = .ok (.iload_n 2, 1) := by decide +kernel
theorem dX6_barFault_3 : decode cX6_barFault 3 = .ok (.invokevirtual 67, 3) := by decide +kernel
theorem dX6_barFault_6 : decode cX6_barFault 6 = .ok (.ifCond .ne 5, 3) := by decide +kernel
theorem dX6_barFault_9 : decode cX6_barFault 9 = .ok (.iconst (-1), 1) := by decide +kernel
theorem dX6_barFault_10 : decode cX6_barFault 10 = .ok (.ireturn, 1) := by decide +kernel
theorem dX6_barFault_11 : decode cX6_barFault 11 = .ok (.aload_n 0, 1) := by decide +kernel
theorem dX6_barFault_12 : decode cX6_barFault 12 = .ok (.invokevirtual 84, 3) := by decide +kernel
theorem dX6_barFault_15 : decode cX6_barFault 15 = .ok (.aload_n 0, 1) := by decide +kernel
theorem dX6_barFault_16 : decode cX6_barFault 16 = .ok (.getfield 26, 3) := by decide +kernel
theorem dX6_barFault_19 : decode cX6_barFault 19 = .ok (.iload_n 1, 1) := by decide +kernel
theorem dX6_barFault_20 : decode cX6_barFault 20 = .ok (.iaload, 1) := by decide +kernel
theorem dX6_barFault_21 : decode cX6_barFault 21 = .ok (.iload_n 2, 1) := by decide +kernel
theorem dX6_barFault_22 : decode cX6_barFault 22 = .ok (.ishr, 1) := by decide +kernel
theorem dX6_barFault_23 : decode cX6_barFault 23 = .ok (.iconst 1, 1) := by decide +kernel
theorem dX6_barFault_24 : decode cX6_barFault 24 = .ok (.iand, 1) := by decide +kernel
theorem dX6_barFault_25 : decode cX6_barFault 25 = .ok (.iconst 1, 1) := by decide +kernel
theorem dX6_barFault_26 : decode cX6_barFault 26 = .ok (.if_icmp .ne 8, 3) := by decide +kernel
theorem dX6_barFault_29 : decode cX6_barFault 29 = .ok (.bipush (-3), 2) := by decide +kernel
theorem dX6_barFault_31 : decode cX6_barFault 31 = .ok (.goto 4, 3) := by decide +kernel
theorem dX6_barFault_34 : decode cX6_barFault 34 = .ok (.iconst 0, 1) := by decide +kernel
theorem dX6_barFault_35 : decode cX6_barFault 35 = .ok (.ireturn, 1) := by decide +kernel
theorem dX6_bars_0 : decode cX6_bars 0 = .ok (.aload_n 0, 1) := by decide +kernel
theorem dX6_bars_1 : decode cX6_bars 1 = .ok (.iload_n 1, 1) := by decide +kernel
theorem dX6_bars_2 : decode cX6_bars 2 = .ok (.iload_n 2, 1) := by decide +kernel
theorem dX6_bars_3 : decode cX6_bars 3 = .ok (.invokevirtual 140, 3) := by decide +kernel
theorem dX6_bars_6 : decode cX6_bars 6 = .ok (.istore_n 3, 1) := by decide +kernel
theorem dX6_bars_7 : decode cX6_bars 7 = .ok (.iload_n 3, 1) := by decide +kernel
theorem dX6_bars_8 : decode cX6_bars 8 = .ok (.ifCond .ge 7, 3) := by decide +kernel
theorem dX6_bars_11 : decode cX6_bars 11 = .ok (.iload_n 3, 1) := by decide +kernel
theorem dX6_bars_12 : decode cX6_bars 12 = .ok (.goto 12, 3) := by decide +kernel
theorem dX6_bars_15 : decode cX6_bars 15 = .ok (.aload_n 0, 1) := by decide +kernel
theorem dX6_bars_16 : decode cX6_bars 16 = .ok (.iload_n 1, 1) := by decide +kernel
theorem dX6_bars_17 : decode cX6_bars 17 = .ok (.iload_n 2, 1) := by decide +kernel
theorem dX6_bars_18 : decode cX6_bars 18 = .ok (.invokevirtual 143, 3) := by decide +kernel
theorem dX6_bars_21 : decode cX6_bars 21 = .ok (.invokestatic 128, 3) := by decide +kernel
theorem dX6_bars_24 : decode cX6_bars 24 = .ok (.ireturn, 1) := by decide +kernel
theorem dX6_barSet_0 : decode cX6_barSet 0 = .ok (.aload_n 0, 1) := by decide +kernel
theorem dX6_barSet_1 : decode cX6_barSet 1 = .ok (.iload_n 1, 1) := by decide +kernel
theorem dX6_barSet_2 : decode cX6_barSet 2 = .ok (.iload_n 2, 1) := by decide +kernel
theorem dX6_barSet_3 : decode cX6_barSet 3 = .ok (.invokevirtual 140, 3) := by decide +kernel
theorem dX6_barSet_6 : decode cX6_barSet 6 = .ok (.istore_n 3, 1) := by decide +kernel
theorem dX6_barSet_7 : decode cX6_barSet 7 = .ok (.iload_n 3, 1) := by decide +kernel
theorem dX6_barSet_8 : decode cX6_barSet 8 = .ok (.ifCond .ge 7, 3) := by decide +kernel
theorem dX6_barSet_11 : decode cX6_barSet 11 = .ok (.iload_n 3, 1) := by decide +kernel
theorem dX6_barSet_12 : decode cX6_barSet 12 = .ok (.goto 9, 3) := by decide +kernel
theorem dX6_barSet_15 : decode cX6_barSet 15 = .ok (.aload_n 0, 1) := by decide +kernel
theorem dX6_barSet_16 : decode cX6_barSet 16 = .ok (.iload_n 1, 1) := by decide +kernel
theorem dX6_barSet_17 : decode cX6_barSet 17 = .ok (.iload_n 2, 1) := by decide +kernel
theorem dX6_barSet_18 : decode cX6_barSet 18 = .ok (.invokevirtual 143, 3) := by decide +kernel
theorem dX6_barSet_21 : decode cX6_barSet 21 = .ok (.ireturn, 1) := by decide +kernel
theorem dX6_without_0 : decode cX6_without 0 = .ok (.iload_n 1, 1) := by decide +kernel
theorem dX6_without_1 : decode cX6_without 1 = .ok (.aload_n 0, 1) := by decide +kernel
theorem dX6_without_2 : decode cX6_without 2 = .ok (.invokevirtual 77, 3) := by decide +kernel
theorem dX6_without_5 : decode cX6_without 5 = .ok (.iconst (-1), 1) := by decide +kernel
theorem dX6_without_6 : decode cX6_without 6 = .ok (.ixor, 1) := by decide +kernel
theorem dX6_without_7 : decode cX6_without 7 = .ok (.iand, 1) := by decide +kernel
theorem dX6_without_8 : decode cX6_without 8 = .ok (.ifCond .eq 6, 3) := by decide +kernel
theorem dX6_without_11 : decode cX6_without 11 = .ok (.bipush (-2), 2) := by decide +kernel
theorem dX6_without_13 : decode cX6_without 13 = .ok (.ireturn, 1) := by decide +kernel
theorem dX6_without_14 : decode cX6_without 14 = .ok (.aload_n 0, 1) := by decide +kernel
theorem dX6_without_15 : decode cX6_without 15 = .ok (.invokevirtual 84, 3) := by decide +kernel
theorem dX6_without_18 : decode cX6_without 18 = .ok (.iconst 0, 1) := by decide +kernel
theorem dX6_without_19 : decode cX6_without 19 = .ok (.istore_n 2, 1) := by decide +kernel
theorem dX6_without_20 : decode cX6_without 20 = .ok (.iload_n 1, 1) := by decide +kernel
theorem dX6_without_21 : decode cX6_without 21 = .ok (.istore_n 3, 1) := by decide +kernel
theorem dX6_without_22 : decode cX6_without 22 = .ok (.iconst 0, 1) := by decide +kernel
theorem dX6_without_23 : decode cX6_without 23 = .ok (.istore 4, 2) := by decide +kernel
theorem dX6_without_25 : decode cX6_without 25 = .ok (.iload 4, 2) := by decide +kernel
theorem dX6_without_27 : decode cX6_without 27 = .ok (.aload_n 0, 1) := by decide +kernel
theorem dX6_without_28 : decode cX6_without 28 = .ok (.getfield 60, 3) := by decide +kernel
theorem dX6_without_31 : decode cX6_without 31 = .ok (.if_icmp .ge 31, 3) := by decide +kernel
theorem dX6_without_34 : decode cX6_without 34 = .ok (.iload_n 3, 1) := by decide +kernel
theorem dX6_without_35 : decode cX6_without 35 = .ok (.iload 4, 2) := by decide +kernel
theorem dX6_without_37 : decode cX6_without 37 = .ok (.ishr, 1) := by decide +kernel
theorem dX6_without_38 : decode cX6_without 38 = .ok (.iconst 1, 1) := by decide +kernel
theorem dX6_without_39 : decode cX6_without 39 = .ok (.iand, 1) := by decide +kernel
theorem dX6_without_40 : decode cX6_without 40 = .ok (.ifCond .ne 16, 3) := by decide +kernel
theorem dX6_without_43 : decode cX6_without 43 = .ok (.iload_n 3, 1) := by decide +kernel
theorem dX6_without_44 : decode cX6_without 44 = .ok (.aload_n 0, 1) := by decide +kernel
theorem dX6_without_45 : decode cX6_without 45 = .ok (.iload 4, 2) := by decide +kernel
theorem dX6_without_47 : decode cX6_without 47 = .ok (.iload_n 1, 1) := by decide +kernel
theorem dX6_without_48 : decode cX6_without 48 = .ok (.invokevirtual 137, 3) := by decide +kernel
theorem dX6_without_51 : decode cX6_without 51 = .ok (.ior, 1) := by decide +kernel
theorem dX6_without_52 : decode cX6_without 52 = .ok (.istore_n 3, 1) := by decide +kernel
theorem dX6_without_53 : decode cX6_without 53 = .ok (.iinc 2 1, 3) := by decide +kernel
theorem dX6_without_56 : decode cX6_without 56 = .ok (.iinc 4 1, 3) := by decide +kernel
theorem dX6_without_59 : decode cX6_without 59 = .ok (.goto (-34), 3) := by decide +kernel
theorem dX6_without_62 : decode cX6_without 62 = .ok (.iload_n 2, 1) := by decide +kernel
theorem dX6_without_63 : decode cX6_without 63 = .ok (.ireturn, 1) := by decide +kernel
