theorem dX7_size_284 : decode cX7_size 284 = .ok (.goto 20, 3) := by decide +kernel
theorem dX7_size_287 : decode cX7_size 287 = .ok (.iload_n 3, 1) := by decide +kernel
theorem dX7_size_288 : decode cX7_size 288 = .ok (.bipush 12, 2) := by decide +kernel
theorem dX7_size_290 : decode cX7_size 290 = .ok (.iadd, 1) := by decide +kernel
theorem dX7_size_291 : decode cX7_size 291 = .ok (.iconst 4, 1) := by decide +kernel
theorem dX7_size_292 : decode cX7_size 292 = .ok (.lload 6, 2) := by decide +kernel
theorem dX7_size_294 : decode cX7_size 294 = .ok (.lload 4, 2) := by decide +kernel
theorem dX7_size_296 : decode cX7_size 296 = .ok (.lsub, 1) := by decide +kernel
theorem dX7_size_297 : decode cX7_size 297 = .ok (.lconst 1, 1) := by decide +kernel
theorem dX7_size_298 : decode cX7_size 298 = .ok (.ladd, 1) := by decide +kernel
theorem dX7_size_299 : decode cX7_size 299 = .ok (.l2i, 1) := by decide +kernel
theorem dX7_size_300 : decode cX7_size 300 = .ok (.imul, 1) := by decide +kernel
theorem dX7_size_301 : decode cX7_size 301 = .ok (.iadd, 1) := by decide +kernel
theorem dX7_size_302 : decode cX7_size 302 = .ok (.iload_n 1, 1) := by decide +kernel
theorem dX7_size_303 : decode cX7_size 303 = .ok (.isub, 1) := by decide +kernel
theorem dX7_size_304 : decode cX7_size 304 = .ok (.ireturn, 1) := by decide +kernel
theorem dX7_size_305 : decode cX7_size 305 = .ok (.iconst (-1), 1) := by decide +kernel
theorem dX7_size_306 : decode cX7_size 306 = .ok (.ireturn, 1) := by decide +kernel
theorem dX7_operandFits_0 : decode cX7_operandFits 0 = .ok (.aload_n 0, 1) := by decide +kernel
theorem dX7_operandFits_1 : decode cX7_operandFits 1 = .ok (.iload_n 1, 1) := by decide +kernel
theorem dX7_operandFits_2 : decode cX7_operandFits 2 = .ok (.invokevirtual 229, 3) := by decide +kernel
theorem dX7_operandFits_5 : decode cX7_operandFits 5 = .ok (.istore_n 2, 1) := by decide +kernel
theorem dX7_operandFits_6 : decode cX7_operandFits 6 = .ok (.iload_n 2, 1) := by decide +kernel
theorem dX7_operandFits_7 : decode cX7_operandFits 7 = .ok (.lookupswitch 148 #[(18, 57), (21, 94), (54, 94), (132, 94), (184, 114), (196, 128)], 57) := by decide +kernel
theorem dX7_operandFits_64 : decode cX7_operandFits 64 = .ok (.aload_n 0, 1) := by decide +kernel
theorem dX7_operandFits_65 : decode cX7_operandFits 65 = .ok (.aload_n 0, 1) := by decide +kernel
theorem dX7_operandFits_66 : decode cX7_operandFits 66 = .ok (.iload_n 1, 1) := by decide +kernel
theorem dX7_operandFits_67 : decode cX7_operandFits 67 = .ok (.iconst 1, 1) := by decide +kernel
theorem dX7_operandFits_68 : decode cX7_operandFits 68 = .ok (.iadd, 1) := by decide +kernel
theorem dX7_operandFits_69 : decode cX7_operandFits 69 = .ok (.invokevirtual 229, 3) := by decide +kernel
theorem dX7_operandFits_72 : decode cX7_operandFits 72 = .ok (.iconst 3, 1) := by decide +kernel
theorem dX7_operandFits_73 : decode cX7_operandFits 73 = .ok (.invokevirtual 143, 3) := by decide +kernel
theorem dX7_operandFits_76 : decode cX7_operandFits 76 = .ok (.ifCond .ne 19, 3) := by decide +kernel
theorem dX7_operandFits_79 : decode cX7_operandFits 79 = .ok (.aload_n 0, 1) := by decide +kernel
theorem dX7_operandFits_80 : decode cX7_operandFits 80 = .ok (.aload_n 0, 1) := by decide +kernel
theorem dX7_operandFits_81 : decode cX7_operandFits 81 = .ok (.iload_n 1, 1) := by decide +kernel
theorem dX7_operandFits_82 : decode cX7_operandFits 82 = .ok (.iconst 1, 1) := by decide +kernel
theorem dX7_operandFits_83 : decode cX7_operandFits 83 = .ok (.iadd, 1) := by decide +kernel
theorem dX7_operandFits_84 : decode cX7_operandFits 84 = .ok (.invokevirtual 229, 3) := by decide +kernel
theorem dX7_operandFits_87 : decode cX7_operandFits 87 = .ok (.bipush 8, 2) := by decide +kernel
theorem dX7_operandFits_89 : decode cX7_operandFits 89 = .ok (.invokevirtual 143, 3) := by decide +kernel
theorem dX7_operandFits_92 : decode cX7_operandFits 92 = .ok (.ifCond .eq 7, 3) := by decide +kernel
theorem dX7_operandFits_95 : decode cX7_operandFits 95 = .ok (.iconst 1, 1) := by decide +kernel
theorem dX7_operandFits_96 : decode cX7_operandFits 96 = .ok (.goto 4, 3) := by decide +kernel
theorem dX7_operandFits_99 : decode cX7_operandFits 99 = .ok (.iconst 0, 1) := by decide +kernel
theorem dX7_operandFits_100 : decode cX7_operandFits 100 = .ok (.ireturn, 1) := by decide +kernel
theorem dX7_operandFits_101 : decode cX7_operandFits 101 = .ok (.aload_n 0, 1) := by decide +kernel
theorem dX7_operandFits_102 : decode cX7_operandFits 102 = .ok (.iload_n 1, 1) := by decide +kernel
theorem dX7_operandFits_103 : decode cX7_operandFits 103 = .ok (.iconst 1, 1) := by decide +kernel
theorem dX7_operandFits_104 : decode cX7_operandFits 104 = .ok (.iadd, 1) := by decide +kernel
theorem dX7_operandFits_105 : decode cX7_operandFits 105 = .ok (.invokevirtual 229, 3) := by decide +kernel
theorem dX7_operandFits_108 : decode cX7_operandFits 108 = .ok (.aload_n 0, 1) := by decide +kernel
theorem dX7_operandFits_109 : decode cX7_operandFits 109 = .ok (.getfield 201, 3) := by decide +kernel
theorem dX7_operandFits_112 : decode cX7_operandFits 112 = .ok (.if_icmp .ge 7, 3) := by decide +kernel
theorem dX7_operandFits_115 : decode cX7_operandFits 115 = .ok (.iconst 1, 1) := by decide +kernel
theorem dX7_operandFits_116 : decode cX7_operandFits 116 = .ok (.goto 4, 3) := by decide +kernel
theorem dX7_operandFits_119 : decode cX7_operandFits 119 = .ok (.iconst 0, 1) := by decide +kernel
theorem dX7_operandFits_120 : decode cX7_operandFits 120 = .ok (.ireturn, 1) := by decide +kernel
theorem dX7_operandFits_121 : decode cX7_operandFits 121 = .ok (.aload_n 0, 1) := by decide +kernel
theorem dX7_operandFits_122 : decode cX7_operandFits 122 = .ok (.aload_n 0, 1) := by decide +kernel
theorem dX7_operandFits_123 : decode cX7_operandFits 123 = .ok (.iload_n 1, 1) := by decide +kernel
theorem dX7_operandFits_124 : decode cX7_operandFits 124 = .ok (.iconst 1, 1) := by decide +kernel
theorem dX7_operandFits_125 : decode cX7_operandFits 125 = .ok (.iadd, 1) := by decide +kernel
theorem dX7_operandFits_126 : decode cX7_operandFits 126 = .ok (.invokevirtual 233, 3) := by decide +kernel
theorem dX7_operandFits_129 : decode cX7_operandFits 129 = .ok (.bipush 10, 2) := by decide +kernel
theorem dX7_operandFits_131 : decode cX7_operandFits 131 = .ok (.invokevirtual 143, 3) := by decide +kernel
theorem dX7_operandFits_134 : decode cX7_operandFits 134 = .ok (.ireturn, 1) := by decide +kernel
theorem dX7_operandFits_135 : decode cX7_operandFits 135 = .ok (.aload_n 0, 1) := by decide +kernel
theorem dX7_operandFits_136 : decode cX7_operandFits 136 = .ok (.iload_n 1, 1) := by decide +kernel
theorem dX7_operandFits_137 : decode cX7_operandFits 137 = .ok (.iconst 2, 1) := by decide +kernel
theorem dX7_operandFits_138 : decode cX7_operandFits 138 = .ok (.iadd, 1) := by decide +kernel
theorem dX7_operandFits_139 : decode cX7_operandFits 139 = .ok (.invokevirtual 233, 3) := by decide +kernel
theorem dX7_operandFits_142 : decode cX7_operandFits 142 = .ok (.aload_n 0, 1) := by decide +kernel
theorem dX7_operandFits_143 : decode cX7_operandFits 143 = .ok (.getfield 201, 3) := by decide +kernel
theorem dX7_operandFits_146 : decode cX7_operandFits 146 = .ok (.if_icmp .ge 7, 3) := by decide +kernel
theorem dX7_operandFits_149 : decode cX7_operandFits 149 = .ok (.iconst 1, 1) := by decide +kernel
theorem dX7_operandFits_150 : decode cX7_operandFits 150 = .ok (.goto 4, 3) := by decide +kernel
theorem dX7_operandFits_153 : decode cX7_operandFits 153 = .ok (.iconst 0, 1) := by decide +kernel
theorem dX7_operandFits_154 : decode cX7_operandFits 154 = .ok (.ireturn, 1) := by decide +kernel
theorem dX7_operandFits_155 : decode cX7_operandFits 155 = .ok (.iconst 1, 1) := by decide +kernel
theorem dX7_operandFits_156 : decode cX7_operandFits 156 = .ok (.ireturn, 1) := by decide +kernel
theorem dX7_walk_0 : decode cX7_walk 0 = .ok (.iconst 0, 1) := by decide +kernel
theorem dX7_walk_1 : decode cX7_walk 1 = .ok (.istore_n 1, 1) := by decide +kernel
theorem dX7_walk_2 : decode cX7_walk 2 = .ok (.iload_n 1, 1) := by decide +kernel
theorem dX7_walk_3 : decode cX7_walk 3 = .ok (.bipush 65, 2) := by decide +kernel
theorem dX7_walk_5 : decode cX7_walk 5 = .ok (.if_icmp .ge 16, 3) := by decide +kernel
theorem dX7_walk_8 : decode cX7_walk 8 = .ok (.aload_n 0, 1) := by decide +kernel
theorem dX7_walk_9 : decode cX7_walk 9 = .ok (.getfield 40, 3) := by decide +kernel
theorem dX7_walk_12 : decode cX7_walk 12 = .ok (.iload_n 1, 1) := by decide +kernel
theorem dX7_walk_13 : decode cX7_walk 13 = .ok (.iconst 0, 1) := by decide +kernel
theorem dX7_walk_14 : decode cX7_walk 14 = .ok (.bastore, 1) := by decide +kernel
theorem dX7_walk_15 : decode cX7_walk 15 = .ok (.iinc 1 1, 3) := by decide +kernel
theorem dX7_walk_18 : decode cX7_walk 18 = .ok (.goto (-16), 3) := by decide +kernel
theorem dX7_walk_21 : decode cX7_walk 21 = .ok (.aload_n 0, 1) := by decide +kernel
theorem dX7_walk_22 : decode cX7_walk 22 = .ok (.iconst 0, 1) := by decide +kernel
theorem dX7_walk_23 : decode cX7_walk 23 = .ok (.putfield 226, 3) := by decide +kernel
theorem dX7_walk_26 : decode cX7_walk 26 = .ok (.iconst 0, 1) := by decide +kernel
theorem dX7_walk_27 : decode cX7_walk 27 = .ok (.istore_n 1, 1) := by decide +kernel
theorem dX7_walk_28 : decode cX7_walk 28 = .ok (.iload_n 1, 1) := by decide +kernel
theorem dX7_walk_29 : decode cX7_walk 29 = .ok (.aload_n 0, 1) := by decide +kernel
theorem dX7_walk_30 : decode cX7_walk 30 = .ok (.getfield 206, 3) := by decide +kernel
theorem dX7_walk_33 : decode cX7_walk 33 = .ok (.if_icmp .ge 96, 3) := by decide +kernel
theorem dX7_walk_36 : decode cX7_walk 36 = .ok (.aload_n 0, 1) := by decide +kernel
theorem dX7_walk_37 : decode cX7_walk 37 = .ok (.getfield 71, 3) := by decide +kernel
theorem dX7_walk_40 : decode cX7_walk 40 = .ok (.ifCond .ne 89, 3) := by decide +kernel
theorem dX7_walk_43 : decode cX7_walk 43 = .ok (.aload_n 0, 1) := by decide +kernel
theorem dX7_walk_44 : decode cX7_walk 44 = .ok (.iload_n 1, 1) := by decide +kernel
theorem dX7_walk_45 : decode cX7_walk 45 = .ok (.invokevirtual 244, 3) := by decide +kernel
theorem dX7_walk_48 : decode cX7_walk 48 = .ok (.istore_n 2, 1) := by decide +kernel
theorem dX7_walk_49 : decode cX7_walk 49 = .ok (.iload_n 2, 1) := by decide +kernel
theorem dX7_walk_50 : decode cX7_walk 50 = .ok (.ifCond .lt 13, 3) := by decide +kernel
theorem dX7_walk_53 : decode cX7_walk 53 = .ok (.iload_n 1, 1) := by decide +kernel
theorem dX7_walk_54 : decode cX7_walk 54 = .ok (.iload_n 2, 1) := by decide +kernel
theorem dX7_walk_55 : decode cX7_walk 55 = .ok (.iadd, 1) := by decide +kernel
theorem dX7_walk_56 : decode cX7_walk 56 = .ok (.aload_n 0, 1) := by decide +kernel
theorem dX7_walk_57 : decode cX7_walk 57 = .ok (.getfield 206, 3) := by decide +kernel
theorem dX7_walk_60 : decode cX7_walk 60 = .ok (.if_icmp .le 19, 3) := by decide +kernel
theorem dX7_walk_63 : decode cX7_walk 63 = .ok (.aload_n 0, 1) := by decide +kernel
theorem dX7_walk_64 : decode cX7_walk 64 = .ok (.bipush 23, 2) := by decide +kernel
theorem dX7_walk_66 : decode cX7_walk 66 = .ok (.aload_n 0, 1) := by decide +kernel
theorem dX7_walk_67 : decode cX7_walk 67 = .ok (.getfield 209, 3) := by decide +kernel
theorem dX7_walk_70 : decode cX7_walk 70 = .ok (.iload_n 1, 1) := by decide +kernel
theorem dX7_walk_71 : decode cX7_walk 71 = .ok (.iadd, 1) := by decide +kernel
theorem dX7_walk_72 : decode cX7_walk 72 = .ok (.invokevirtual 89, 3) := by decide +kernel
theorem dX7_walk_75 : decode cX7_walk 75 = .ok (.pop, 1) := by decide +kernel
theorem dX7_walk_76 : decode cX7_walk 76 = .ok (.goto 24, 3) := by decide +kernel
theorem dX7_walk_79 : decode cX7_walk 79 = .ok (.aload_n 0, 1) := by decide +kernel
theorem dX7_walk_80 : decode cX7_walk 80 = .ok (.iload_n 1, 1) := by decide +kernel
theorem dX7_walk_81 : decode cX7_walk 81 = .ok (.invokevirtual 247, 3) := by decide +kernel
theorem dX7_walk_84 : decode cX7_walk 84 = .ok (.ifCond .ne 16, 3) := by decide +kernel
theorem dX7_walk_87 : decode cX7_walk 87 = .ok (.aload_n 0, 1) := by decide +kernel
theorem dX7_walk_88 : decode cX7_walk 88 = .ok (.bipush 24, 2) := by decide +kernel
theorem dX7_walk_90 : decode cX7_walk 90 = .ok (.aload_n 0, 1) := by decide +kernel
theorem dX7_walk_91 : decode cX7_walk 91 = .ok (.getfield 209, 3) := by decide +kernel
theorem dX7_walk_94 : decode cX7_walk 94 = .ok (.iload_n 1, 1) := by decide +kernel
theorem dX7_walk_95 : decode cX7_walk 95 = .ok (.iadd, 1) := by decide +kernel
theorem dX7_walk_96 : decode cX7_walk 96 = .ok (.invokevirtual 89, 3) := by decide +kernel
theorem dX7_walk_99 : decode cX7_walk 99 = .ok (.pop, 1) := by decide +kernel
theorem dX7_walk_100 : decode cX7_walk 100 = .ok (.aload_n 0, 1) := by decide +kernel
theorem dX7_walk_101 : decode cX7_walk 101 = .ok (.getfield 40, 3) := by decide +kernel
theorem dX7_walk_104 : decode cX7_walk 104 = .ok (.iload_n 1, 1) := by decide +kernel
theorem dX7_walk_105 : decode cX7_walk 105 = .ok (.iconst 1, 1) := by decide +kernel
theorem dX7_walk_106 : decode cX7_walk 106 = .ok (.bastore, 1) := by decide +kernel
theorem dX7_walk_107 : decode cX7_walk 107 = .ok (.aload_n 0, 1) := by decide +kernel
theorem dX7_walk_108 : decode cX7_walk 108 = .ok (.iload_n 1, 1) := by decide +kernel
theorem dX7_walk_109 : decode cX7_walk 109 = .ok (.putfield 250, 3) := by decide +kernel
theorem dX7_walk_112 : decode cX7_walk 112 = .ok (.aload_n 0, 1) := by decide +kernel
theorem dX7_walk_113 : decode cX7_walk 113 = .ok (.dup, 1) := by decide +kernel
theorem dX7_walk_114 : decode cX7_walk 114 = .ok (.getfield 226, 3) := by decide +kernel
theorem dX7_walk_117 : decode cX7_walk 117 = .ok (.iconst 1, 1) := by decide +kernel
theorem dX7_walk_118 : decode cX7_walk 118 = .ok (.iadd, 1) := by decide +kernel
theorem dX7_walk_119 : decode cX7_walk 119 = .ok (.putfield 226, 3) := by decide +kernel
theorem dX7_walk_122 : decode cX7_walk 122 = .ok (.iload_n 1, 1) := by decide +kernel
theorem dX7_walk_123 : decode cX7_walk 123 = .ok (.iload_n 2, 1) := by decide +kernel
theorem dX7_walk_124 : decode cX7_walk 124 = .ok (.iadd, 1) := by decide +kernel
theorem dX7_walk_125 : decode cX7_walk 125 = .ok (.istore_n 1, 1) := by decide +kernel
theorem dX7_walk_126 : decode cX7_walk 126 = .ok (.goto (-98), 3) := by decide +kernel
theorem dX7_walk_129 : decode cX7_walk 129 = .ok (.return_, 1) := by decide +kernel
theorem dX7_isStart_0 : decode cX7_isStart 0 = .ok (.lload_n 1, 1) := by decide +kernel
theorem dX7_isStart_1 : decode cX7_isStart 1 = .ok (.lconst 0, 1) := by decide +kernel
theorem dX7_isStart_2 : decode cX7_isStart 2 = .ok (.lcmp, 1) := by decide +kernel
theorem dX7_isStart_3 : decode cX7_isStart 3 = .ok (.ifCond .lt 27, 3) := by decide +kernel
theorem dX7_isStart_6 : decode cX7_isStart 6 = .ok (.lload_n 1, 1) := by decide +kernel
theorem dX7_isStart_7 : decode cX7_isStart 7 = .ok (.aload_n 0, 1) := by decide +kernel
theorem dX7_isStart_8 : decode cX7_isStart 8 = .ok (.getfield 206, 3) := by decide +kernel
theorem dX7_isStart_11 : decode cX7_isStart 11 = .ok (.i2l, 1) := by decide +kernel
theorem dX7_isStart_12 : decode cX7_isStart 12 = .ok (.lcmp, 1) := by decide +kernel
theorem dX7_isStart_13 : decode cX7_isStart 13 = .ok (.ifCond .ge 17, 3) := by decide +kernel
theorem dX7_isStart_16 : decode cX7_isStart 16 = .ok (.aload_n 0, 1) := by decide +kernel
theorem dX7_isStart_17 : decode cX7_isStart 17 = .ok (.getfield 40, 3) := by decide +kernel
theorem dX7_isStart_20 : decode cX7_isStart 20 = .ok (.lload_n 1, 1) := by decide +kernel
theorem dX7_isStart_21 : decode cX7_isStart 21 = .ok (.l2i, 1) := by decide +kernel
theorem dX7_isStart_22 : decode cX7_isStart 22 = .ok (.baload, 1) := by decide +kernel
theorem dX7_isStart_23 : decode cX7_isStart 23 = .ok (.ifCond .eq 7, 3) := by decide +kernel
theorem dX7_isStart_26 : decode cX7_isStart 26 = .ok (.iconst 1, 1) := by decide +kernel
theorem dX7_isStart_27 : decode cX7_isStart 27 = .ok (.goto 4, 3) := by decide +kernel
theorem dX7_isStart_30 : decode cX7_isStart 30 = .ok (.iconst 0, 1) := by decide +kernel
theorem dX7_isStart_31 : decode cX7_isStart 31 = .ok (.ireturn, 1) := by decide +kernel
theorem dX7_jumpsFit_0 : decode cX7_jumpsFit 0 = .ok (.aload_n 0, 1) := by decide +kernel
theorem dX7_jumpsFit_1 : decode cX7_jumpsFit 1 = .ok (.iload_n 1, 1) := by decide +kernel
theorem dX7_jumpsFit_2 : decode cX7_jumpsFit 2 = .ok (.invokevirtual 229, 3) := by decide +kernel
theorem dX7_jumpsFit_5 : decode cX7_jumpsFit 5 = .ok (.istore_n 2, 1) := by decide +kernel
theorem dX7_jumpsFit_6 : decode cX7_jumpsFit 6 = .ok (.iload_n 2, 1) := by decide +kernel
theorem dX7_jumpsFit_7 : decode cX7_jumpsFit 7 = .ok (.sipush 153, 3) := by decide +kernel
theorem dX7_jumpsFit_10 : decode cX7_jumpsFit 10 = .ok (.if_icmp .eq 10, 3) := by decide +kernel
theorem dX7_jumpsFit_13 : decode cX7_jumpsFit 13 = .ok (.iload_n 2, 1) := by decide +kernel
theorem dX7_jumpsFit_14 : decode cX7_jumpsFit 14 = .ok (.sipush 167, 3) := by decide +kernel
theorem dX7_jumpsFit_17 : decode cX7_jumpsFit 17 = .ok (.if_icmp .ne 19, 3) := by decide +kernel
theorem dX7_jumpsFit_20 : decode cX7_jumpsFit 20 = .ok (.aload_n 0, 1) := by decide +kernel
theorem dX7_jumpsFit_21 : decode cX7_jumpsFit 21 = .ok (.iload_n 1, 1) := by decide +kernel
theorem dX7_jumpsFit_22 : decode cX7_jumpsFit 22 = .ok (.aload_n 0, 1) := by decide +kernel
theorem dX7_jumpsFit_23 : decode cX7_jumpsFit 23 = .ok (.iload_n 1, 1) := by decide +kernel
theorem dX7_jumpsFit_24 : decode cX7_jumpsFit 24 = .ok (.iconst 1, 1) := by decide +kernel
theorem dX7_jumpsFit_25 : decode cX7_jumpsFit 25 = .ok (.iadd, 1) := by decide +kernel
theorem dX7_jumpsFit_26 : decode cX7_jumpsFit 26 = .ok (.invokevirtual 233, 3) := by decide +kernel
theorem dX7_jumpsFit_29 : decode cX7_jumpsFit 29 = .ok (.i2s, 1) := by decide +kernel
theorem dX7_jumpsFit_30 : decode cX7_jumpsFit 30 = .ok (.iadd, 1) := by decide +kernel
theorem dX7_jumpsFit_31 : decode cX7_jumpsFit 31 = .ok (.i2l, 1) := by decide +kernel
theorem dX7_jumpsFit_32 : decode cX7_jumpsFit 32 = .ok (.invokevirtual 253, 3) := by decide +kernel
theorem dX7_jumpsFit_35 : decode cX7_jumpsFit 35 = .ok (.ireturn, 1) := by decide +kernel
theorem dX7_jumpsFit_36 : decode cX7_jumpsFit 36 = .ok (.iload_n 2, 1) := by decide +kernel
theorem dX7_jumpsFit_37 : decode cX7_jumpsFit 37 = .ok (.sipush 170, 3) := by decide +kernel
theorem dX7_jumpsFit_40 : decode cX7_jumpsFit 40 = .ok (.if_icmp .eq 5, 3) := by decide +kernel
theorem dX7_jumpsFit_43 : decode cX7_jumpsFit 43 = .ok (.iconst 1, 1) := by decide +kernel
theorem dX7_jumpsFit_44 : decode cX7_jumpsFit 44 = .ok (.ireturn, 1) := by decide +kernel
theorem dX7_jumpsFit_45 : decode cX7_jumpsFit 45 = .ok (.iload_n 1, 1) := by decide +kernel
theorem dX7_jumpsFit_46 : decode cX7_jumpsFit 46 = .ok (.invokestatic 236, 3) := by decide +kernel
theorem dX7_jumpsFit_49 : decode cX7_jumpsFit 49 = .ok (.istore_n 3, 1) := by decide +kernel
theorem dX7_jumpsFit_50 : decode cX7_jumpsFit 50 = .ok (.aload_n 0, 1) := by decide +kernel
theorem dX7_jumpsFit_51 : decode cX7_jumpsFit 51 = .ok (.iload_n 3, 1) := by decide +kernel
theorem dX7_jumpsFit_52 : decode cX7_jumpsFit 52 = .ok (.bipush 8, 2) := by decide +kernel
theorem dX7_jumpsFit_54 : decode cX7_jumpsFit 54 = .ok (.iadd, 1) := by decide +kernel
theorem dX7_jumpsFit_55 : decode cX7_jumpsFit 55 = .ok (.invokevirtual 239, 3) := by decide +kernel
theorem dX7_jumpsFit_58 : decode cX7_jumpsFit 58 = .ok (.aload_n 0, 1) := by decide +kernel
theorem dX7_jumpsFit_59 : decode cX7_jumpsFit 59 = .ok (.iload_n 3, 1) := by decide +kernel
theorem dX7_jumpsFit_60 : decode cX7_jumpsFit 60 = .ok (.iconst 4, 1) := by decide +kernel
theorem dX7_jumpsFit_61 : decode cX7_jumpsFit 61 = .ok (.iadd, 1) := by decide +kernel
theorem dX7_jumpsFit_62 : decode cX7_jumpsFit 62 = .ok (.invokevirtual 239, 3) := by decide +kernel
theorem dX7_jumpsFit_65 : decode cX7_jumpsFit 65 = .ok (.isub, 1) := by decide +kernel
theorem dX7_jumpsFit_66 : decode cX7_jumpsFit 66 = .ok (.iconst 1, 1) := by decide +kernel
theorem dX7_jumpsFit_67 : decode cX7_jumpsFit 67 = .ok (.iadd, 1) := by decide +kernel
theorem dX7_jumpsFit_68 : decode cX7_jumpsFit 68 = .ok (.istore 4, 2) := by decide +kernel
theorem dX7_jumpsFit_70 : decode cX7_jumpsFit 70 = .ok (.aload_n 0, 1) := by decide +kernel
theorem dX7_jumpsFit_71 : decode cX7_jumpsFit 71 = .ok (.iload_n 1, 1) := by decide +kernel
theorem dX7_jumpsFit_72 : decode cX7_jumpsFit 72 = .ok (.i2l, 1) := by decide +kernel
theorem dX7_jumpsFit_73 : decode cX7_jumpsFit 73 = .ok (.aload_n 0, 1) := by decide +kernel
theorem dX7_jumpsFit_74 : decode cX7_jumpsFit 74 = .ok (.iload_n 3, 1) := by decide +kernel
theorem dX7_jumpsFit_75 : decode cX7_jumpsFit 75 = .ok (.invokevirtual 239, 3) := by decide +kernel
theorem dX7_jumpsFit_78 : decode cX7_jumpsFit 78 = .ok (.i2l, 1) := by decide +kernel
theorem dX7_jumpsFit_79 : decode cX7_jumpsFit 79 = .ok (.ladd, 1) := by decide +kernel
theorem dX7_jumpsFit_80 : decode cX7_jumpsFit 80 = .ok (.invokevirtual 253, 3) := by decide +kernel
theorem dX7_jumpsFit_83 : decode cX7_jumpsFit 83 = .ok (.istore 5, 2) := by decide +kernel
theorem dX7_jumpsFit_85 : decode cX7_jumpsFit 85 = .ok (.iconst 0, 1) := by decide +kernel
theorem dX7_jumpsFit_86 : decode cX7_jumpsFit 86 = .ok (.istore 6, 2) := by decide +kernel
theorem dX7_jumpsFit_88 : decode cX7_jumpsFit 88 = .ok (.iload 6, 2) := by decide +kernel
theorem dX7_jumpsFit_90 : decode cX7_jumpsFit 90 = .ok (.iload 4, 2) := by decide +kernel
theorem dX7_jumpsFit_92 : decode cX7_jumpsFit 92 = .ok (.if_icmp .ge 36, 3) := by decide +kernel
theorem dX7_jumpsFit_95 : decode cX7_jumpsFit 95 = .ok (.aload_n 0, 1) := by decide +kernel
theorem dX7_jumpsFit_96 : decode cX7_jumpsFit 96 = .ok (.iload_n 1, 1) := by decide +kernel
theorem dX7_jumpsFit_97 : decode cX7_jumpsFit 97 = .ok (.i2l, 1) := by decide +kernel
theorem dX7_jumpsFit_98 : decode cX7_jumpsFit 98 = .ok (.aload_n 0, 1) := by decide +kernel
theorem dX7_jumpsFit_99 : decode cX7_jumpsFit 99 = .ok (.iload_n 3, 1) := by decide +kernel
theorem dX7_jumpsFit_100 : decode cX7_jumpsFit 100 = .ok (.bipush 12, 2) := by decide +kernel
theorem dX7_jumpsFit_102 : decode cX7_jumpsFit 102 = .ok (.iadd, 1) := by decide +kernel
theorem dX7_jumpsFit_103 : decode cX7_jumpsFit 103 = .ok (.iconst 4, 1) := by decide +kernel
theorem dX7_jumpsFit_104 : decode cX7_jumpsFit 104 = .ok (.iload 6, 2) := by decide +kernel
theorem dX7_jumpsFit_106 : decode cX7_jumpsFit 106 = .ok (.imul, 1) := by decide +kernel
theorem dX7_jumpsFit_107 : decode cX7_jumpsFit 107 = .ok (.iadd, 1) := by decide +kernel
theorem dX7_jumpsFit_108 : decode cX7_jumpsFit 108 = .ok (.invokevirtual 239, 3) := by decide +kernel
theorem dX7_jumpsFit_111 : decode cX7_jumpsFit 111 = .ok (.i2l, 1) := by decide +kernel
theorem dX7_jumpsFit_112 : decode cX7_jumpsFit 112 = .ok (.ladd, 1) := by decide +kernel
theorem dX7_jumpsFit_113 : decode cX7_jumpsFit 113 = .ok (.invokevirtual 253, 3) := by decide +kernel
theorem dX7_jumpsFit_116 : decode cX7_jumpsFit 116 = .ok (.ifCond .ne 6, 3) := by decide +kernel
theorem dX7_jumpsFit_119 : decode cX7_jumpsFit 119 = .ok (.iconst 0, 1) := by decide +kernel
theorem dX7_jumpsFit_120 : decode cX7_jumpsFit 120 = .ok (.istore 5, 2) := by decide +kernel
theorem dX7_jumpsFit_122 : decode cX7_jumpsFit 122 = .ok (.iinc 6 1, 3) := by decide +kernel
theorem dX7_jumpsFit_125 : decode cX7_jumpsFit 125 = .ok (.goto (-37), 3) := by decide +kernel
theorem dX7_jumpsFit_128 : decode cX7_jumpsFit 128 = .ok (.iload 5, 2) := by decide +kernel
theorem dX7_jumpsFit_130 : decode cX7_jumpsFit 130 = .ok (.ireturn, 1) := by decide +kernel
theorem dX7_handlerFits_0 : decode cX7_handlerFits 0 = .ok (.aload_n 0, 1) := by decide +kernel
theorem dX7_handlerFits_1 : decode cX7_handlerFits 1 = .ok (.getfield 215, 3) := by decide +kernel
theorem dX7_handlerFits_4 : decode cX7_handlerFits 4 = .ok (.bipush 8, 2) := by decide +kernel
theorem dX7_handlerFits_6 : decode cX7_handlerFits 6 = .ok (.iload_n 1, 1) := by decide +kernel
theorem dX7_handlerFits_7 : decode cX7_handlerFits 7 = .ok (.imul, 1) := by decide +kernel
theorem dX7_handlerFits_8 : decode cX7_handlerFits 8 = .ok (.iadd, 1) := by decide +kernel
theorem dX7_handlerFits_9 : decode cX7_handlerFits 9 = .ok (.istore_n 2, 1) := by decide +kernel
theorem dX7_handlerFits_10 : decode cX7_handlerFits 10 = .ok (.sipush 256, 3) := by decide +kernel
theorem dX7_handlerFits_13 : decode cX7_handlerFits 13 = .ok (.aload_n 0, 1) := by decide +kernel
theorem dX7_handlerFits_14 : decode cX7_handlerFits 14 = .ok (.getfield 7, 3) := by decide +kernel
theorem dX7_handlerFits_17 : decode cX7_handlerFits 17 = .ok (.iload_n 2, 1) := by decide +kernel
theorem dX7_handlerFits_18 : decode cX7_handlerFits 18 = .ok (.iaload, 1) := by decide +kernel
theorem dX7_handlerFits_19 : decode cX7_handlerFits 19 = .ok (.imul, 1) := by decide +kernel
theorem dX7_handlerFits_20 : decode cX7_handlerFits 20 = .ok (.aload_n 0, 1) := by decide +kernel
theorem dX7_handlerFits_21 : decode cX7_handlerFits 21 = .ok (.getfield 7, 3) := by decide +kernel
theorem dX7_handlerFits_24 : decode cX7_handlerFits 24 = .ok (.iload_n 2, 1) := by decide +kernel
theorem dX7_handlerFits_25 : decode cX7_handlerFits 25 = .ok (.iconst 1, 1) := by decide +kernel
theorem dX7_handlerFits_26 : decode cX7_handlerFits 26 = .ok (.iadd, 1) := by decide +kernel
theorem dX7_handlerFits_27 : decode cX7_handlerFits 27 = .ok (.iaload, 1) := by decide +kernel
theorem dX7_handlerFits_28 : decode cX7_handlerFits 28 = .ok (.iadd, 1) := by decide +kernel
theorem dX7_handlerFits_29 : decode cX7_handlerFits 29 = .ok (.istore_n 3, 1) := by decide +kernel
theorem dX7_handlerFits_30 : decode cX7_handlerFits 30 = .ok (.sipush 256, 3) := by decide +kernel
theorem dX7_handlerFits_33 : decode cX7_handlerFits 33 = .ok (.aload_n 0, 1) := by decide +kernel
theorem dX7_handlerFits_34 : decode cX7_handlerFits 34 = .ok (.getfield 7, 3) := by decide +kernel
theorem dX7_handlerFits_37 : decode cX7_handlerFits 37 = .ok (.iload_n 2, 1) := by decide +kernel
theorem dX7_handlerFits_38 : decode cX7_handlerFits 38 = .ok (.iconst 2, 1) := by decide +kernel
theorem dX7_handlerFits_39 : decode cX7_handlerFits 39 = .ok (.iadd, 1) := by decide +kernel
theorem dX7_handlerFits_40 : decode cX7_handlerFits 40 = .ok (.iaload, 1) := by decide +kernel
theorem dX7_handlerFits_41 : decode cX7_handlerFits 41 = .ok (.imul, 1) := by decide +kernel
theorem dX7_handlerFits_42 : decode cX7_handlerFits 42 = .ok (.aload_n 0, 1) := by decide +kernel
theorem dX7_handlerFits_43 : decode cX7_handlerFits 43 = .ok (.getfield 7, 3) := by decide +kernel
theorem dX7_handlerFits_46 : decode cX7_handlerFits 46 = .ok (.iload_n 2, 1) := by decide +kernel
theorem dX7_handlerFits_47 : decode cX7_handlerFits 47 = .ok (.iconst 3, 1) := by decide +kernel
theorem dX7_handlerFits_48 : decode cX7_handlerFits 48 = .ok (.iadd, 1) := by decide +kernel
theorem dX7_handlerFits_49 : decode cX7_handlerFits 49 = .ok (.iaload, 1) := by decide +kernel
theorem dX7_handlerFits_50 : decode cX7_handlerFits 50 = .ok (.iadd, 1) := by decide +kernel
theorem dX7_handlerFits_51 : decode cX7_handlerFits 51 = .ok (.istore 4, 2) := by decide +kernel
theorem dX7_handlerFits_53 : decode cX7_handlerFits 53 = .ok (.sipush 256, 3) := by decide +kernel
theorem dX7_handlerFits_56 : decode cX7_handlerFits 56 = .ok (.aload_n 0, 1) := by decide +kernel
theorem dX7_handlerFits_57 : decode cX7_handlerFits 57 = .ok (.getfield 7, 3) := by decide +kernel
theorem dX7_handlerFits_60 : decode cX7_handlerFits 60 = .ok (.iload_n 2, 1) := by decide +kernel
theorem dX7_handlerFits_61 : decode cX7_handlerFits 61 = .ok (.iconst 4, 1) := by decide +kernel
theorem dX7_handlerFits_62 : decode cX7_handlerFits 62 = .ok (.iadd, 1) := by decide +kernel
theorem dX7_handlerFits_63 : decode cX7_handlerFits 63 = .ok (.iaload, 1) := by decide +kernel
theorem dX7_handlerFits_64 : decode cX7_handlerFits 64 = .ok (.imul, 1) := by decide +kernel
theorem dX7_handlerFits_65 : decode cX7_handlerFits 65 = .ok (.aload_n 0, 1) := by decide +kernel
theorem dX7_handlerFits_66 : decode cX7_handlerFits 66 = .ok (.getfield 7, 3) := by decide +kernel
theorem dX7_handlerFits_69 : decode cX7_handlerFits 69 = .ok (.iload_n 2, 1) := by decide +kernel
theorem dX7_handlerFits_70 : decode cX7_handlerFits 70 = .ok (.iconst 5, 1) := by decide +kernel
theorem dX7_handlerFits_71 : decode cX7_handlerFits 71 = .ok (.iadd, 1) := by decide +kernel
theorem dX7_handlerFits_72 : decode cX7_handlerFits 72 = .ok (.iaload, 1) := by decide +kernel
theorem dX7_handlerFits_73 : decode cX7_handlerFits 73 = .ok (.iadd, 1) := by decide +kernel
theorem dX7_handlerFits_74 : decode cX7_handlerFits 74 = .ok (.istore 5, 2) := by decide +kernel
theorem dX7_handlerFits_76 : decode cX7_handlerFits 76 = .ok (.sipush 256, 3) := by decide +kernel
theorem dX7_handlerFits_79 : decode cX7_handlerFits 79 = .ok (.aload_n 0, 1) := by decide +kernel
theorem dX7_handlerFits_80 : decode cX7_handlerFits 80 = .ok (.getfield 7, 3) := by decide +kernel
theorem dX7_handlerFits_83 : decode cX7_handlerFits 83 = .ok (.iload_n 2, 1) := by decide +kernel
theorem dX7_handlerFits_84 : decode cX7_handlerFits 84 = .ok (.bipush 6, 2) := by decide +kernel
theorem dX7_handlerFits_86 : decode cX7_handlerFits 86 = .ok (.iadd, 1) := by decide +kernel
theorem dX7_handlerFits_87 : decode cX7_handlerFits 87 = .ok (.iaload, 1) := by decide +kernel
theorem dX7_handlerFits_88 : decode cX7_handlerFits 88 = .ok (.imul, 1) := by decide +kernel
theorem dX7_handlerFits_89 : decode cX7_handlerFits 89 = .ok (.aload_n 0, 1) := by decide +kernel
theorem dX7_handlerFits_90 : decode cX7_handlerFits 90 = .ok (.getfield 7, 3) := by decide +kernel
theorem dX7_handlerFits_93 : decode cX7_handlerFits 93 = .ok (.iload_n 2, 1) := by decide +kernel
theorem dX7_handlerFits_94 : decode cX7_handlerFits 94 = .ok (.bipush 7, 2) := by decide +kernel
theorem dX7_handlerFits_96 : decode cX7_handlerFits 96 = .ok (.iadd, 1) := by decide +kernel
theorem dX7_handlerFits_97 : decode cX7_handlerFits 97 = .ok (.iaload, 1) := by decide +kernel
theorem dX7_handlerFits_98 : decode cX7_handlerFits 98 = .ok (.iadd, 1) := by decide +kernel
theorem dX7_handlerFits_99 : decode cX7_handlerFits 99 = .ok (.istore 6, 2) := by decide +kernel
theorem dX7_handlerFits_101 : decode cX7_handlerFits 101 = .ok (.aload_n 0, 1) := by decide +kernel
theorem dX7_handlerFits_102 : decode cX7_handlerFits 102 = .ok (.iload_n 3, 1) := by decide +kernel
theorem dX7_handlerFits_103 : decode cX7_handlerFits 103 = .ok (.i2l, 1) := by decide +kernel
theorem dX7_handlerFits_104 : decode cX7_handlerFits 104 = .ok (.invokevirtual 253, 3) := by decide +kernel
theorem dX7_handlerFits_107 : decode cX7_handlerFits 107 = .ok (.ifCond .eq 42, 3) := by decide +kernel
theorem dX7_handlerFits_110 : decode cX7_handlerFits 110 = .ok (.iload 4, 2) := by decide +kernel
theorem dX7_handlerFits_112 : decode cX7_handlerFits 112 = .ok (.aload_n 0, 1) := by decide +kernel
theorem dX7_handlerFits_113 : decode cX7_handlerFits 113 = .ok (.getfield 206, 3) := by decide +kernel
theorem dX7_handlerFits_116 : decode cX7_handlerFits 116 = .ok (.if_icmp .eq 13, 3) := by decide +kernel
theorem dX7_handlerFits_119 : decode cX7_handlerFits 119 = .ok (.aload_n 0, 1) := by decide +kernel
theorem dX7_handlerFits_120 : decode cX7_handlerFits 120 = .ok (.iload 4, 2) := by decide +kernel
theorem dX7_handlerFits_122 : decode cX7_handlerFits 122 = .ok (.i2l, 1) := by decide +kernel
theorem dX7_handlerFits_123 : decode cX7_handlerFits 123 = .ok (.invokevirtual 253, 3) := by decide +kernel
theorem dX7_handlerFits_126 : decode cX7_handlerFits 126 = .ok (.ifCond .eq 23, 3) := by decide +kernel
theorem dX7_handlerFits_129 : decode cX7_handlerFits 129 = .ok (.aload_n 0, 1) := by decide +kernel
theorem dX7_handlerFits_130 : decode cX7_handlerFits 130 = .ok (.iload 5, 2) := by decide +kernel
theorem dX7_handlerFits_132 : decode cX7_handlerFits 132 = .ok (.i2l, 1) := by decide +kernel
theorem dX7_handlerFits_133 : decode cX7_handlerFits 133 = .ok (.invokevirtual 253, 3) := by decide +kernel
theorem dX7_handlerFits_136 : decode cX7_handlerFits 136 = .ok (.ifCond .eq 13, 3) := by decide +kernel
theorem dX7_handlerFits_139 : decode cX7_handlerFits 139 = .ok (.iload_n 3, 1) := by decide +kernel
theorem dX7_handlerFits_140 : decode cX7_handlerFits 140 = .ok (.iload 4, 2) := by decide +kernel
theorem dX7_handlerFits_142 : decode cX7_handlerFits 142 = .ok (.if_icmp .ge 7, 3) := by decide +kernel
theorem dX7_handlerFits_145 : decode cX7_handlerFits 145 = .ok (.iconst 1, 1) := by decide +kernel
theorem dX7_handlerFits_146 : decode cX7_handlerFits 146 = .ok (.goto 4, 3) := by decide +kernel
theorem dX7_handlerFits_149 : decode cX7_handlerFits 149 = .ok (.iconst 0, 1) := by decide +kernel
theorem dX7_handlerFits_150 : decode cX7_handlerFits 150 = .ok (.istore 7, 2) := by decide +kernel
theorem dX7_handlerFits_152 : decode cX7_handlerFits 152 = .ok (.iload 7, 2) := by decide +kernel
theorem dX7_handlerFits_154 : decode cX7_handlerFits 154 = .ok (.ifCond .eq 23, 3) := by decide +kernel
theorem dX7_handlerFits_157 : decode cX7_handlerFits 157 = .ok (.iload 6, 2) := by decide +kernel
theorem dX7_handlerFits_159 : decode cX7_handlerFits 159 = .ok (.ifCond .eq 14, 3) := by decide +kernel
theorem dX7_handlerFits_162 : decode cX7_handlerFits 162 = .ok (.aload_n 0, 1) := by decide +kernel
theorem dX7_handlerFits_163 : decode cX7_handlerFits 163 = .ok (.iload 6, 2) := by decide +kernel
theorem dX7_handlerFits_165 : decode cX7_handlerFits 165 = .ok (.bipush 7, 2) := by decide +kernel
theorem dX7_handlerFits_167 : decode cX7_handlerFits 167 = .ok (.invokevirtual 143, 3) := by decide +kernel
theorem dX7_handlerFits_170 : decode cX7_handlerFits 170 = .ok (.ifCond .eq 7, 3) := by decide +kernel
theorem dX7_handlerFits_173 : decode cX7_handlerFits 173 = .ok (.iconst 1, 1) := by decide +kernel
theorem dX7_handlerFits_174 : decode cX7_handlerFits 174 = .ok (.goto 4, 3) := by decide +kernel
theorem dX7_handlerFits_177 : decode cX7_handlerFits 177 = .ok (.iconst 0, 1) := by decide +kernel
theorem dX7_handlerFits_178 : decode cX7_handlerFits 178 = .ok (.ireturn, 1) := by decide +kernel
theorem dX7_judgeCode_0 : decode cX7_judgeCode 0 = .ok (.aload_n 0, 1) := by decide +kernel
theorem dX7_judgeCode_1 : decode cX7_judgeCode 1 = .ok (.invokevirtual 257, 3) := by decide +kernel
theorem dX7_judgeCode_4 : decode cX7_judgeCode 4 = .ok (.iconst 0, 1) := by decide +kernel
theorem dX7_judgeCode_5 : decode cX7_judgeCode 5 = .ok (.istore_n 1, 1) := by decide +kernel
theorem dX7_judgeCode_6 : decode cX7_judgeCode 6 = .ok (.iload_n 1, 1) := by decide +kernel
theorem dX7_judgeCode_7 : decode cX7_judgeCode 7 = .ok (.aload_n 0, 1) := by decide +kernel
theorem dX7_judgeCode_8 : decode cX7_judgeCode 8 = .ok (.getfield 206, 3) := by decide +kernel
theorem dX7_judgeCode_11 : decode cX7_judgeCode 11 = .ok (.if_icmp .ge 46, 3) := by decide +kernel
theorem dX7_judgeCode_14 : decode cX7_judgeCode 14 = .ok (.aload_n 0, 1) := by decide +kernel
theorem dX7_judgeCode_15 : decode cX7_judgeCode 15 = .ok (.getfield 71, 3) := by decide +kernel
theorem dX7_judgeCode_18 : decode cX7_judgeCode 18 = .ok (.ifCond .ne 39, 3) := by decide +kernel
theorem dX7_judgeCode_21 : decode cX7_judgeCode 21 = .ok (.aload_n 0, 1) := by decide +kernel
theorem dX7_judgeCode_22 : decode cX7_judgeCode 22 = .ok (.getfield 40, 3) := by decide +kernel
theorem dX7_judgeCode_25 : decode cX7_judgeCode 25 = .ok (.iload_n 1, 1) := by decide +kernel
theorem dX7_judgeCode_26 : decode cX7_judgeCode 26 = .ok (.baload, 1) := by decide +kernel
theorem dX7_judgeCode_27 : decode cX7_judgeCode 27 = .ok (.ifCond .eq 24, 3) := by decide +kernel
theorem dX7_judgeCode_30 : decode cX7_judgeCode 30 = .ok (.aload_n 0, 1) := by decide +kernel
theorem dX7_judgeCode_31 : decode cX7_judgeCode 31 = .ok (.iload_n 1, 1) := by decide +kernel
theorem dX7_judgeCode_32 : decode cX7_judgeCode 32 = .ok (.invokevirtual 260, 3) := by decide +kernel
theorem dX7_judgeCode_35 : decode cX7_judgeCode 35 = .ok (.ifCond .ne 16, 3) := by decide +kernel
theorem dX7_judgeCode_38 : decode cX7_judgeCode 38 = .ok (.aload_n 0, 1) := by decide +kernel
theorem dX7_judgeCode_39 : decode cX7_judgeCode 39 = .ok (.bipush 25, 2) := by decide +kernel
theorem dX7_judgeCode_41 : decode cX7_judgeCode 41 = .ok (.aload_n 0, 1) := by decide +kernel
theorem dX7_judgeCode_42 : decode cX7_judgeCode 42 = .ok (.getfield 209, 3) := by decide +kernel
theorem dX7_judgeCode_45 : decode cX7_judgeCode 45 = .ok (.iload_n 1, 1) := by decide +kernel
theorem dX7_judgeCode_46 : decode cX7_judgeCode 46 = .ok (.iadd, 1) := by decide +kernel
theorem dX7_judgeCode_47 : decode cX7_judgeCode 47 = .ok (.invokevirtual 89, 3) := by decide +kernel
theorem dX7_judgeCode_50 : decode cX7_judgeCode 50 = .ok (.pop, 1) := by decide +kernel
theorem dX7_judgeCode_51 : decode cX7_judgeCode 51 = .ok (.iinc 1 1, 3) := by decide +kernel
theorem dX7_judgeCode_54 : decode cX7_judgeCode 54 = .ok (.goto (-48), 3) := by decide +kernel
theorem dX7_judgeCode_57 : decode cX7_judgeCode 57 = .ok (.aload_n 0, 1) := by decide +kernel
theorem dX7_judgeCode_58 : decode cX7_judgeCode 58 = .ok (.getfield 71, 3) := by decide +kernel
theorem dX7_judgeCode_61 : decode cX7_judgeCode 61 = .ok (.ifCond .eq 4, 3) := by decide +kernel
theorem dX7_judgeCode_64 : decode cX7_judgeCode 64 = .ok (.return_, 1) := by decide +kernel
theorem dX7_judgeCode_65 : decode cX7_judgeCode 65 = .ok (.aload_n 0, 1) := by decide +kernel
theorem dX7_judgeCode_66 : decode cX7_judgeCode 66 = .ok (.aload_n 0, 1) := by decide +kernel
theorem dX7_judgeCode_67 : decode cX7_judgeCode 67 = .ok (.getfield 250, 3) := by decide +kernel
theorem dX7_judgeCode_70 : decode cX7_judgeCode 70 = .ok (.invokevirtual 229, 3) := by decide +kernel
theorem dX7_judgeCode_73 : decode cX7_judgeCode 73 = .ok (.istore_n 1, 1) := by decide +kernel
theorem dX7_judgeCode_74 : decode cX7_judgeCode 74 = .ok (.iload_n 1, 1) := by decide +kernel
theorem dX7_judgeCode_75 : decode cX7_judgeCode 75 = .ok (.sipush 167, 3) := by decide +kernel
theorem dX7_judgeCode_78 : decode cX7_judgeCode 78 = .ok (.if_icmp .eq 47, 3) := by decide +kernel
theorem dX7_judgeCode_81 : decode cX7_judgeCode 81 = .ok (.iload_n 1, 1) := by decide +kernel
theorem dX7_judgeCode_82 : decode cX7_judgeCode 82 = .ok (.sipush 170, 3) := by decide +kernel
theorem dX7_judgeCode_85 : decode cX7_judgeCode 85 = .ok (.if_icmp .eq 40, 3) := by decide +kernel
theorem dX7_judgeCode_88 : decode cX7_judgeCode 88 = .ok (.iload_n 1, 1) := by decide +kernel
theorem dX7_judgeCode_89 : decode cX7_judgeCode 89 = .ok (.sipush 172, 3) := by decide +kernel
theorem dX7_judgeCode_92 : decode cX7_judgeCode 92 = .ok (.if_icmp .eq 33, 3) := by decide +kernel
theorem dX7_judgeCode_95 : decode cX7_judgeCode 95 = .ok (.iload_n 1, 1) := by decide +kernel
theorem dX7_judgeCode_96 : decode cX7_judgeCode 96 = .ok (.sipush 177, 3) := by decide +kernel
theorem dX7_judgeCode_99 : decode cX7_judgeCode 99 = .ok (.if_icmp .eq 26, 3) := by decide +kernel
theorem dX7_judgeCode_102 : decode cX7_judgeCode 102 = .ok (.iload_n 1, 1) := by decide +kernel
theorem dX7_judgeCode_103 : decode cX7_judgeCode 103 = .ok (.sipush 191, 3) := by decide +kernel
theorem dX7_judgeCode_106 : decode cX7_judgeCode 106 = .ok (.if_icmp .eq 19, 3) := by decide +kernel
theorem dX7_judgeCode_109 : decode cX7_judgeCode 109 = .ok (.aload_n 0, 1) := by decide +kernel
theorem dX7_judgeCode_110 : decode cX7_judgeCode 110 = .ok (.bipush 26, 2) := by decide +kernel
theorem dX7_judgeCode_112 : decode cX7_judgeCode 112 = .ok (.aload_n 0, 1) := by decide +kernel
theorem dX7_judgeCode_113 : decode cX7_judgeCode 113 = .ok (.getfield 209, 3) := by decide +kernel
theorem dX7_judgeCode_116 : decode cX7_judgeCode 116 = .ok (.aload_n 0, 1) := by decide +kernel
theorem dX7_judgeCode_117 : decode cX7_judgeCode 117 = .ok (.getfield 250, 3) := by decide +kernel
theorem dX7_judgeCode_120 : decode cX7_judgeCode 120 = .ok (.iadd, 1) := by decide +kernel
theorem dX7_judgeCode_121 : decode cX7_judgeCode 121 = .ok (.invokevirtual 89, 3) := by decide +kernel
theorem dX7_judgeCode_124 : decode cX7_judgeCode 124 = .ok (.pop, 1) := by decide +kernel
theorem dX7_judgeCode_125 : decode cX7_judgeCode 125 = .ok (.iconst 0, 1) := by decide +kernel
theorem dX7_judgeCode_126 : decode cX7_judgeCode 126 = .ok (.istore_n 2, 1) := by decide +kernel
theorem dX7_judgeCode_127 : decode cX7_judgeCode 127 = .ok (.iload_n 2, 1) := by decide +kernel
theorem dX7_judgeCode_128 : decode cX7_judgeCode 128 = .ok (.aload_n 0, 1) := by decide +kernel
theorem dX7_judgeCode_129 : decode cX7_judgeCode 129 = .ok (.getfield 212, 3) := by decide +kernel
theorem dX7_judgeCode_132 : decode cX7_judgeCode 132 = .ok (.if_icmp .ge 40, 3) := by decide +kernel
theorem dX7_judgeCode_135 : decode cX7_judgeCode 135 = .ok (.aload_n 0, 1) := by decide +kernel
theorem dX7_judgeCode_136 : decode cX7_judgeCode 136 = .ok (.getfield 71, 3) := by decide +kernel
theorem dX7_judgeCode_139 : decode cX7_judgeCode 139 = .ok (.ifCond .ne 33, 3) := by decide +kernel
theorem dX7_judgeCode_142 : decode cX7_judgeCode 142 = .ok (.aload_n 0, 1) := by decide +kernel
theorem dX7_judgeCode_143 : decode cX7_judgeCode 143 = .ok (.iload_n 2, 1) := by decide +kernel
theorem dX7_judgeCode_144 : decode cX7_judgeCode 144 = .ok (.invokevirtual 263, 3) := by decide +kernel
theorem dX7_judgeCode_147 : decode cX7_judgeCode 147 = .ok (.ifCond .ne 19, 3) := by decide +kernel
theorem dX7_judgeCode_150 : decode cX7_judgeCode 150 = .ok (.aload_n 0, 1) := by decide +kernel
theorem dX7_judgeCode_151 : decode cX7_judgeCode 151 = .ok (.bipush 27, 2) := by decide +kernel
theorem dX7_judgeCode_153 : decode cX7_judgeCode 153 = .ok (.aload_n 0, 1) := by decide +kernel
theorem dX7_judgeCode_154 : decode cX7_judgeCode 154 = .ok (.getfield 215, 3) := by decide +kernel
theorem dX7_judgeCode_157 : decode cX7_judgeCode 157 = .ok (.bipush 8, 2) := by decide +kernel
theorem dX7_judgeCode_159 : decode cX7_judgeCode 159 = .ok (.iload_n 2, 1) := by decide +kernel
theorem dX7_judgeCode_160 : decode cX7_judgeCode 160 = .ok (.imul, 1) := by decide +kernel
theorem dX7_judgeCode_161 : decode cX7_judgeCode 161 = .ok (.iadd, 1) := by decide +kernel
theorem dX7_judgeCode_162 : decode cX7_judgeCode 162 = .ok (.invokevirtual 89, 3) := by decide +kernel
theorem dX7_judgeCode_165 : decode cX7_judgeCode 165 = .ok (.pop, 1) := by decide +kernel
theorem dX7_judgeCode_166 : decode cX7_judgeCode 166 = .ok (.iinc 2 1, 3) := by decide +kernel
theorem dX7_judgeCode_169 : decode cX7_judgeCode 169 = .ok (.goto (-42), 3) := by decide +kernel
theorem dX7_judgeCode_172 : decode cX7_judgeCode 172 = .ok (.return_, 1) := by decide +kernel
theorem dX7_run_0 : decode cX7_run 0 = .ok (.aload_n 0, 1) := by decide +kernel
theorem dX7_run_1 : decode cX7_run 1 = .ok (.iconst 1, 1) := by decide +kernel
theorem dX7_run_2 : decode cX7_run 2 = .ok (.putfield 266, 3) := by decide +kernel
theorem dX7_run_5 : decode cX7_run 5 = .ok (.aload_n 0, 1) := by decide +kernel
theorem dX7_run_6 : decode cX7_run 6 = .ok (.iconst 0, 1) := by decide +kernel
theorem dX7_run_7 : decode cX7_run 7 = .ok (.putfield 71, 3) := by decide +kernel
theorem dX7_run_10 : decode cX7_run 10 = .ok (.aload_n 0, 1) := by decide +kernel
theorem dX7_run_11 : decode cX7_run 11 = .ok (.iconst 0, 1) := by decide +kernel
theorem dX7_run_12 : decode cX7_run 12 = .ok (.putfield 77, 3) := by decide +kernel
theorem dX7_run_15 : decode cX7_run 15 = .ok (.aload_n 0, 1) := by decide +kernel
theorem dX7_run_16 : decode cX7_run 16 = .ok (.aload_n 0, 1) := by decide +kernel
theorem dX7_run_17 : decode cX7_run 17 = .ok (.getfield 59, 3) := by decide +kernel
theorem dX7_run_20 : decode cX7_run 20 = .ok (.putfield 80, 3) := by decide +kernel
theorem dX7_run_23 : decode cX7_run 23 = .ok (.aload_n 0, 1) := by decide +kernel
theorem dX7_run_24 : decode cX7_run 24 = .ok (.iconst 1, 1) := by decide +kernel
theorem dX7_run_25 : decode cX7_run 25 = .ok (.putfield 83, 3) := by decide +kernel
theorem dX7_run_28 : decode cX7_run 28 = .ok (.aload_n 0, 1) := by decide +kernel
theorem dX7_run_29 : decode cX7_run 29 = .ok (.aload_n 0, 1) := by decide +kernel
theorem dX7_run_30 : decode cX7_run 30 = .ok (.getfield 59, 3) := by decide +kernel
theorem dX7_run_33 : decode cX7_run 33 = .ok (.putfield 86, 3) := by decide +kernel
theorem dX7_run_36 : decode cX7_run 36 = .ok (.aload_n 0, 1) := by decide +kernel
theorem dX7_run_37 : decode cX7_run 37 = .ok (.iconst 0, 1) := by decide +kernel
theorem dX7_run_38 : decode cX7_run 38 = .ok (.putfield 98, 3) := by decide +kernel
theorem dX7_run_41 : decode cX7_run 41 = .ok (.iconst 0, 1) := by decide +kernel
theorem dX7_run_42 : decode cX7_run 42 = .ok (.istore_n 1, 1) := by decide +kernel
theorem dX7_run_43 : decode cX7_run 43 = .ok (.iload_n 1, 1) := by decide +kernel
theorem dX7_run_44 : decode cX7_run 44 = .ok (.bipush 7, 2) := by decide +kernel
theorem dX7_run_46 : decode cX7_run 46 = .ok (.if_icmp .ge 16, 3) := by decide +kernel
theorem dX7_run_49 : decode cX7_run 49 = .ok (.aload_n 0, 1) := by decide +kernel
theorem dX7_run_50 : decode cX7_run 50 = .ok (.getfield 16, 3) := by decide +kernel
theorem dX7_run_53 : decode cX7_run 53 = .ok (.iload_n 1, 1) := by decide +kernel
theorem dX7_run_54 : decode cX7_run 54 = .ok (.iconst 0, 1) := by decide +kernel
theorem dX7_run_55 : decode cX7_run 55 = .ok (.iastore, 1) := by decide +kernel
theorem dX7_run_56 : decode cX7_run 56 = .ok (.iinc 1 1, 3) := by decide +kernel
theorem dX7_run_59 : decode cX7_run 59 = .ok (.goto (-16), 3) := by decide +kernel
theorem dX7_run_62 : decode cX7_run 62 = .ok (.aload_n 0, 1) := by decide +kernel
theorem dX7_run_63 : decode cX7_run 63 = .ok (.invokevirtual 270, 3) := by decide +kernel
theorem dX7_run_66 : decode cX7_run 66 = .ok (.aload_n 0, 1) := by decide +kernel
theorem dX7_run_67 : decode cX7_run 67 = .ok (.getfield 71, 3) := by decide +kernel
theorem dX7_run_70 : decode cX7_run 70 = .ok (.ifCond .ne 7, 3) := by decide +kernel
theorem dX7_run_73 : decode cX7_run 73 = .ok (.aload_n 0, 1) := by decide +kernel
theorem dX7_run_74 : decode cX7_run 74 = .ok (.invokevirtual 273, 3) := by decide +kernel
theorem dX7_run_77 : decode cX7_run 77 = .ok (.aload_n 0, 1) := by decide +kernel
theorem dX7_run_78 : decode cX7_run 78 = .ok (.getfield 71, 3) := by decide +kernel
theorem dX7_run_81 : decode cX7_run 81 = .ok (.ifCond .ne 7, 3) := by decide +kernel
theorem dX7_run_84 : decode cX7_run 84 = .ok (.aload_n 0, 1) := by decide +kernel
theorem dX7_run_85 : decode cX7_run 85 = .ok (.invokevirtual 276, 3) := by decide +kernel
theorem dX7_run_88 : decode cX7_run 88 = .ok (.aload_n 0, 1) := by decide +kernel
theorem dX7_run_89 : decode cX7_run 89 = .ok (.getfield 71, 3) := by decide +kernel
theorem dX7_run_92 : decode cX7_run 92 = .ok (.ifCond .ne 7, 3) := by decide +kernel
theorem dX7_run_95 : decode cX7_run 95 = .ok (.aload_n 0, 1) := by decide +kernel
theorem dX7_run_96 : decode cX7_run 96 = .ok (.invokevirtual 279, 3) := by decide +kernel
theorem dX7_run_99 : decode cX7_run 99 = .ok (.aload_n 0, 1) := by decide +kernel
theorem dX7_run_100 : decode cX7_run 100 = .ok (.getfield 71, 3) := by decide +kernel
theorem dX7_run_103 : decode cX7_run 103 = .ok (.ifCond .ne 7, 3) := by decide +kernel
theorem dX7_run_106 : decode cX7_run 106 = .ok (.aload_n 0, 1) := by decide +kernel
theorem dX7_run_107 : decode cX7_run 107 = .ok (.invokevirtual 282, 3) := by decide +kernel
theorem dX7_run_110 : decode cX7_run 110 = .ok (.aload_n 0, 1) := by decide +kernel
theorem dX7_run_111 : decode cX7_run 111 = .ok (.getfield 71, 3) := by decide +kernel
theorem dX7_run_114 : decode cX7_run 114 = .ok (.ifCond .ne 7, 3) := by decide +kernel
theorem dX7_run_117 : decode cX7_run 117 = .ok (.aload_n 0, 1) := by decide +kernel
theorem dX7_run_118 : decode cX7_run 118 = .ok (.invokevirtual 285, 3) := by decide +kernel
theorem dX7_run_121 : decode cX7_run 121 = .ok (.aload_n 0, 1) := by decide +kernel
theorem dX7_run_122 : decode cX7_run 122 = .ok (.getfield 71, 3) := by decide +kernel
theorem dX7_run_125 : decode cX7_run 125 = .ok (.ifCond .ne 7, 3) := by decide +kernel
theorem dX7_run_128 : decode cX7_run 128 = .ok (.aload_n 0, 1) := by decide +kernel
theorem dX7_run_129 : decode cX7_run 129 = .ok (.invokevirtual 220, 3) := by decide +kernel
theorem dX7_run_132 : decode cX7_run 132 = .ok (.aload_n 0, 1) := by decide +kernel
theorem dX7_run_133 : decode cX7_run 133 = .ok (.getfield 71, 3) := by decide +kernel
theorem dX7_run_136 : decode cX7_run 136 = .ok (.ifCond .ne 25, 3) := by decide +kernel
theorem dX7_run_139 : decode cX7_run 139 = .ok (.aload_n 0, 1) := by decide +kernel
theorem dX7_run_140 : decode cX7_run 140 = .ok (.getfield 77, 3) := by decide +kernel
theorem dX7_run_143 : decode cX7_run 143 = .ok (.aload_n 0, 1) := by decide +kernel
theorem dX7_run_144 : decode cX7_run 144 = .ok (.getfield 59, 3) := by decide +kernel
theorem dX7_run_147 : decode cX7_run 147 = .ok (.if_icmp .ge 14, 3) := by decide +kernel
theorem dX7_run_150 : decode cX7_run 150 = .ok (.aload_n 0, 1) := by decide +kernel
theorem dX7_run_151 : decode cX7_run 151 = .ok (.bipush 28, 2) := by decide +kernel
theorem dX7_run_153 : decode cX7_run 153 = .ok (.aload_n 0, 1) := by decide +kernel
theorem dX7_run_154 : decode cX7_run 154 = .ok (.getfield 77, 3) := by decide +kernel
theorem dX7_run_157 : decode cX7_run 157 = .ok (.invokevirtual 89, 3) := by decide +kernel
theorem dX7_run_160 : decode cX7_run 160 = .ok (.pop, 1) := by decide +kernel
theorem dX7_run_161 : decode cX7_run 161 = .ok (.aload_n 0, 1) := by decide +kernel
theorem dX7_run_162 : decode cX7_run 162 = .ok (.getfield 71, 3) := by decide +kernel
theorem dX7_run_165 : decode cX7_run 165 = .ok (.ireturn, 1) := by decide +kernel
theorem dX7_judge_0 : decode cX7_judge 0 = .ok (.aload_n 0, 1) := by decide +kernel
theorem dX7_judge_1 : decode cX7_judge 1 = .ok (.invokevirtual 288, 3) := by decide +kernel
theorem dX7_judge_4 : decode cX7_judge 4 = .ok (.istore_n 1, 1) := by decide +kernel
theorem dX7_judge_5 : decode cX7_judge 5 = .ok (.aload_n 0, 1) := by decide +kernel
theorem dX7_judge_6 : decode cX7_judge 6 = .ok (.dup, 1) := by decide +kernel
theorem dX7_judge_7 : decode cX7_judge 7 = .ok (.getfield 291, 3) := by decide +kernel
theorem dX7_judge_10 : decode cX7_judge 10 = .ok (.iconst 1, 1) := by decide +kernel
theorem dX7_judge_11 : decode cX7_judge 11 = .ok (.iadd, 1) := by decide +kernel
theorem dX7_judge_12 : decode cX7_judge 12 = .ok (.putfield 291, 3) := by decide +kernel
theorem dX7_judge_15 : decode cX7_judge 15 = .ok (.aload_n 0, 1) := by decide +kernel
theorem dX7_judge_16 : decode cX7_judge 16 = .ok (.getfield 13, 3) := by decide +kernel
theorem dX7_judge_19 : decode cX7_judge 19 = .ok (.iload_n 1, 1) := by decide +kernel
theorem dX7_judge_20 : decode cX7_judge 20 = .ok (.dup2, 1) := by decide +kernel
theorem dX7_judge_21 : decode cX7_judge 21 = .ok (.iaload, 1) := by decide +kernel
theorem dX7_judge_22 : decode cX7_judge 22 = .ok (.iconst 1, 1) := by decide +kernel
theorem dX7_judge_23 : decode cX7_judge 23 = .ok (.iadd, 1) := by decide +kernel
theorem dX7_judge_24 : decode cX7_judge 24 = .ok (.iastore, 1) := by decide +kernel
theorem dX7_judge_25 : decode cX7_judge 25 = .ok (.iload_n 1, 1) := by decide +kernel
theorem dX7_judge_26 : decode cX7_judge 26 = .ok (.ireturn, 1) := by decide +kernel
theorem dX7_place_0 : decode cX7_place 0 = .ok (.aload_n 0, 1) := by decide +kernel
theorem dX7_place_1 : decode cX7_place 1 = .ok (.getfield 266, 3) := by decide +kernel
theorem dX7_place_4 : decode cX7_place 4 = .ok (.ifCond .eq 10, 3) := by decide +kernel
theorem dX7_place_7 : decode cX7_place 7 = .ok (.aload_n 0, 1) := by decide +kernel
theorem dX7_place_8 : decode cX7_place 8 = .ok (.getfield 71, 3) := by decide +kernel
theorem dX7_place_11 : decode cX7_place 11 = .ok (.ifCond .ne 7, 3) := by decide +kernel
theorem dX7_place_14 : decode cX7_place 14 = .ok (.iconst (-1), 1) := by decide +kernel
theorem dX7_place_15 : decode cX7_place 15 = .ok (.goto 7, 3) := by decide +kernel
theorem dX7_place_18 : decode cX7_place 18 = .ok (.aload_n 0, 1) := by decide +kernel
theorem dX7_place_19 : decode cX7_place 19 = .ok (.getfield 74, 3) := by decide +kernel
theorem dX7_place_22 : decode cX7_place 22 = .ok (.ireturn, 1) := by decide +kernel
theorem dX7_without_0 : decode cX7_without 0 = .ok (.iconst 0, 1) := by decide +kernel
theorem dX7_without_1 : decode cX7_without 1 = .ok (.istore 4, 2) := by decide +kernel
theorem dX7_without_3 : decode cX7_without 3 = .ok (.iload 4, 2) := by decide +kernel
theorem dX7_without_5 : decode cX7_without 5 = .ok (.iload_n 2, 1) := by decide +kernel
theorem dX7_without_6 : decode cX7_without 6 = .ok (.if_icmp .ge 25, 3) := by decide +kernel
theorem dX7_without_9 : decode cX7_without 9 = .ok (.aload_n 0, 1) := by decide +kernel
theorem dX7_without_10 : decode cX7_without 10 = .ok (.getfield 56, 3) := by decide +kernel
theorem dX7_without_13 : decode cX7_without 13 = .ok (.iload 4, 2) := by decide +kernel
theorem dX7_without_15 : decode cX7_without 15 = .ok (.aload_n 0, 1) := by decide +kernel
theorem dX7_without_16 : decode cX7_without 16 = .ok (.getfield 7, 3) := by decide +kernel
theorem dX7_without_19 : decode cX7_without 19 = .ok (.iload_n 1, 1) := by decide +kernel
theorem dX7_without_20 : decode cX7_without 20 = .ok (.iload 4, 2) := by decide +kernel
theorem dX7_without_22 : decode cX7_without 22 = .ok (.iadd, 1) := by decide +kernel
theorem dX7_without_23 : decode cX7_without 23 = .ok (.iaload, 1) := by decide +kernel
theorem dX7_without_24 : decode cX7_without 24 = .ok (.iastore, 1) := by decide +kernel
theorem dX7_without_25 : decode cX7_without 25 = .ok (.iinc 4 1, 3) := by decide +kernel
theorem dX7_without_28 : decode cX7_without 28 = .ok (.goto (-25), 3) := by decide +kernel
theorem dX7_without_31 : decode cX7_without 31 = .ok (.aload_n 0, 1) := by decide +kernel
theorem dX7_without_32 : decode cX7_without 32 = .ok (.iload_n 1, 1) := by decide +kernel
theorem dX7_without_33 : decode cX7_without 33 = .ok (.iload_n 2, 1) := by decide +kernel
theorem dX7_without_34 : decode cX7_without 34 = .ok (.invokevirtual 67, 3) := by decide +kernel
theorem dX7_without_37 : decode cX7_without 37 = .ok (.aload_n 0, 1) := by decide +kernel
theorem dX7_without_38 : decode cX7_without 38 = .ok (.invokevirtual 288, 3) := by decide +kernel
theorem dX7_without_41 : decode cX7_without 41 = .ok (.iload_n 3, 1) := by decide +kernel
theorem dX7_without_42 : decode cX7_without 42 = .ok (.if_icmp .ne 5, 3) := by decide +kernel
theorem dX7_without_45 : decode cX7_without 45 = .ok (.iconst 1, 1) := by decide +kernel
theorem dX7_without_46 : decode cX7_without 46 = .ok (.ireturn, 1) := by decide +kernel
theorem dX7_without_47 : decode cX7_without 47 = .ok (.aload_n 0, 1) := by decide +kernel
theorem dX7_without_48 : decode cX7_without 48 = .ok (.getfield 59, 3) := by decide +kernel
theorem dX7_without_51 : decode cX7_without 51 = .ok (.iconst 1, 1) := by decide +kernel
theorem dX7_without_52 : decode cX7_without 52 = .ok (.isub, 1) := by decide +kernel
theorem dX7_without_53 : decode cX7_without 53 = .ok (.istore 4, 2) := by decide +kernel
theorem dX7_without_55 : decode cX7_without 55 = .ok (.iload 4, 2) := by decide +kernel
theorem dX7_without_57 : decode cX7_without 57 = .ok (.iload_n 1, 1) := by decide +kernel
theorem dX7_without_58 : decode cX7_without 58 = .ok (.if_icmp .lt 25, 3) := by decide +kernel
theorem dX7_without_61 : decode cX7_without 61 = .ok (.aload_n 0, 1) := by decide +kernel
theorem dX7_without_62 : decode cX7_without 62 = .ok (.getfield 7, 3) := by decide +kernel
theorem dX7_without_65 : decode cX7_without 65 = .ok (.iload 4, 2) := by decide +kernel
theorem dX7_without_67 : decode cX7_without 67 = .ok (.iload_n 2, 1) := by decide +kernel
theorem dX7_without_68 : decode cX7_without 68 = .ok (.iadd, 1) := by decide +kernel
theorem dX7_without_69 : decode cX7_without 69 = .ok (.aload_n 0, 1) := by decide +kernel
theorem dX7_without_70 : decode cX7_without 70 = .ok (.getfield 7, 3) := by decide +kernel
theorem dX7_without_73 : decode cX7_without 73 = .ok (.iload 4, 2) := by decide +kernel
theorem dX7_without_75 : decode cX7_without 75 = .ok (.iaload, 1) := by decide +kernel
theorem dX7_without_76 : decode cX7_without 76 = .ok (.iastore, 1) := by decide +kernel
theorem dX7_without_77 : decode cX7_without 77 = .ok (.iinc 4 (-1), 3) := by decide +kernel
theorem dX7_without_80 : decode cX7_without 80 = .ok (.goto (-25), 3) := by decide +kernel
theorem dX7_without_83 : decode cX7_without 83 = .ok (.iconst 0, 1) := by decide +kernel
theorem dX7_without_84 : decode cX7_without 84 = .ok (.istore 4, 2) := by decide +kernel
theorem dX7_without_86 : decode cX7_without 86 = .ok (.iload 4, 2) := by decide +kernel
theorem dX7_without_88 : decode cX7_without 88 = .ok (.iload_n 2, 1) := by decide +kernel
theorem dX7_without_89 : decode cX7_without 89 = .ok (.if_icmp .ge 25, 3) := by decide +kernel
theorem dX7_without_92 : decode cX7_without 92 = .ok (.aload_n 0, 1) := by decide +kernel
theorem dX7_without_93 : decode cX7_without 93 = .ok (.getfield 7, 3) := by decide +kernel
theorem dX7_without_96 : decode cX7_without 96 = .ok (.iload_n 1, 1) := by decide +kernel
theorem dX7_without_97 : decode cX7_without 97 = .ok (.iload 4, 2) := by decide +kernel
theorem dX7_without_99 : decode cX7_without 99 = .ok (.iadd, 1) := by decide +kernel
theorem dX7_without_100 : decode cX7_without 100 = .ok (.aload_n 0, 1) := by decide +kernel
theorem dX7_without_101 : decode cX7_without 101 = .ok (.getfield 56, 3) := by decide +kernel
theorem dX7_without_104 : decode cX7_without 104 = .ok (.iload 4, 2) := by decide +kernel
theorem dX7_without_106 : decode cX7_without 106 = .ok (.iaload, 1) := by decide +kernel
theorem dX7_without_107 : decode cX7_without 107 = .ok (.iastore, 1) := by decide +kernel
theorem dX7_without_108 : decode cX7_without 108 = .ok (.iinc 4 1, 3) := by decide +kernel
theorem dX7_without_111 : decode cX7_without 111 = .ok (.goto (-25), 3) := by decide +kernel
theorem dX7_without_114 : decode cX7_without 114 = .ok (.aload_n 0, 1) := by decide +kernel
theorem dX7_without_115 : decode cX7_without 115 = .ok (.dup, 1) := by decide +kernel
theorem dX7_without_116 : decode cX7_without 116 = .ok (.getfield 59, 3) := by decide +kernel
theorem dX7_without_119 : decode cX7_without 119 = .ok (.iload_n 2, 1) := by decide +kernel
theorem dX7_without_120 : decode cX7_without 120 = .ok (.iadd, 1) := by decide +kernel
theorem dX7_without_121 : decode cX7_without 121 = .ok (.putfield 59, 3) := by decide +kernel
theorem dX7_without_124 : decode cX7_without 124 = .ok (.iconst 0, 1) := by decide +kernel
theorem dX7_without_125 : decode cX7_without 125 = .ok (.ireturn, 1) := by decide +kernel
theorem dX7_shrink_0 : decode cX7_shrink 0 = .ok (.aload_n 0, 1) := by decide +kernel
theorem dX7_shrink_1 : decode cX7_shrink 1 = .ok (.getfield 59, 3) := by decide +kernel
theorem dX7_shrink_4 : decode cX7_shrink 4 = .ok (.istore_n 1, 1) := by decide +kernel
theorem dX7_shrink_5 : decode cX7_shrink 5 = .ok (.aload_n 0, 1) := by decide +kernel
theorem dX7_shrink_6 : decode cX7_shrink 6 = .ok (.invokevirtual 288, 3) := by decide +kernel
theorem dX7_shrink_9 : decode cX7_shrink 9 = .ok (.istore_n 2, 1) := by decide +kernel
theorem dX7_shrink_10 : decode cX7_shrink 10 = .ok (.iload_n 2, 1) := by decide +kernel
theorem dX7_shrink_11 : decode cX7_shrink 11 = .ok (.ifCond .ne 5, 3) := by decide +kernel
theorem dX7_shrink_14 : decode cX7_shrink 14 = .ok (.iconst 0, 1) := by decide +kernel
theorem dX7_shrink_15 : decode cX7_shrink 15 = .ok (.ireturn, 1) := by decide +kernel
theorem dX7_shrink_16 : decode cX7_shrink 16 = .ok (.bipush 32, 2) := by decide +kernel
theorem dX7_shrink_18 : decode cX7_shrink 18 = .ok (.istore_n 3, 1) := by decide +kernel
theorem dX7_shrink_19 : decode cX7_shrink 19 = .ok (.iload_n 3, 1) := by decide +kernel
theorem dX7_shrink_20 : decode cX7_shrink 20 = .ok (.ifCond .le 49, 3) := by decide +kernel
theorem dX7_shrink_23 : decode cX7_shrink 23 = .ok (.aload_n 0, 1) := by decide +kernel
theorem dX7_shrink_24 : decode cX7_shrink 24 = .ok (.getfield 59, 3) := by decide +kernel
theorem dX7_shrink_27 : decode cX7_shrink 27 = .ok (.iload_n 3, 1) := by decide +kernel
theorem dX7_shrink_28 : decode cX7_shrink 28 = .ok (.isub, 1) := by decide +kernel
theorem dX7_shrink_29 : decode cX7_shrink 29 = .ok (.istore 4, 2) := by decide +kernel
theorem dX7_shrink_31 : decode cX7_shrink 31 = .ok (.iload 4, 2) := by decide +kernel
theorem dX7_shrink_33 : decode cX7_shrink 33 = .ok (.ifCond .lt 29, 3) := by decide +kernel
theorem dX7_shrink_36 : decode cX7_shrink 36 = .ok (.iload 4, 2) := by decide +kernel
theorem dX7_shrink_38 : decode cX7_shrink 38 = .ok (.iload_n 3, 1) := by decide +kernel
theorem dX7_shrink_39 : decode cX7_shrink 39 = .ok (.iadd, 1) := by decide +kernel
theorem dX7_shrink_40 : decode cX7_shrink 40 = .ok (.aload_n 0, 1) := by decide +kernel
theorem dX7_shrink_41 : decode cX7_shrink 41 = .ok (.getfield 59, 3) := by decide +kernel
theorem dX7_shrink_44 : decode cX7_shrink 44 = .ok (.if_icmp .gt 12, 3) := by decide +kernel
theorem dX7_shrink_47 : decode cX7_shrink 47 = .ok (.aload_n 0, 1) := by decide +kernel
theorem dX7_shrink_48 : decode cX7_shrink 48 = .ok (.iload 4, 2) := by decide +kernel
theorem dX7_shrink_50 : decode cX7_shrink 50 = .ok (.iload_n 3, 1) := by decide +kernel
theorem dX7_shrink_51 : decode cX7_shrink 51 = .ok (.iload_n 2, 1) := by decide +kernel
theorem dX7_shrink_52 : decode cX7_shrink 52 = .ok (.invokevirtual 294, 3) := by decide +kernel
theorem dX7_shrink_55 : decode cX7_shrink 55 = .ok (.pop, 1) := by decide +kernel
theorem dX7_shrink_56 : decode cX7_shrink 56 = .ok (.iinc 4 (-1), 3) := by decide +kernel
theorem dX7_shrink_59 : decode cX7_shrink 59 = .ok (.goto (-28), 3) := by decide +kernel
theorem dX7_shrink_62 : decode cX7_shrink 62 = .ok (.iload_n 3, 1) := by decide +kernel
theorem dX7_shrink_63 : decode cX7_shrink 63 = .ok (.iconst 2, 1) := by decide +kernel
theorem dX7_shrink_64 : decode cX7_shrink 64 = .ok (.idiv, 1) := by decide +kernel
theorem dX7_shrink_65 : decode cX7_shrink 65 = .ok (.istore_n 3, 1) := by decide +kernel
theorem dX7_shrink_66 : decode cX7_shrink 66 = .ok (.goto (-47), 3) := by decide +kernel
theorem dX7_shrink_69 : decode cX7_shrink 69 = .ok (.aload_n 0, 1) := by decide +kernel
theorem dX7_shrink_70 : decode cX7_shrink 70 = .ok (.invokevirtual 288, 3) := by decide +kernel
theorem dX7_shrink_73 : decode cX7_shrink 73 = .ok (.pop, 1) := by decide +kernel
theorem dX7_shrink_74 : decode cX7_shrink 74 = .ok (.iload_n 1, 1) := by decide +kernel
theorem dX7_shrink_75 : decode cX7_shrink 75 = .ok (.aload_n 0, 1) := by decide +kernel
theorem dX7_shrink_76 : decode cX7_shrink 76 = .ok (.getfield 59, 3) := by decide +kernel
theorem dX7_shrink_79 : decode cX7_shrink 79 = .ok (.isub, 1) := by decide +kernel
theorem dX7_shrink_80 : decode cX7_shrink 80 = .ok (.ireturn, 1) := by decide +kernel
theorem dX7_at_0 : decode cX7_at 0 = .ok (.iload_n 1, 1) := by decide +kernel
theorem dX7_at_1 : decode cX7_at 1 = .ok (.ifCond .lt 11, 3) := by decide +kernel
theorem dX7_at_4 : decode cX7_at 4 = .ok (.iload_n 1, 1) := by decide +kernel
theorem dX7_at_5 : decode cX7_at 5 = .ok (.aload_n 0, 1) := by decide +kernel
theorem dX7_at_6 : decode cX7_at 6 = .ok (.getfield 59, 3) := by decide +kernel
theorem dX7_at_9 : decode cX7_at 9 = .ok (.if_icmp .lt 7, 3) := by decide +kernel
theorem dX7_at_12 : decode cX7_at 12 = .ok (.iconst (-1), 1) := by decide +kernel
theorem dX7_at_13 : decode cX7_at 13 = .ok (.goto 9, 3) := by decide +kernel
theorem dX7_at_16 : decode cX7_at 16 = .ok (.aload_n 0, 1) := by decide +kernel
theorem dX7_at_17 : decode cX7_at 17 = .ok (.getfield 7, 3) := by decide +kernel
theorem dX7_at_20 : decode cX7_at 20 = .ok (.iload_n 1, 1) := by decide +kernel
theorem dX7_at_21 : decode cX7_at 21 = .ok (.iaload, 1) := by decide +kernel
theorem dX7_at_22 : decode cX7_at 22 = .ok (.ireturn, 1) := by decide +kernel
theorem dX7_read_0 : decode cX7_read 0 = .ok (.iload_n 1, 1) := by decide +kernel
theorem dX7_read_1 : decode cX7_read 1 = .ok (.ifCond .lt 9, 3) := by decide +kernel
theorem dX7_read_4 : decode cX7_read 4 = .ok (.iload_n 1, 1) := by decide +kernel
theorem dX7_read_5 : decode cX7_read 5 = .ok (.bipush 6, 2) := by decide +kernel
theorem dX7_read_7 : decode cX7_read 7 = .ok (.if_icmp .le 7, 3) := by decide +kernel
theorem dX7_read_10 : decode cX7_read 10 = .ok (.iconst (-1), 1) := by decide +kernel
theorem dX7_read_11 : decode cX7_read 11 = .ok (.goto 9, 3) := by decide +kernel
theorem dX7_read_14 : decode cX7_read 14 = .ok (.aload_n 0, 1) := by decide +kernel
theorem dX7_read_15 : decode cX7_read 15 = .ok (.getfield 16, 3) := by decide +kernel
theorem dX7_read_18 : decode cX7_read 18 = .ok (.iload_n 1, 1) := by decide +kernel
theorem dX7_read_19 : decode cX7_read 19 = .ok (.iaload, 1) := by decide +kernel
theorem dX7_read_20 : decode cX7_read 20 = .ok (.ireturn, 1) := by decide +kernel
theorem dX7_found_0 : decode cX7_found 0 = .ok (.iload_n 1, 1) := by decide +kernel
theorem dX7_found_1 : decode cX7_found 1 = .ok (.ifCond .lt 9, 3) := by decide +kernel
theorem dX7_found_4 : decode cX7_found 4 = .ok (.iload_n 1, 1) := by decide +kernel
theorem dX7_found_5 : decode cX7_found 5 = .ok (.bipush 28, 2) := by decide +kernel
theorem dX7_found_7 : decode cX7_found 7 = .ok (.if_icmp .le 7, 3) := by decide +kernel
theorem dX7_found_10 : decode cX7_found 10 = .ok (.iconst (-1), 1) := by decide +kernel
theorem dX7_found_11 : decode cX7_found 11 = .ok (.goto 9, 3) := by decide +kernel
theorem dX7_found_14 : decode cX7_found 14 = .ok (.aload_n 0, 1) := by decide +kernel
theorem dX7_found_15 : decode cX7_found 15 = .ok (.getfield 13, 3) := by decide +kernel
theorem dX7_found_18 : decode cX7_found 18 = .ok (.iload_n 1, 1) := by decide +kernel
theorem dX7_found_19 : decode cX7_found 19 = .ok (.iaload, 1) := by decide +kernel
theorem dX7_found_20 : decode cX7_found 20 = .ok (.ireturn, 1) := by decide +kernel
theorem dX7_count_0 : decode cX7_count 0 = .ok (.iload_n 1, 1) := by decide +kernel
theorem dX7_count_1 : decode cX7_count 1 = .ok (.ifCond .ne 8, 3) := by decide +kernel
theorem dX7_count_4 : decode cX7_count 4 = .ok (.aload_n 0, 1) := by decide +kernel
theorem dX7_count_5 : decode cX7_count 5 = .ok (.getfield 59, 3) := by decide +kernel
theorem dX7_count_8 : decode cX7_count 8 = .ok (.ireturn, 1) := by decide +kernel
theorem dX7_count_9 : decode cX7_count 9 = .ok (.iload_n 1, 1) := by decide +kernel
theorem dX7_count_10 : decode cX7_count 10 = .ok (.iconst 2, 1) := by decide +kernel
theorem dX7_count_11 : decode cX7_count 11 = .ok (.if_icmp .ne 8, 3) := by decide +kernel
theorem dX7_count_14 : decode cX7_count 14 = .ok (.aload_n 0, 1) := by decide +kernel
theorem dX7_count_15 : decode cX7_count 15 = .ok (.getfield 291, 3) := by decide +kernel
theorem dX7_count_18 : decode cX7_count 18 = .ok (.ireturn, 1) := by decide +kernel
theorem dX7_count_19 : decode cX7_count 19 = .ok (.iload_n 1, 1) := by decide +kernel
theorem dX7_count_20 : decode cX7_count 20 = .ok (.iconst 1, 1) := by decide +kernel
theorem dX7_count_21 : decode cX7_count 21 = .ok (.if_icmp .eq 5, 3) := by decide +kernel
theorem dX7_count_24 : decode cX7_count 24 = .ok (.iconst (-1), 1) := by decide +kernel
theorem dX7_count_25 : decode cX7_count 25 = .ok (.ireturn, 1) := by decide +kernel
theorem dX7_count_26 : decode cX7_count 26 = .ok (.iconst 0, 1) := by decide +kernel
theorem dX7_count_27 : decode cX7_count 27 = .ok (.istore_n 2, 1) := by decide +kernel
theorem dX7_count_28 : decode cX7_count 28 = .ok (.iconst 1, 1) := by decide +kernel
theorem dX7_count_29 : decode cX7_count 29 = .ok (.istore_n 3, 1) := by decide +kernel
theorem dX7_count_30 : decode cX7_count 30 = .ok (.iload_n 3, 1) := by decide +kernel
theorem dX7_count_31 : decode cX7_count 31 = .ok (.bipush 29, 2) := by decide +kernel
theorem dX7_count_33 : decode cX7_count 33 = .ok (.if_icmp .ge 21, 3) := by decide +kernel
theorem dX7_count_36 : decode cX7_count 36 = .ok (.aload_n 0, 1) := by decide +kernel
theorem dX7_count_37 : decode cX7_count 37 = .ok (.getfield 13, 3) := by decide +kernel
theorem dX7_count_40 : decode cX7_count 40 = .ok (.iload_n 3, 1) := by decide +kernel
theorem dX7_count_41 : decode cX7_count 41 = .ok (.iaload, 1) := by decide +kernel
theorem dX7_count_42 : decode cX7_count 42 = .ok (.ifCond .le 6, 3) := by decide +kernel
theorem dX7_count_45 : decode cX7_count 45 = .ok (.iinc 2 1, 3) := by decide +kernel
theorem dX7_count_48 : decode cX7_count 48 = .ok (.iinc 3 1, 3) := by decide +kernel
theorem dX7_count_51 : decode cX7_count 51 = .ok (.goto (-21), 3) := by decide +kernel
theorem dX7_count_54 : decode cX7_count 54 = .ok (.iload_n 2, 1) := by decide +kernel
theorem dX7_count_55 : decode cX7_count 55 = .ok (.ireturn, 1) := by decide +kernel
theorem dX8_bitCount_0 : decode cX8_bitCount 0 = .ok (.iload_n 0, 1) := by decide +kernel
theorem dX8_bitCount_1 : decode cX8_bitCount 1 = .ok (.iload_n 0, 1) := by decide +kernel
theorem dX8_bitCount_2 : decode cX8_bitCount 2 = .ok (.iconst 1, 1) := by decide +kernel
theorem dX8_bitCount_3 : decode cX8_bitCount 3 = .ok (.iushr, 1) := by decide +kernel
theorem dX8_bitCount_4 : decode cX8_bitCount 4 = .ok (.ldc_w 265, 3) := by decide +kernel
theorem dX8_bitCount_7 : decode cX8_bitCount 7 = .ok (.iand, 1) := by decide +kernel
theorem dX8_bitCount_8 : decode cX8_bitCount 8 = .ok (.isub, 1) := by decide +kernel
theorem dX8_bitCount_9 : decode cX8_bitCount 9 = .ok (.istore_n 0, 1) := by decide +kernel
theorem dX8_bitCount_10 : decode cX8_bitCount 10 = .ok (.iload_n 0, 1) := by decide +kernel
theorem dX8_bitCount_11 : decode cX8_bitCount 11 = .ok (.ldc_w 266, 3) := by decide +kernel
theorem dX8_bitCount_14 : decode cX8_bitCount 14 = .ok (.iand, 1) := by decide +kernel
theorem dX8_bitCount_15 : decode cX8_bitCount 15 = .ok (.iload_n 0, 1) := by decide +kernel
theorem dX8_bitCount_16 : decode cX8_bitCount 16 = .ok (.iconst 2, 1) := by decide +kernel
theorem dX8_bitCount_17 : decode cX8_bitCount 17 = .ok (.iushr, 1) := by decide +kernel
theorem dX8_bitCount_18 : decode cX8_bitCount 18 = .ok (.ldc_w 266, 3) := by decide +kernel
theorem dX8_bitCount_21 : decode cX8_bitCount 21 = .ok (.iand, 1) := by decide +kernel
theorem dX8_bitCount_22 : decode cX8_bitCount 22 = .ok (.iadd, 1) := by decide +kernel
theorem dX8_bitCount_23 : decode cX8_bitCount 23 = .ok (.istore_n 0, 1) := by decide +kernel
theorem dX8_bitCount_24 : decode cX8_bitCount 24 = .ok (.iload_n 0, 1) := by decide +kernel
theorem dX8_bitCount_25 : decode cX8_bitCount 25 = .ok (.iload_n 0, 1) := by decide +kernel
theorem dX8_bitCount_26 : decode cX8_bitCount 26 = .ok (.iconst 4, 1) := by decide +kernel
theorem dX8_bitCount_27 : decode cX8_bitCount 27 = .ok (.iushr, 1) := by decide +kernel
theorem dX8_bitCount_28 : decode cX8_bitCount 28 = .ok (.iadd, 1) := by decide +kernel
theorem dX8_bitCount_29 : decode cX8_bitCount 29 = .ok (.ldc_w 267, 3) := by decide +kernel
theorem dX8_bitCount_32 : decode cX8_bitCount 32 = .ok (.iand, 1) := by decide +kernel
theorem dX8_bitCount_33 : decode cX8_bitCount 33 = .ok (.istore_n 0, 1) := by decide +kernel
theorem dX8_bitCount_34 : decode cX8_bitCount 34 = .ok (.iload_n 0, 1) := by decide +kernel
theorem dX8_bitCount_35 : decode cX8_bitCount 35 = .ok (.iload_n 0, 1) := by decide +kernel
theorem dX8_bitCount_36 : decode cX8_bitCount 36 = .ok (.bipush 8, 2) := by decide +kernel
theorem dX8_bitCount_38 : decode cX8_bitCount 38 = .ok (.iushr, 1) := by decide +kernel
theorem dX8_bitCount_39 : decode cX8_bitCount 39 = .ok (.iadd, 1) := by decide +kernel
theorem dX8_bitCount_40 : decode cX8_bitCount 40 = .ok (.istore_n 0, 1) := by decide +kernel
theorem dX8_bitCount_41 : decode cX8_bitCount 41 = .ok (.iload_n 0, 1) := by decide +kernel
theorem dX8_bitCount_42 : decode cX8_bitCount 42 = .ok (.iload_n 0, 1) := by decide +kernel
theorem dX8_bitCount_43 : decode cX8_bitCount 43 = .ok (.bipush 16, 2) := by decide +kernel
theorem dX8_bitCount_45 : decode cX8_bitCount 45 = .ok (.iushr, 1) := by decide +kernel
theorem dX8_bitCount_46 : decode cX8_bitCount 46 = .ok (.iadd, 1) := by decide +kernel
theorem dX8_bitCount_47 : decode cX8_bitCount 47 = .ok (.istore_n 0, 1) := by decide +kernel
theorem dX8_bitCount_48 : decode cX8_bitCount 48 = .ok (.iload_n 0, 1) := by decide +kernel
theorem dX8_bitCount_49 : decode cX8_bitCount 49 = .ok (.bipush 63, 2) := by decide +kernel
