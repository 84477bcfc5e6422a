theorem dX0_init_0 : decode cX0_init 0 = .ok (.aload_n 0, 1) := by decide +kernel
theorem dX0_init_1 : decode cX0_init 1 = .ok (.invokespecial 1, 3) := by decide +kernel
theorem dX0_init_4 : decode cX0_init 4 = .ok (.aload_n 0, 1) := by decide +kernel
theorem dX0_init_5 : decode cX0_init 5 = .ok (.bipush 64, 2) := by decide +kernel
theorem dX0_init_7 : decode cX0_init 7 = .ok (.newarray .boolean, 2) := by decide +kernel
theorem dX0_init_9 : decode cX0_init 9 = .ok (.putfield 9, 3) := by decide +kernel
theorem dX0_init_12 : decode cX0_init 12 = .ok (.aload_n 0, 1) := by decide +kernel
theorem dX0_init_13 : decode cX0_init 13 = .ok (.bipush 64, 2) := by decide +kernel
theorem dX0_init_15 : decode cX0_init 15 = .ok (.newarray .int, 2) := by decide +kernel
theorem dX0_init_17 : decode cX0_init 17 = .ok (.putfield 13, 3) := by decide +kernel
theorem dX0_init_20 : decode cX0_init 20 = .ok (.aload_n 0, 1) := by decide +kernel
theorem dX0_init_21 : decode cX0_init 21 = .ok (.aload_n 1, 1) := by decide +kernel
theorem dX0_init_22 : decode cX0_init 22 = .ok (.putfield 17, 3) := by decide +kernel
theorem dX0_init_25 : decode cX0_init 25 = .ok (.aload_n 0, 1) := by decide +kernel
theorem dX0_init_26 : decode cX0_init 26 = .ok (.aload_n 1, 1) := by decide +kernel
theorem dX0_init_27 : decode cX0_init 27 = .ok (.getfield 21, 3) := by decide +kernel
theorem dX0_init_30 : decode cX0_init 30 = .ok (.putfield 27, 3) := by decide +kernel
theorem dX0_init_33 : decode cX0_init 33 = .ok (.aload_n 0, 1) := by decide +kernel
theorem dX0_init_34 : decode cX0_init 34 = .ok (.aload_n 2, 1) := by decide +kernel
theorem dX0_init_35 : decode cX0_init 35 = .ok (.putfield 28, 3) := by decide +kernel
theorem dX0_init_38 : decode cX0_init 38 = .ok (.return_, 1) := by decide +kernel
theorem dX0_lookAt_0 : decode cX0_lookAt 0 = .ok (.aload_n 0, 1) := by decide +kernel
theorem dX0_lookAt_1 : decode cX0_lookAt 1 = .ok (.aload_n 0, 1) := by decide +kernel
theorem dX0_lookAt_2 : decode cX0_lookAt 2 = .ok (.getfield 27, 3) := by decide +kernel
theorem dX0_lookAt_5 : decode cX0_lookAt 5 = .ok (.iload_n 1, 1) := by decide +kernel
theorem dX0_lookAt_6 : decode cX0_lookAt 6 = .ok (.iconst 2, 1) := by decide +kernel
theorem dX0_lookAt_7 : decode cX0_lookAt 7 = .ok (.iadd, 1) := by decide +kernel
theorem dX0_lookAt_8 : decode cX0_lookAt 8 = .ok (.invokevirtual 32, 3) := by decide +kernel
theorem dX0_lookAt_11 : decode cX0_lookAt 11 = .ok (.putfield 38, 3) := by decide +kernel
theorem dX0_lookAt_14 : decode cX0_lookAt 14 = .ok (.aload_n 0, 1) := by decide +kernel
theorem dX0_lookAt_15 : decode cX0_lookAt 15 = .ok (.aload_n 0, 1) := by decide +kernel
theorem dX0_lookAt_16 : decode cX0_lookAt 16 = .ok (.getfield 27, 3) := by decide +kernel
theorem dX0_lookAt_19 : decode cX0_lookAt 19 = .ok (.iload_n 1, 1) := by decide +kernel
theorem dX0_lookAt_20 : decode cX0_lookAt 20 = .ok (.iconst 4, 1) := by decide +kernel
theorem dX0_lookAt_21 : decode cX0_lookAt 21 = .ok (.iadd, 1) := by decide +kernel
theorem dX0_lookAt_22 : decode cX0_lookAt 22 = .ok (.invokevirtual 42, 3) := by decide +kernel
theorem dX0_lookAt_25 : decode cX0_lookAt 25 = .ok (.putfield 45, 3) := by decide +kernel
theorem dX0_lookAt_28 : decode cX0_lookAt 28 = .ok (.aload_n 0, 1) := by decide +kernel
theorem dX0_lookAt_29 : decode cX0_lookAt 29 = .ok (.iload_n 1, 1) := by decide +kernel
theorem dX0_lookAt_30 : decode cX0_lookAt 30 = .ok (.bipush 8, 2) := by decide +kernel
theorem dX0_lookAt_32 : decode cX0_lookAt 32 = .ok (.iadd, 1) := by decide +kernel
theorem dX0_lookAt_33 : decode cX0_lookAt 33 = .ok (.putfield 48, 3) := by decide +kernel
theorem dX0_lookAt_36 : decode cX0_lookAt 36 = .ok (.aload_n 0, 1) := by decide +kernel
theorem dX0_lookAt_37 : decode cX0_lookAt 37 = .ok (.aload_n 0, 1) := by decide +kernel
theorem dX0_lookAt_38 : decode cX0_lookAt 38 = .ok (.getfield 27, 3) := by decide +kernel
theorem dX0_lookAt_41 : decode cX0_lookAt 41 = .ok (.aload_n 0, 1) := by decide +kernel
theorem dX0_lookAt_42 : decode cX0_lookAt 42 = .ok (.getfield 48, 3) := by decide +kernel
theorem dX0_lookAt_45 : decode cX0_lookAt 45 = .ok (.aload_n 0, 1) := by decide +kernel
theorem dX0_lookAt_46 : decode cX0_lookAt 46 = .ok (.getfield 45, 3) := by decide +kernel
theorem dX0_lookAt_49 : decode cX0_lookAt 49 = .ok (.iadd, 1) := by decide +kernel
theorem dX0_lookAt_50 : decode cX0_lookAt 50 = .ok (.invokevirtual 32, 3) := by decide +kernel
theorem dX0_lookAt_53 : decode cX0_lookAt 53 = .ok (.putfield 51, 3) := by decide +kernel
theorem dX0_lookAt_56 : decode cX0_lookAt 56 = .ok (.aload_n 0, 1) := by decide +kernel
theorem dX0_lookAt_57 : decode cX0_lookAt 57 = .ok (.iconst 0, 1) := by decide +kernel
theorem dX0_lookAt_58 : decode cX0_lookAt 58 = .ok (.putfield 54, 3) := by decide +kernel
theorem dX0_lookAt_61 : decode cX0_lookAt 61 = .ok (.return_, 1) := by decide +kernel
theorem dX0_judgeInstructions_0 : decode cX0_judgeInstructions 0 = .ok (.iconst 0, 1) := by decide +kernel
theorem dX0_judgeInstructions_1 : decode cX0_judgeInstructions 1 = .ok (.istore_n 1, 1) := by decide +kernel
theorem dX0_judgeInstructions_2 : decode cX0_judgeInstructions 2 = .ok (.iload_n 1, 1) := by decide +kernel
theorem dX0_judgeInstructions_3 : decode cX0_judgeInstructions 3 = .ok (.aload_n 0, 1) := by decide +kernel
theorem dX0_judgeInstructions_4 : decode cX0_judgeInstructions 4 = .ok (.getfield 45, 3) := by decide +kernel
theorem dX0_judgeInstructions_7 : decode cX0_judgeInstructions 7 = .ok (.if_icmp .ge 16, 3) := by decide +kernel
theorem dX0_judgeInstructions_10 : decode cX0_judgeInstructions 10 = .ok (.aload_n 0, 1) := by decide +kernel
theorem dX0_judgeInstructions_11 : decode cX0_judgeInstructions 11 = .ok (.getfield 9, 3) := by decide +kernel
theorem dX0_judgeInstructions_14 : decode cX0_judgeInstructions 14 = .ok (.iload_n 1, 1) := by decide +kernel
theorem dX0_judgeInstructions_15 : decode cX0_judgeInstructions 15 = .ok (.iconst 0, 1) := by decide +kernel
theorem dX0_judgeInstructions_16 : decode cX0_judgeInstructions 16 = .ok (.bastore, 1) := by decide +kernel
theorem dX0_judgeInstructions_17 : decode cX0_judgeInstructions 17 = .ok (.iinc 1 1, 3) := by decide +kernel
theorem dX0_judgeInstructions_20 : decode cX0_judgeInstructions 20 = .ok (.goto (-18), 3) := by decide +kernel
theorem dX0_judgeInstructions_23 : decode cX0_judgeInstructions 23 = .ok (.iconst 0, 1) := by decide +kernel
theorem dX0_judgeInstructions_24 : decode cX0_judgeInstructions 24 = .ok (.istore_n 1, 1) := by decide +kernel
theorem dX0_judgeInstructions_25 : decode cX0_judgeInstructions 25 = .ok (.iload_n 1, 1) := by decide +kernel
theorem dX0_judgeInstructions_26 : decode cX0_judgeInstructions 26 = .ok (.aload_n 0, 1) := by decide +kernel
theorem dX0_judgeInstructions_27 : decode cX0_judgeInstructions 27 = .ok (.getfield 45, 3) := by decide +kernel
theorem dX0_judgeInstructions_30 : decode cX0_judgeInstructions 30 = .ok (.if_icmp .ge 98, 3) := by decide +kernel
theorem dX0_judgeInstructions_33 : decode cX0_judgeInstructions 33 = .ok (.aload_n 0, 1) := by decide +kernel
theorem dX0_judgeInstructions_34 : decode cX0_judgeInstructions 34 = .ok (.iload_n 1, 1) := by decide +kernel
theorem dX0_judgeInstructions_35 : decode cX0_judgeInstructions 35 = .ok (.invokevirtual 57, 3) := by decide +kernel
theorem dX0_judgeInstructions_38 : decode cX0_judgeInstructions 38 = .ok (.istore_n 2, 1) := by decide +kernel
theorem dX0_judgeInstructions_39 : decode cX0_judgeInstructions 39 = .ok (.iload_n 2, 1) := by decide +kernel
theorem dX0_judgeInstructions_40 : decode cX0_judgeInstructions 40 = .ok (.iconst 1, 1) := by decide +kernel
theorem dX0_judgeInstructions_41 : decode cX0_judgeInstructions 41 = .ok (.if_icmp .lt 13, 3) := by decide +kernel
theorem dX0_judgeInstructions_44 : decode cX0_judgeInstructions 44 = .ok (.iload_n 2, 1) := by decide +kernel
theorem dX0_judgeInstructions_45 : decode cX0_judgeInstructions 45 = .ok (.aload_n 0, 1) := by decide +kernel
theorem dX0_judgeInstructions_46 : decode cX0_judgeInstructions 46 = .ok (.getfield 45, 3) := by decide +kernel
theorem dX0_judgeInstructions_49 : decode cX0_judgeInstructions 49 = .ok (.iload_n 1, 1) := by decide +kernel
theorem dX0_judgeInstructions_50 : decode cX0_judgeInstructions 50 = .ok (.isub, 1) := by decide +kernel
theorem dX0_judgeInstructions_51 : decode cX0_judgeInstructions 51 = .ok (.if_icmp .le 19, 3) := by decide +kernel
theorem dX0_judgeInstructions_54 : decode cX0_judgeInstructions 54 = .ok (.aload_n 0, 1) := by decide +kernel
theorem dX0_judgeInstructions_55 : decode cX0_judgeInstructions 55 = .ok (.getfield 17, 3) := by decide +kernel
theorem dX0_judgeInstructions_58 : decode cX0_judgeInstructions 58 = .ok (.bipush 23, 2) := by decide +kernel
theorem dX0_judgeInstructions_60 : decode cX0_judgeInstructions 60 = .ok (.aload_n 0, 1) := by decide +kernel
theorem dX0_judgeInstructions_61 : decode cX0_judgeInstructions 61 = .ok (.getfield 48, 3) := by decide +kernel
theorem dX0_judgeInstructions_64 : decode cX0_judgeInstructions 64 = .ok (.iload_n 1, 1) := by decide +kernel
theorem dX0_judgeInstructions_65 : decode cX0_judgeInstructions 65 = .ok (.iadd, 1) := by decide +kernel
theorem dX0_judgeInstructions_66 : decode cX0_judgeInstructions 66 = .ok (.invokevirtual 60, 3) := by decide +kernel
theorem dX0_judgeInstructions_69 : decode cX0_judgeInstructions 69 = .ok (.ireturn, 1) := by decide +kernel
theorem dX0_judgeInstructions_70 : decode cX0_judgeInstructions 70 = .ok (.aload_n 0, 1) := by decide +kernel
theorem dX0_judgeInstructions_71 : decode cX0_judgeInstructions 71 = .ok (.iload_n 1, 1) := by decide +kernel
theorem dX0_judgeInstructions_72 : decode cX0_judgeInstructions 72 = .ok (.invokevirtual 64, 3) := by decide +kernel
theorem dX0_judgeInstructions_75 : decode cX0_judgeInstructions 75 = .ok (.ifCond .ne 19, 3) := by decide +kernel
theorem dX0_judgeInstructions_78 : decode cX0_judgeInstructions 78 = .ok (.aload_n 0, 1) := by decide +kernel
theorem dX0_judgeInstructions_79 : decode cX0_judgeInstructions 79 = .ok (.getfield 17, 3) := by decide +kernel
theorem dX0_judgeInstructions_82 : decode cX0_judgeInstructions 82 = .ok (.bipush 24, 2) := by decide +kernel
theorem dX0_judgeInstructions_84 : decode cX0_judgeInstructions 84 = .ok (.aload_n 0, 1) := by decide +kernel
theorem dX0_judgeInstructions_85 : decode cX0_judgeInstructions 85 = .ok (.getfield 48, 3) := by decide +kernel
theorem dX0_judgeInstructions_88 : decode cX0_judgeInstructions 88 = .ok (.iload_n 1, 1) := by decide +kernel
theorem dX0_judgeInstructions_89 : decode cX0_judgeInstructions 89 = .ok (.iadd, 1) := by decide +kernel
theorem dX0_judgeInstructions_90 : decode cX0_judgeInstructions 90 = .ok (.invokevirtual 60, 3) := by decide +kernel
theorem dX0_judgeInstructions_93 : decode cX0_judgeInstructions 93 = .ok (.ireturn, 1) := by decide +kernel
theorem dX0_judgeInstructions_94 : decode cX0_judgeInstructions 94 = .ok (.aload_n 0, 1) := by decide +kernel
theorem dX0_judgeInstructions_95 : decode cX0_judgeInstructions 95 = .ok (.getfield 9, 3) := by decide +kernel
theorem dX0_judgeInstructions_98 : decode cX0_judgeInstructions 98 = .ok (.iload_n 1, 1) := by decide +kernel
theorem dX0_judgeInstructions_99 : decode cX0_judgeInstructions 99 = .ok (.iconst 1, 1) := by decide +kernel
theorem dX0_judgeInstructions_100 : decode cX0_judgeInstructions 100 = .ok (.bastore, 1) := by decide +kernel
theorem dX0_judgeInstructions_101 : decode cX0_judgeInstructions 101 = .ok (.aload_n 0, 1) := by decide +kernel
theorem dX0_judgeInstructions_102 : decode cX0_judgeInstructions 102 = .ok (.getfield 13, 3) := by decide +kernel
theorem dX0_judgeInstructions_105 : decode cX0_judgeInstructions 105 = .ok (.aload_n 0, 1) := by decide +kernel
theorem dX0_judgeInstructions_106 : decode cX0_judgeInstructions 106 = .ok (.getfield 54, 3) := by decide +kernel
theorem dX0_judgeInstructions_109 : decode cX0_judgeInstructions 109 = .ok (.iload_n 1, 1) := by decide +kernel
theorem dX0_judgeInstructions_110 : decode cX0_judgeInstructions 110 = .ok (.iastore, 1) := by decide +kernel
theorem dX0_judgeInstructions_111 : decode cX0_judgeInstructions 111 = .ok (.aload_n 0, 1) := by decide +kernel
theorem dX0_judgeInstructions_112 : decode cX0_judgeInstructions 112 = .ok (.dup, 1) := by decide +kernel
theorem dX0_judgeInstructions_113 : decode cX0_judgeInstructions 113 = .ok (.getfield 54, 3) := by decide +kernel
theorem dX0_judgeInstructions_116 : decode cX0_judgeInstructions 116 = .ok (.iconst 1, 1) := by decide +kernel
theorem dX0_judgeInstructions_117 : decode cX0_judgeInstructions 117 = .ok (.iadd, 1) := by decide +kernel
theorem dX0_judgeInstructions_118 : decode cX0_judgeInstructions 118 = .ok (.putfield 54, 3) := by decide +kernel
theorem dX0_judgeInstructions_121 : decode cX0_judgeInstructions 121 = .ok (.iload_n 1, 1) := by decide +kernel
theorem dX0_judgeInstructions_122 : decode cX0_judgeInstructions 122 = .ok (.iload_n 2, 1) := by decide +kernel
theorem dX0_judgeInstructions_123 : decode cX0_judgeInstructions 123 = .ok (.iadd, 1) := by decide +kernel
theorem dX0_judgeInstructions_124 : decode cX0_judgeInstructions 124 = .ok (.istore_n 1, 1) := by decide +kernel
theorem dX0_judgeInstructions_125 : decode cX0_judgeInstructions 125 = .ok (.goto (-100), 3) := by decide +kernel
theorem dX0_judgeInstructions_128 : decode cX0_judgeInstructions 128 = .ok (.iconst 1, 1) := by decide +kernel
theorem dX0_judgeInstructions_129 : decode cX0_judgeInstructions 129 = .ok (.ireturn, 1) := by decide +kernel
theorem dX0_judgeJumps_0 : decode cX0_judgeJumps 0 = .ok (.iconst 0, 1) := by decide +kernel
theorem dX0_judgeJumps_1 : decode cX0_judgeJumps 1 = .ok (.istore_n 1, 1) := by decide +kernel
theorem dX0_judgeJumps_2 : decode cX0_judgeJumps 2 = .ok (.iload_n 1, 1) := by decide +kernel
theorem dX0_judgeJumps_3 : decode cX0_judgeJumps 3 = .ok (.aload_n 0, 1) := by decide +kernel
theorem dX0_judgeJumps_4 : decode cX0_judgeJumps 4 = .ok (.getfield 54, 3) := by decide +kernel
theorem dX0_judgeJumps_7 : decode cX0_judgeJumps 7 = .ok (.if_icmp .ge 43, 3) := by decide +kernel
theorem dX0_judgeJumps_10 : decode cX0_judgeJumps 10 = .ok (.aload_n 0, 1) := by decide +kernel
theorem dX0_judgeJumps_11 : decode cX0_judgeJumps 11 = .ok (.aload_n 0, 1) := by decide +kernel
theorem dX0_judgeJumps_12 : decode cX0_judgeJumps 12 = .ok (.getfield 13, 3) := by decide +kernel
theorem dX0_judgeJumps_15 : decode cX0_judgeJumps 15 = .ok (.iload_n 1, 1) := by decide +kernel
theorem dX0_judgeJumps_16 : decode cX0_judgeJumps 16 = .ok (.iaload, 1) := by decide +kernel
theorem dX0_judgeJumps_17 : decode cX0_judgeJumps 17 = .ok (.invokevirtual 68, 3) := by decide +kernel
theorem dX0_judgeJumps_20 : decode cX0_judgeJumps 20 = .ok (.ifCond .ne 24, 3) := by decide +kernel
theorem dX0_judgeJumps_23 : decode cX0_judgeJumps 23 = .ok (.aload_n 0, 1) := by decide +kernel
theorem dX0_judgeJumps_24 : decode cX0_judgeJumps 24 = .ok (.getfield 17, 3) := by decide +kernel
theorem dX0_judgeJumps_27 : decode cX0_judgeJumps 27 = .ok (.bipush 25, 2) := by decide +kernel
theorem dX0_judgeJumps_29 : decode cX0_judgeJumps 29 = .ok (.aload_n 0, 1) := by decide +kernel
theorem dX0_judgeJumps_30 : decode cX0_judgeJumps 30 = .ok (.getfield 48, 3) := by decide +kernel
theorem dX0_judgeJumps_33 : decode cX0_judgeJumps 33 = .ok (.aload_n 0, 1) := by decide +kernel
theorem dX0_judgeJumps_34 : decode cX0_judgeJumps 34 = .ok (.getfield 13, 3) := by decide +kernel
theorem dX0_judgeJumps_37 : decode cX0_judgeJumps 37 = .ok (.iload_n 1, 1) := by decide +kernel
theorem dX0_judgeJumps_38 : decode cX0_judgeJumps 38 = .ok (.iaload, 1) := by decide +kernel
theorem dX0_judgeJumps_39 : decode cX0_judgeJumps 39 = .ok (.iadd, 1) := by decide +kernel
theorem dX0_judgeJumps_40 : decode cX0_judgeJumps 40 = .ok (.invokevirtual 60, 3) := by decide +kernel
theorem dX0_judgeJumps_43 : decode cX0_judgeJumps 43 = .ok (.ireturn, 1) := by decide +kernel
theorem dX0_judgeJumps_44 : decode cX0_judgeJumps 44 = .ok (.iinc 1 1, 3) := by decide +kernel
theorem dX0_judgeJumps_47 : decode cX0_judgeJumps 47 = .ok (.goto (-45), 3) := by decide +kernel
theorem dX0_judgeJumps_50 : decode cX0_judgeJumps 50 = .ok (.iconst 1, 1) := by decide +kernel
theorem dX0_judgeJumps_51 : decode cX0_judgeJumps 51 = .ok (.ireturn, 1) := by decide +kernel
theorem dX0_judgeLast_0 : decode cX0_judgeLast 0 = .ok (.aload_n 0, 1) := by decide +kernel
theorem dX0_judgeLast_1 : decode cX0_judgeLast 1 = .ok (.getfield 13, 3) := by decide +kernel
theorem dX0_judgeLast_4 : decode cX0_judgeLast 4 = .ok (.aload_n 0, 1) := by decide +kernel
theorem dX0_judgeLast_5 : decode cX0_judgeLast 5 = .ok (.getfield 54, 3) := by decide +kernel
theorem dX0_judgeLast_8 : decode cX0_judgeLast 8 = .ok (.iconst 1, 1) := by decide +kernel
theorem dX0_judgeLast_9 : decode cX0_judgeLast 9 = .ok (.isub, 1) := by decide +kernel
theorem dX0_judgeLast_10 : decode cX0_judgeLast 10 = .ok (.iaload, 1) := by decide +kernel
theorem dX0_judgeLast_11 : decode cX0_judgeLast 11 = .ok (.istore_n 1, 1) := by decide +kernel
theorem dX0_judgeLast_12 : decode cX0_judgeLast 12 = .ok (.aload_n 0, 1) := by decide +kernel
theorem dX0_judgeLast_13 : decode cX0_judgeLast 13 = .ok (.getfield 27, 3) := by decide +kernel
theorem dX0_judgeLast_16 : decode cX0_judgeLast 16 = .ok (.getfield 71, 3) := by decide +kernel
theorem dX0_judgeLast_19 : decode cX0_judgeLast 19 = .ok (.aload_n 0, 1) := by decide +kernel
theorem dX0_judgeLast_20 : decode cX0_judgeLast 20 = .ok (.getfield 48, 3) := by decide +kernel
theorem dX0_judgeLast_23 : decode cX0_judgeLast 23 = .ok (.iload_n 1, 1) := by decide +kernel
theorem dX0_judgeLast_24 : decode cX0_judgeLast 24 = .ok (.iadd, 1) := by decide +kernel
theorem dX0_judgeLast_25 : decode cX0_judgeLast 25 = .ok (.iaload, 1) := by decide +kernel
theorem dX0_judgeLast_26 : decode cX0_judgeLast 26 = .ok (.lookupswitch 52 #[(167, 50), (170, 50), (172, 50), (177, 50), (191, 50)], 50) := by decide +kernel
theorem dX0_judgeLast_76 : decode cX0_judgeLast 76 = .ok (.iconst 1, 1) := by decide +kernel
theorem dX0_judgeLast_77 : decode cX0_judgeLast 77 = .ok (.ireturn, 1) := by decide +kernel
theorem dX0_judgeLast_78 : decode cX0_judgeLast 78 = .ok (.aload_n 0, 1) := by decide +kernel
theorem dX0_judgeLast_79 : decode cX0_judgeLast 79 = .ok (.getfield 17, 3) := by decide +kernel
theorem dX0_judgeLast_82 : decode cX0_judgeLast 82 = .ok (.bipush 26, 2) := by decide +kernel
theorem dX0_judgeLast_84 : decode cX0_judgeLast 84 = .ok (.aload_n 0, 1) := by decide +kernel
theorem dX0_judgeLast_85 : decode cX0_judgeLast 85 = .ok (.getfield 48, 3) := by decide +kernel
theorem dX0_judgeLast_88 : decode cX0_judgeLast 88 = .ok (.iload_n 1, 1) := by decide +kernel
theorem dX0_judgeLast_89 : decode cX0_judgeLast 89 = .ok (.iadd, 1) := by decide +kernel
theorem dX0_judgeLast_90 : decode cX0_judgeLast 90 = .ok (.invokevirtual 60, 3) := by decide +kernel
theorem dX0_judgeLast_93 : decode cX0_judgeLast 93 = .ok (.ireturn, 1) := by decide +kernel
theorem dX0_judgeHandlers_0 : decode cX0_judgeHandlers 0 = .ok (.iconst 0, 1) := by decide +kernel
theorem dX0_judgeHandlers_1 : decode cX0_judgeHandlers 1 = .ok (.istore_n 1, 1) := by decide +kernel
theorem dX0_judgeHandlers_2 : decode cX0_judgeHandlers 2 = .ok (.iload_n 1, 1) := by decide +kernel
theorem dX0_judgeHandlers_3 : decode cX0_judgeHandlers 3 = .ok (.aload_n 0, 1) := by decide +kernel
theorem dX0_judgeHandlers_4 : decode cX0_judgeHandlers 4 = .ok (.getfield 51, 3) := by decide +kernel
theorem dX0_judgeHandlers_7 : decode cX0_judgeHandlers 7 = .ok (.if_icmp .ge 45, 3) := by decide +kernel
theorem dX0_judgeHandlers_10 : decode cX0_judgeHandlers 10 = .ok (.aload_n 0, 1) := by decide +kernel
theorem dX0_judgeHandlers_11 : decode cX0_judgeHandlers 11 = .ok (.getfield 48, 3) := by decide +kernel
theorem dX0_judgeHandlers_14 : decode cX0_judgeHandlers 14 = .ok (.aload_n 0, 1) := by decide +kernel
theorem dX0_judgeHandlers_15 : decode cX0_judgeHandlers 15 = .ok (.getfield 45, 3) := by decide +kernel
theorem dX0_judgeHandlers_18 : decode cX0_judgeHandlers 18 = .ok (.iadd, 1) := by decide +kernel
theorem dX0_judgeHandlers_19 : decode cX0_judgeHandlers 19 = .ok (.iconst 2, 1) := by decide +kernel
theorem dX0_judgeHandlers_20 : decode cX0_judgeHandlers 20 = .ok (.iadd, 1) := by decide +kernel
theorem dX0_judgeHandlers_21 : decode cX0_judgeHandlers 21 = .ok (.iload_n 1, 1) := by decide +kernel
theorem dX0_judgeHandlers_22 : decode cX0_judgeHandlers 22 = .ok (.bipush 8, 2) := by decide +kernel
theorem dX0_judgeHandlers_24 : decode cX0_judgeHandlers 24 = .ok (.imul, 1) := by decide +kernel
theorem dX0_judgeHandlers_25 : decode cX0_judgeHandlers 25 = .ok (.iadd, 1) := by decide +kernel
theorem dX0_judgeHandlers_26 : decode cX0_judgeHandlers 26 = .ok (.istore_n 2, 1) := by decide +kernel
theorem dX0_judgeHandlers_27 : decode cX0_judgeHandlers 27 = .ok (.aload_n 0, 1) := by decide +kernel
theorem dX0_judgeHandlers_28 : decode cX0_judgeHandlers 28 = .ok (.iload_n 2, 1) := by decide +kernel
theorem dX0_judgeHandlers_29 : decode cX0_judgeHandlers 29 = .ok (.invokevirtual 74, 3) := by decide +kernel
theorem dX0_judgeHandlers_32 : decode cX0_judgeHandlers 32 = .ok (.ifCond .ne 14, 3) := by decide +kernel
theorem dX0_judgeHandlers_35 : decode cX0_judgeHandlers 35 = .ok (.aload_n 0, 1) := by decide +kernel
theorem dX0_judgeHandlers_36 : decode cX0_judgeHandlers 36 = .ok (.getfield 17, 3) := by decide +kernel
theorem dX0_judgeHandlers_39 : decode cX0_judgeHandlers 39 = .ok (.bipush 27, 2) := by decide +kernel
theorem dX0_judgeHandlers_41 : decode cX0_judgeHandlers 41 = .ok (.iload_n 2, 1) := by decide +kernel
theorem dX0_judgeHandlers_42 : decode cX0_judgeHandlers 42 = .ok (.invokevirtual 60, 3) := by decide +kernel
theorem dX0_judgeHandlers_45 : decode cX0_judgeHandlers 45 = .ok (.ireturn, 1) := by decide +kernel
theorem dX0_judgeHandlers_46 : decode cX0_judgeHandlers 46 = .ok (.iinc 1 1, 3) := by decide +kernel
theorem dX0_judgeHandlers_49 : decode cX0_judgeHandlers 49 = .ok (.goto (-47), 3) := by decide +kernel
theorem dX0_judgeHandlers_52 : decode cX0_judgeHandlers 52 = .ok (.iconst 1, 1) := by decide +kernel
theorem dX0_judgeHandlers_53 : decode cX0_judgeHandlers 53 = .ok (.ireturn, 1) := by decide +kernel
theorem dX0_sizeOf_0 : decode cX0_sizeOf 0 = .ok (.aload_n 0, 1) := by decide +kernel
theorem dX0_sizeOf_1 : decode cX0_sizeOf 1 = .ok (.getfield 27, 3) := by decide +kernel
theorem dX0_sizeOf_4 : decode cX0_sizeOf 4 = .ok (.getfield 71, 3) := by decide +kernel
theorem dX0_sizeOf_7 : decode cX0_sizeOf 7 = .ok (.aload_n 0, 1) := by decide +kernel
theorem dX0_sizeOf_8 : decode cX0_sizeOf 8 = .ok (.getfield 48, 3) := by decide +kernel
theorem dX0_sizeOf_11 : decode cX0_sizeOf 11 = .ok (.iload_n 1, 1) := by decide +kernel
theorem dX0_sizeOf_12 : decode cX0_sizeOf 12 = .ok (.iadd, 1) := by decide +kernel
theorem dX0_sizeOf_13 : decode cX0_sizeOf 13 = .ok (.iaload, 1) := by decide +kernel
theorem dX0_sizeOf_14 : decode cX0_sizeOf 14 = .ok (.lookupswitch 180 #[(0, 162), (1, 162), (3, 162), (16, 164), (17, 166), (18, 164), (21, 164), (54, 164), (87, 162), (96, 162), (132, 166), (153, 166), (167, 166), (170, 168), (172, 162), (177, 162), (184, 166), (191, 162), (196, 174)], 162) := by decide +kernel
theorem dX0_sizeOf_176 : decode cX0_sizeOf 176 = .ok (.iconst 1, 1) := by decide +kernel
theorem dX0_sizeOf_177 : decode cX0_sizeOf 177 = .ok (.ireturn, 1) := by decide +kernel
theorem dX0_sizeOf_178 : decode cX0_sizeOf 178 = .ok (.iconst 2, 1) := by decide +kernel
theorem dX0_sizeOf_179 : decode cX0_sizeOf 179 = .ok (.ireturn, 1) := by decide +kernel
theorem dX0_sizeOf_180 : decode cX0_sizeOf 180 = .ok (.iconst 3, 1) := by decide +kernel
theorem dX0_sizeOf_181 : decode cX0_sizeOf 181 = .ok (.ireturn, 1) := by decide +kernel
theorem dX0_sizeOf_182 : decode cX0_sizeOf 182 = .ok (.aload_n 0, 1) := by decide +kernel
theorem dX0_sizeOf_183 : decode cX0_sizeOf 183 = .ok (.iload_n 1, 1) := by decide +kernel
theorem dX0_sizeOf_184 : decode cX0_sizeOf 184 = .ok (.invokevirtual 77, 3) := by decide +kernel
theorem dX0_sizeOf_187 : decode cX0_sizeOf 187 = .ok (.ireturn, 1) := by decide +kernel
theorem dX0_sizeOf_188 : decode cX0_sizeOf 188 = .ok (.aload_n 0, 1) := by decide +kernel
theorem dX0_sizeOf_189 : decode cX0_sizeOf 189 = .ok (.iload_n 1, 1) := by decide +kernel
theorem dX0_sizeOf_190 : decode cX0_sizeOf 190 = .ok (.invokevirtual 80, 3) := by decide +kernel
theorem dX0_sizeOf_193 : decode cX0_sizeOf 193 = .ok (.ireturn, 1) := by decide +kernel
theorem dX0_sizeOf_194 : decode cX0_sizeOf 194 = .ok (.iconst 0, 1) := by decide +kernel
theorem dX0_sizeOf_195 : decode cX0_sizeOf 195 = .ok (.ireturn, 1) := by decide +kernel
theorem dX0_wideSize_0 : decode cX0_wideSize 0 = .ok (.iload_n 1, 1) := by decide +kernel
theorem dX0_wideSize_1 : decode cX0_wideSize 1 = .ok (.iconst 1, 1) := by decide +kernel
theorem dX0_wideSize_2 : decode cX0_wideSize 2 = .ok (.iadd, 1) := by decide +kernel
theorem dX0_wideSize_3 : decode cX0_wideSize 3 = .ok (.aload_n 0, 1) := by decide +kernel
theorem dX0_wideSize_4 : decode cX0_wideSize 4 = .ok (.getfield 45, 3) := by decide +kernel
theorem dX0_wideSize_7 : decode cX0_wideSize 7 = .ok (.if_icmp .lt 5, 3) := by decide +kernel
theorem dX0_wideSize_10 : decode cX0_wideSize 10 = .ok (.iconst 0, 1) := by decide +kernel
theorem dX0_wideSize_11 : decode cX0_wideSize 11 = .ok (.ireturn, 1) := by decide +kernel
theorem dX0_wideSize_12 : decode cX0_wideSize 12 = .ok (.aload_n 0, 1) := by decide +kernel
theorem dX0_wideSize_13 : decode cX0_wideSize 13 = .ok (.getfield 27, 3) := by decide +kernel
theorem dX0_wideSize_16 : decode cX0_wideSize 16 = .ok (.getfield 71, 3) := by decide +kernel
theorem dX0_wideSize_19 : decode cX0_wideSize 19 = .ok (.aload_n 0, 1) := by decide +kernel
theorem dX0_wideSize_20 : decode cX0_wideSize 20 = .ok (.getfield 48, 3) := by decide +kernel
theorem dX0_wideSize_23 : decode cX0_wideSize 23 = .ok (.iload_n 1, 1) := by decide +kernel
theorem dX0_wideSize_24 : decode cX0_wideSize 24 = .ok (.iadd, 1) := by decide +kernel
theorem dX0_wideSize_25 : decode cX0_wideSize 25 = .ok (.iconst 1, 1) := by decide +kernel
theorem dX0_wideSize_26 : decode cX0_wideSize 26 = .ok (.iadd, 1) := by decide +kernel
theorem dX0_wideSize_27 : decode cX0_wideSize 27 = .ok (.iaload, 1) := by decide +kernel
theorem dX0_wideSize_28 : decode cX0_wideSize 28 = .ok (.lookupswitch 41 #[(21, 36), (54, 36), (132, 38)], 36) := by decide +kernel
theorem dX0_wideSize_64 : decode cX0_wideSize 64 = .ok (.iconst 4, 1) := by decide +kernel
theorem dX0_wideSize_65 : decode cX0_wideSize 65 = .ok (.ireturn, 1) := by decide +kernel
theorem dX0_wideSize_66 : decode cX0_wideSize 66 = .ok (.bipush 6, 2) := by decide +kernel
theorem dX0_wideSize_68 : decode cX0_wideSize 68 = .ok (.ireturn, 1) := by decide +kernel
theorem dX0_wideSize_69 : decode cX0_wideSize 69 = .ok (.iconst 0, 1) := by decide +kernel
theorem dX0_wideSize_70 : decode cX0_wideSize 70 = .ok (.ireturn, 1) := by decide +kernel
theorem dX0_tableSize_0 : decode cX0_tableSize 0 = .ok (.iload_n 1, 1) := by decide +kernel
theorem dX0_tableSize_1 : decode cX0_tableSize 1 = .ok (.invokestatic 83, 3) := by decide +kernel
theorem dX0_tableSize_4 : decode cX0_tableSize 4 = .ok (.istore_n 2, 1) := by decide +kernel
theorem dX0_tableSize_5 : decode cX0_tableSize 5 = .ok (.iload_n 2, 1) := by decide +kernel
theorem dX0_tableSize_6 : decode cX0_tableSize 6 = .ok (.bipush 12, 2) := by decide +kernel
theorem dX0_tableSize_8 : decode cX0_tableSize 8 = .ok (.iadd, 1) := by decide +kernel
theorem dX0_tableSize_9 : decode cX0_tableSize 9 = .ok (.aload_n 0, 1) := by decide +kernel
theorem dX0_tableSize_10 : decode cX0_tableSize 10 = .ok (.getfield 45, 3) := by decide +kernel
theorem dX0_tableSize_13 : decode cX0_tableSize 13 = .ok (.if_icmp .le 5, 3) := by decide +kernel
theorem dX0_tableSize_16 : decode cX0_tableSize 16 = .ok (.iconst 0, 1) := by decide +kernel
theorem dX0_tableSize_17 : decode cX0_tableSize 17 = .ok (.ireturn, 1) := by decide +kernel
theorem dX0_tableSize_18 : decode cX0_tableSize 18 = .ok (.aload_n 0, 1) := by decide +kernel
theorem dX0_tableSize_19 : decode cX0_tableSize 19 = .ok (.getfield 27, 3) := by decide +kernel
theorem dX0_tableSize_22 : decode cX0_tableSize 22 = .ok (.aload_n 0, 1) := by decide +kernel
theorem dX0_tableSize_23 : decode cX0_tableSize 23 = .ok (.getfield 48, 3) := by decide +kernel
theorem dX0_tableSize_26 : decode cX0_tableSize 26 = .ok (.iload_n 2, 1) := by decide +kernel
theorem dX0_tableSize_27 : decode cX0_tableSize 27 = .ok (.iadd, 1) := by decide +kernel
theorem dX0_tableSize_28 : decode cX0_tableSize 28 = .ok (.iconst 4, 1) := by decide +kernel
theorem dX0_tableSize_29 : decode cX0_tableSize 29 = .ok (.iadd, 1) := by decide +kernel
theorem dX0_tableSize_30 : decode cX0_tableSize 30 = .ok (.invokevirtual 42, 3) := by decide +kernel
theorem dX0_tableSize_33 : decode cX0_tableSize 33 = .ok (.i2l, 1) := by decide +kernel
theorem dX0_tableSize_34 : decode cX0_tableSize 34 = .ok (.lstore_n 3, 1) := by decide +kernel
theorem dX0_tableSize_35 : decode cX0_tableSize 35 = .ok (.aload_n 0, 1) := by decide +kernel
theorem dX0_tableSize_36 : decode cX0_tableSize 36 = .ok (.getfield 27, 3) := by decide +kernel
theorem dX0_tableSize_39 : decode cX0_tableSize 39 = .ok (.aload_n 0, 1) := by decide +kernel
theorem dX0_tableSize_40 : decode cX0_tableSize 40 = .ok (.getfield 48, 3) := by decide +kernel
theorem dX0_tableSize_43 : decode cX0_tableSize 43 = .ok (.iload_n 2, 1) := by decide +kernel
theorem dX0_tableSize_44 : decode cX0_tableSize 44 = .ok (.iadd, 1) := by decide +kernel
theorem dX0_tableSize_45 : decode cX0_tableSize 45 = .ok (.bipush 8, 2) := by decide +kernel
theorem dX0_tableSize_47 : decode cX0_tableSize 47 = .ok (.iadd, 1) := by decide +kernel
theorem dX0_tableSize_48 : decode cX0_tableSize 48 = .ok (.invokevirtual 42, 3) := by decide +kernel
theorem dX0_tableSize_51 : decode cX0_tableSize 51 = .ok (.i2l, 1) := by decide +kernel
theorem dX0_tableSize_52 : decode cX0_tableSize 52 = .ok (.lstore 5, 2) := by decide +kernel
theorem dX0_tableSize_54 : decode cX0_tableSize 54 = .ok (.lload_n 3, 1) := by decide +kernel
theorem dX0_tableSize_55 : decode cX0_tableSize 55 = .ok (.lload 5, 2) := by decide +kernel
theorem dX0_tableSize_57 : decode cX0_tableSize 57 = .ok (.lcmp, 1) := by decide +kernel
theorem dX0_tableSize_58 : decode cX0_tableSize 58 = .ok (.ifCond .gt 14, 3) := by decide +kernel
theorem dX0_tableSize_61 : decode cX0_tableSize 61 = .ok (.lload 5, 2) := by decide +kernel
theorem dX0_tableSize_63 : decode cX0_tableSize 63 = .ok (.lload_n 3, 1) := by decide +kernel
theorem dX0_tableSize_64 : decode cX0_tableSize 64 = .ok (.lsub, 1) := by decide +kernel
theorem dX0_tableSize_65 : decode cX0_tableSize 65 = .ok (.ldc2_w 86, 3) := by decide +kernel
theorem dX0_tableSize_68 : decode cX0_tableSize 68 = .ok (.lcmp, 1) := by decide +kernel
theorem dX0_tableSize_69 : decode cX0_tableSize 69 = .ok (.ifCond .lt 5, 3) := by decide +kernel
theorem dX0_tableSize_72 : decode cX0_tableSize 72 = .ok (.iconst 0, 1) := by decide +kernel
theorem dX0_tableSize_73 : decode cX0_tableSize 73 = .ok (.ireturn, 1) := by decide +kernel
theorem dX0_tableSize_74 : decode cX0_tableSize 74 = .ok (.iload_n 2, 1) := by decide +kernel
theorem dX0_tableSize_75 : decode cX0_tableSize 75 = .ok (.bipush 12, 2) := by decide +kernel
theorem dX0_tableSize_77 : decode cX0_tableSize 77 = .ok (.iadd, 1) := by decide +kernel
theorem dX0_tableSize_78 : decode cX0_tableSize 78 = .ok (.iconst 4, 1) := by decide +kernel
theorem dX0_tableSize_79 : decode cX0_tableSize 79 = .ok (.lload 5, 2) := by decide +kernel
theorem dX0_tableSize_81 : decode cX0_tableSize 81 = .ok (.lload_n 3, 1) := by decide +kernel
theorem dX0_tableSize_82 : decode cX0_tableSize 82 = .ok (.lsub, 1) := by decide +kernel
theorem dX0_tableSize_83 : decode cX0_tableSize 83 = .ok (.lconst 1, 1) := by decide +kernel
theorem dX0_tableSize_84 : decode cX0_tableSize 84 = .ok (.ladd, 1) := by decide +kernel
theorem dX0_tableSize_85 : decode cX0_tableSize 85 = .ok (.l2i, 1) := by decide +kernel
theorem dX0_tableSize_86 : decode cX0_tableSize 86 = .ok (.imul, 1) := by decide +kernel
theorem dX0_tableSize_87 : decode cX0_tableSize 87 = .ok (.iadd, 1) := by decide +kernel
theorem dX0_tableSize_88 : decode cX0_tableSize 88 = .ok (.iload_n 1, 1) := by decide +kernel
theorem dX0_tableSize_89 : decode cX0_tableSize 89 = .ok (.isub, 1) := by decide +kernel
theorem dX0_tableSize_90 : decode cX0_tableSize 90 = .ok (.ireturn, 1) := by decide +kernel
theorem dX0_tableOf_0 : decode cX0_tableOf 0 = .ok (.iload_n 0, 1) := by decide +kernel
theorem dX0_tableOf_1 : decode cX0_tableOf 1 = .ok (.iconst 4, 1) := by decide +kernel
theorem dX0_tableOf_2 : decode cX0_tableOf 2 = .ok (.iadd, 1) := by decide +kernel
theorem dX0_tableOf_3 : decode cX0_tableOf 3 = .ok (.iconst 4, 1) := by decide +kernel
theorem dX0_tableOf_4 : decode cX0_tableOf 4 = .ok (.idiv, 1) := by decide +kernel
theorem dX0_tableOf_5 : decode cX0_tableOf 5 = .ok (.iconst 4, 1) := by decide +kernel
theorem dX0_tableOf_6 : decode cX0_tableOf 6 = .ok (.imul, 1) := by decide +kernel
theorem dX0_tableOf_7 : decode cX0_tableOf 7 = .ok (.ireturn, 1) := by decide +kernel
theorem dX0_operandsFit_0 : decode cX0_operandsFit 0 = .ok (.aload_n 0, 1) := by decide +kernel
theorem dX0_operandsFit_1 : decode cX0_operandsFit 1 = .ok (.getfield 48, 3) := by decide +kernel
theorem dX0_operandsFit_4 : decode cX0_operandsFit 4 = .ok (.iload_n 1, 1) := by decide +kernel
theorem dX0_operandsFit_5 : decode cX0_operandsFit 5 = .ok (.iadd, 1) := by decide +kernel
theorem dX0_operandsFit_6 : decode cX0_operandsFit 6 = .ok (.iconst 1, 1) := by decide +kernel
theorem dX0_operandsFit_7 : decode cX0_operandsFit 7 = .ok (.iadd, 1) := by decide +kernel
theorem dX0_operandsFit_8 : decode cX0_operandsFit 8 = .ok (.istore_n 2, 1) := by decide +kernel
theorem dX0_operandsFit_9 : decode cX0_operandsFit 9 = .ok (.aload_n 0, 1) := by decide +kernel
theorem dX0_operandsFit_10 : decode cX0_operandsFit 10 = .ok (.getfield 27, 3) := by decide +kernel
theorem dX0_operandsFit_13 : decode cX0_operandsFit 13 = .ok (.getfield 71, 3) := by decide +kernel
theorem dX0_operandsFit_16 : decode cX0_operandsFit 16 = .ok (.aload_n 0, 1) := by decide +kernel
theorem dX0_operandsFit_17 : decode cX0_operandsFit 17 = .ok (.getfield 48, 3) := by decide +kernel
theorem dX0_operandsFit_20 : decode cX0_operandsFit 20 = .ok (.iload_n 1, 1) := by decide +kernel
theorem dX0_operandsFit_21 : decode cX0_operandsFit 21 = .ok (.iadd, 1) := by decide +kernel
theorem dX0_operandsFit_22 : decode cX0_operandsFit 22 = .ok (.iaload, 1) := by decide +kernel
theorem dX0_operandsFit_23 : decode cX0_operandsFit 23 = .ok (.lookupswitch 175 #[(18, 57), (21, 104), (54, 104), (132, 104), (184, 126), (196, 152)], 57) := by decide +kernel
theorem dX0_operandsFit_80 : decode cX0_operandsFit 80 = .ok (.aload_n 0, 1) := by decide +kernel
theorem dX0_operandsFit_81 : decode cX0_operandsFit 81 = .ok (.getfield 28, 3) := by decide +kernel
theorem dX0_operandsFit_84 : decode cX0_operandsFit 84 = .ok (.aload_n 0, 1) := by decide +kernel
theorem dX0_operandsFit_85 : decode cX0_operandsFit 85 = .ok (.getfield 27, 3) := by decide +kernel
theorem dX0_operandsFit_88 : decode cX0_operandsFit 88 = .ok (.getfield 71, 3) := by decide +kernel
theorem dX0_operandsFit_91 : decode cX0_operandsFit 91 = .ok (.iload_n 2, 1) := by decide +kernel
theorem dX0_operandsFit_92 : decode cX0_operandsFit 92 = .ok (.iaload, 1) := by decide +kernel
theorem dX0_operandsFit_93 : decode cX0_operandsFit 93 = .ok (.invokevirtual 88, 3) := by decide +kernel
theorem dX0_operandsFit_96 : decode cX0_operandsFit 96 = .ok (.iconst 3, 1) := by decide +kernel
theorem dX0_operandsFit_97 : decode cX0_operandsFit 97 = .ok (.if_icmp .eq 24, 3) := by decide +kernel
theorem dX0_operandsFit_100 : decode cX0_operandsFit 100 = .ok (.aload_n 0, 1) := by decide +kernel
theorem dX0_operandsFit_101 : decode cX0_operandsFit 101 = .ok (.getfield 28, 3) := by decide +kernel
theorem dX0_operandsFit_104 : decode cX0_operandsFit 104 = .ok (.aload_n 0, 1) := by decide +kernel
theorem dX0_operandsFit_105 : decode cX0_operandsFit 105 = .ok (.getfield 27, 3) := by decide +kernel
theorem dX0_operandsFit_108 : decode cX0_operandsFit 108 = .ok (.getfield 71, 3) := by decide +kernel
theorem dX0_operandsFit_111 : decode cX0_operandsFit 111 = .ok (.iload_n 2, 1) := by decide +kernel
theorem dX0_operandsFit_112 : decode cX0_operandsFit 112 = .ok (.iaload, 1) := by decide +kernel
theorem dX0_operandsFit_113 : decode cX0_operandsFit 113 = .ok (.invokevirtual 88, 3) := by decide +kernel
theorem dX0_operandsFit_116 : decode cX0_operandsFit 116 = .ok (.bipush 8, 2) := by decide +kernel
theorem dX0_operandsFit_118 : decode cX0_operandsFit 118 = .ok (.if_icmp .ne 7, 3) := by decide +kernel
theorem dX0_operandsFit_121 : decode cX0_operandsFit 121 = .ok (.iconst 1, 1) := by decide +kernel
theorem dX0_operandsFit_122 : decode cX0_operandsFit 122 = .ok (.goto 4, 3) := by decide +kernel
theorem dX0_operandsFit_125 : decode cX0_operandsFit 125 = .ok (.iconst 0, 1) := by decide +kernel
theorem dX0_operandsFit_126 : decode cX0_operandsFit 126 = .ok (.ireturn, 1) := by decide +kernel
theorem dX0_operandsFit_127 : decode cX0_operandsFit 127 = .ok (.aload_n 0, 1) := by decide +kernel
theorem dX0_operandsFit_128 : decode cX0_operandsFit 128 = .ok (.getfield 27, 3) := by decide +kernel
theorem dX0_operandsFit_131 : decode cX0_operandsFit 131 = .ok (.getfield 71, 3) := by decide +kernel
theorem dX0_operandsFit_134 : decode cX0_operandsFit 134 = .ok (.iload_n 2, 1) := by decide +kernel
theorem dX0_operandsFit_135 : decode cX0_operandsFit 135 = .ok (.iaload, 1) := by decide +kernel
theorem dX0_operandsFit_136 : decode cX0_operandsFit 136 = .ok (.aload_n 0, 1) := by decide +kernel
theorem dX0_operandsFit_137 : decode cX0_operandsFit 137 = .ok (.getfield 38, 3) := by decide +kernel
theorem dX0_operandsFit_140 : decode cX0_operandsFit 140 = .ok (.if_icmp .ge 7, 3) := by decide +kernel
theorem dX0_operandsFit_143 : decode cX0_operandsFit 143 = .ok (.iconst 1, 1) := by decide +kernel
theorem dX0_operandsFit_144 : decode cX0_operandsFit 144 = .ok (.goto 4, 3) := by decide +kernel
theorem dX0_operandsFit_147 : decode cX0_operandsFit 147 = .ok (.iconst 0, 1) := by decide +kernel
theorem dX0_operandsFit_148 : decode cX0_operandsFit 148 = .ok (.ireturn, 1) := by decide +kernel
theorem dX0_operandsFit_149 : decode cX0_operandsFit 149 = .ok (.aload_n 0, 1) := by decide +kernel
theorem dX0_operandsFit_150 : decode cX0_operandsFit 150 = .ok (.getfield 28, 3) := by decide +kernel
theorem dX0_operandsFit_153 : decode cX0_operandsFit 153 = .ok (.aload_n 0, 1) := by decide +kernel
theorem dX0_operandsFit_154 : decode cX0_operandsFit 154 = .ok (.getfield 27, 3) := by decide +kernel
theorem dX0_operandsFit_157 : decode cX0_operandsFit 157 = .ok (.iload_n 2, 1) := by decide +kernel
theorem dX0_operandsFit_158 : decode cX0_operandsFit 158 = .ok (.invokevirtual 32, 3) := by decide +kernel
theorem dX0_operandsFit_161 : decode cX0_operandsFit 161 = .ok (.invokevirtual 88, 3) := by decide +kernel
theorem dX0_operandsFit_164 : decode cX0_operandsFit 164 = .ok (.bipush 10, 2) := by decide +kernel
theorem dX0_operandsFit_166 : decode cX0_operandsFit 166 = .ok (.if_icmp .ne 7, 3) := by decide +kernel
theorem dX0_operandsFit_169 : decode cX0_operandsFit 169 = .ok (.iconst 1, 1) := by decide +kernel
theorem dX0_operandsFit_170 : decode cX0_operandsFit 170 = .ok (.goto 4, 3) := by decide +kernel
theorem dX0_operandsFit_173 : decode cX0_operandsFit 173 = .ok (.iconst 0, 1) := by decide +kernel
theorem dX0_operandsFit_174 : decode cX0_operandsFit 174 = .ok (.ireturn, 1) := by decide +kernel
theorem dX0_operandsFit_175 : decode cX0_operandsFit 175 = .ok (.aload_n 0, 1) := by decide +kernel
theorem dX0_operandsFit_176 : decode cX0_operandsFit 176 = .ok (.getfield 27, 3) := by decide +kernel
theorem dX0_operandsFit_179 : decode cX0_operandsFit 179 = .ok (.iload_n 2, 1) := by decide +kernel
theorem dX0_operandsFit_180 : decode cX0_operandsFit 180 = .ok (.iconst 1, 1) := by decide +kernel
theorem dX0_operandsFit_181 : decode cX0_operandsFit 181 = .ok (.iadd, 1) := by decide +kernel
theorem dX0_operandsFit_182 : decode cX0_operandsFit 182 = .ok (.invokevirtual 32, 3) := by decide +kernel
theorem dX0_operandsFit_185 : decode cX0_operandsFit 185 = .ok (.aload_n 0, 1) := by decide +kernel
theorem dX0_operandsFit_186 : decode cX0_operandsFit 186 = .ok (.getfield 38, 3) := by decide +kernel
theorem dX0_operandsFit_189 : decode cX0_operandsFit 189 = .ok (.if_icmp .ge 7, 3) := by decide +kernel
theorem dX0_operandsFit_192 : decode cX0_operandsFit 192 = .ok (.iconst 1, 1) := by decide +kernel
theorem dX0_operandsFit_193 : decode cX0_operandsFit 193 = .ok (.goto 4, 3) := by decide +kernel
theorem dX0_operandsFit_196 : decode cX0_operandsFit 196 = .ok (.iconst 0, 1) := by decide +kernel
theorem dX0_operandsFit_197 : decode cX0_operandsFit 197 = .ok (.ireturn, 1) := by decide +kernel
theorem dX0_operandsFit_198 : decode cX0_operandsFit 198 = .ok (.iconst 1, 1) := by decide +kernel
theorem dX0_operandsFit_199 : decode cX0_operandsFit 199 = .ok (.ireturn, 1) := by decide +kernel
theorem dX0_jumpsFit_0 : decode cX0_jumpsFit 0 = .ok (.aload_n 0, 1) := by decide +kernel
theorem dX0_jumpsFit_1 : decode cX0_jumpsFit 1 = .ok (.getfield 27, 3) := by decide +kernel
theorem dX0_jumpsFit_4 : decode cX0_jumpsFit 4 = .ok (.getfield 71, 3) := by decide +kernel
theorem dX0_jumpsFit_7 : decode cX0_jumpsFit 7 = .ok (.aload_n 0, 1) := by decide +kernel
theorem dX0_jumpsFit_8 : decode cX0_jumpsFit 8 = .ok (.getfield 48, 3) := by decide +kernel
theorem dX0_jumpsFit_11 : decode cX0_jumpsFit 11 = .ok (.iload_n 1, 1) := by decide +kernel
theorem dX0_jumpsFit_12 : decode cX0_jumpsFit 12 = .ok (.iadd, 1) := by decide +kernel
theorem dX0_jumpsFit_13 : decode cX0_jumpsFit 13 = .ok (.iaload, 1) := by decide +kernel
theorem dX0_jumpsFit_14 : decode cX0_jumpsFit 14 = .ok (.lookupswitch 64 #[(153, 34), (167, 34), (170, 58)], 34) := by decide +kernel
theorem dX0_jumpsFit_48 : decode cX0_jumpsFit 48 = .ok (.aload_n 0, 1) := by decide +kernel
theorem dX0_jumpsFit_49 : decode cX0_jumpsFit 49 = .ok (.iload_n 1, 1) := by decide +kernel
theorem dX0_jumpsFit_50 : decode cX0_jumpsFit 50 = .ok (.aload_n 0, 1) := by decide +kernel
theorem dX0_jumpsFit_51 : decode cX0_jumpsFit 51 = .ok (.getfield 27, 3) := by decide +kernel
theorem dX0_jumpsFit_54 : decode cX0_jumpsFit 54 = .ok (.aload_n 0, 1) := by decide +kernel
theorem dX0_jumpsFit_55 : decode cX0_jumpsFit 55 = .ok (.getfield 48, 3) := by decide +kernel
theorem dX0_jumpsFit_58 : decode cX0_jumpsFit 58 = .ok (.iload_n 1, 1) := by decide +kernel
theorem dX0_jumpsFit_59 : decode cX0_jumpsFit 59 = .ok (.iadd, 1) := by decide +kernel
theorem dX0_jumpsFit_60 : decode cX0_jumpsFit 60 = .ok (.iconst 1, 1) := by decide +kernel
theorem dX0_jumpsFit_61 : decode cX0_jumpsFit 61 = .ok (.iadd, 1) := by decide +kernel
theorem dX0_jumpsFit_62 : decode cX0_jumpsFit 62 = .ok (.invokevirtual 32, 3) := by decide +kernel
theorem dX0_jumpsFit_65 : decode cX0_jumpsFit 65 = .ok (.i2s, 1) := by decide +kernel
theorem dX0_jumpsFit_66 : decode cX0_jumpsFit 66 = .ok (.iadd, 1) := by decide +kernel
theorem dX0_jumpsFit_67 : decode cX0_jumpsFit 67 = .ok (.i2l, 1) := by decide +kernel
theorem dX0_jumpsFit_68 : decode cX0_jumpsFit 68 = .ok (.invokevirtual 93, 3) := by decide +kernel
theorem dX0_jumpsFit_71 : decode cX0_jumpsFit 71 = .ok (.ireturn, 1) := by decide +kernel
theorem dX0_jumpsFit_72 : decode cX0_jumpsFit 72 = .ok (.aload_n 0, 1) := by decide +kernel
theorem dX0_jumpsFit_73 : decode cX0_jumpsFit 73 = .ok (.iload_n 1, 1) := by decide +kernel
theorem dX0_jumpsFit_74 : decode cX0_jumpsFit 74 = .ok (.invokevirtual 97, 3) := by decide +kernel
theorem dX0_jumpsFit_77 : decode cX0_jumpsFit 77 = .ok (.ireturn, 1) := by decide +kernel
theorem dX0_jumpsFit_78 : decode cX0_jumpsFit 78 = .ok (.iconst 1, 1) := by decide +kernel
theorem dX0_jumpsFit_79 : decode cX0_jumpsFit 79 = .ok (.ireturn, 1) := by decide +kernel
theorem dX0_tableFits_0 : decode cX0_tableFits 0 = .ok (.aload_n 0, 1) := by decide +kernel
theorem dX0_tableFits_1 : decode cX0_tableFits 1 = .ok (.getfield 48, 3) := by decide +kernel
theorem dX0_tableFits_4 : decode cX0_tableFits 4 = .ok (.iload_n 1, 1) := by decide +kernel
theorem dX0_tableFits_5 : decode cX0_tableFits 5 = .ok (.invokestatic 83, 3) := by decide +kernel
theorem dX0_tableFits_8 : decode cX0_tableFits 8 = .ok (.iadd, 1) := by decide +kernel
theorem dX0_tableFits_9 : decode cX0_tableFits 9 = .ok (.istore_n 2, 1) := by decide +kernel
theorem dX0_tableFits_10 : decode cX0_tableFits 10 = .ok (.aload_n 0, 1) := by decide +kernel
theorem dX0_tableFits_11 : decode cX0_tableFits 11 = .ok (.iload_n 1, 1) := by decide +kernel
theorem dX0_tableFits_12 : decode cX0_tableFits 12 = .ok (.i2l, 1) := by decide +kernel
theorem dX0_tableFits_13 : decode cX0_tableFits 13 = .ok (.aload_n 0, 1) := by decide +kernel
theorem dX0_tableFits_14 : decode cX0_tableFits 14 = .ok (.getfield 27, 3) := by decide +kernel
theorem dX0_tableFits_17 : decode cX0_tableFits 17 = .ok (.iload_n 2, 1) := by decide +kernel
theorem dX0_tableFits_18 : decode cX0_tableFits 18 = .ok (.invokevirtual 42, 3) := by decide +kernel
theorem dX0_tableFits_21 : decode cX0_tableFits 21 = .ok (.i2l, 1) := by decide +kernel
theorem dX0_tableFits_22 : decode cX0_tableFits 22 = .ok (.ladd, 1) := by decide +kernel
theorem dX0_tableFits_23 : decode cX0_tableFits 23 = .ok (.invokevirtual 93, 3) := by decide +kernel
theorem dX0_tableFits_26 : decode cX0_tableFits 26 = .ok (.ifCond .ne 5, 3) := by decide +kernel
theorem dX0_tableFits_29 : decode cX0_tableFits 29 = .ok (.iconst 0, 1) := by decide +kernel
theorem dX0_tableFits_30 : decode cX0_tableFits 30 = .ok (.ireturn, 1) := by decide +kernel
theorem dX0_tableFits_31 : decode cX0_tableFits 31 = .ok (.aload_n 0, 1) := by decide +kernel
theorem dX0_tableFits_32 : decode cX0_tableFits 32 = .ok (.getfield 27, 3) := by decide +kernel
theorem dX0_tableFits_35 : decode cX0_tableFits 35 = .ok (.iload_n 2, 1) := by decide +kernel
theorem dX0_tableFits_36 : decode cX0_tableFits 36 = .ok (.bipush 8, 2) := by decide +kernel
theorem dX0_tableFits_38 : decode cX0_tableFits 38 = .ok (.iadd, 1) := by decide +kernel
theorem dX0_tableFits_39 : decode cX0_tableFits 39 = .ok (.invokevirtual 42, 3) := by decide +kernel
theorem dX0_tableFits_42 : decode cX0_tableFits 42 = .ok (.aload_n 0, 1) := by decide +kernel
theorem dX0_tableFits_43 : decode cX0_tableFits 43 = .ok (.getfield 27, 3) := by decide +kernel
theorem dX0_tableFits_46 : decode cX0_tableFits 46 = .ok (.iload_n 2, 1) := by decide +kernel
theorem dX0_tableFits_47 : decode cX0_tableFits 47 = .ok (.iconst 4, 1) := by decide +kernel
theorem dX0_tableFits_48 : decode cX0_tableFits 48 = .ok (.iadd, 1) := by decide +kernel
theorem dX0_tableFits_49 : decode cX0_tableFits 49 = .ok (.invokevirtual 42, 3) := by decide +kernel
theorem dX0_tableFits_52 : decode cX0_tableFits 52 = .ok (.isub, 1) := by decide +kernel
theorem dX0_tableFits_53 : decode cX0_tableFits 53 = .ok (.iconst 1, 1) := by decide +kernel
theorem dX0_tableFits_54 : decode cX0_tableFits 54 = .ok (.iadd, 1) := by decide +kernel
theorem dX0_tableFits_55 : decode cX0_tableFits 55 = .ok (.istore_n 3, 1) := by decide +kernel
theorem dX0_tableFits_56 : decode cX0_tableFits 56 = .ok (.iconst 0, 1) := by decide +kernel
theorem dX0_tableFits_57 : decode cX0_tableFits 57 = .ok (.istore 4, 2) := by decide +kernel
theorem dX0_tableFits_59 : decode cX0_tableFits 59 = .ok (.iload 4, 2) := by decide +kernel
theorem dX0_tableFits_61 : decode cX0_tableFits 61 = .ok (.iload_n 3, 1) := by decide +kernel
theorem dX0_tableFits_62 : decode cX0_tableFits 62 = .ok (.if_icmp .ge 38, 3) := by decide +kernel
theorem dX0_tableFits_65 : decode cX0_tableFits 65 = .ok (.aload_n 0, 1) := by decide +kernel
theorem dX0_tableFits_66 : decode cX0_tableFits 66 = .ok (.iload_n 1, 1) := by decide +kernel
theorem dX0_tableFits_67 : decode cX0_tableFits 67 = .ok (.i2l, 1) := by decide +kernel
theorem dX0_tableFits_68 : decode cX0_tableFits 68 = .ok (.aload_n 0, 1) := by decide +kernel
theorem dX0_tableFits_69 : decode cX0_tableFits 69 = .ok (.getfield 27, 3) := by decide +kernel
theorem dX0_tableFits_72 : decode cX0_tableFits 72 = .ok (.iload_n 2, 1) := by decide +kernel
theorem dX0_tableFits_73 : decode cX0_tableFits 73 = .ok (.bipush 12, 2) := by decide +kernel
theorem dX0_tableFits_75 : decode cX0_tableFits 75 = .ok (.iadd, 1) := by decide +kernel
theorem dX0_tableFits_76 : decode cX0_tableFits 76 = .ok (.iconst 4, 1) := by decide +kernel
theorem dX0_tableFits_77 : decode cX0_tableFits 77 = .ok (.iload 4, 2) := by decide +kernel
theorem dX0_tableFits_79 : decode cX0_tableFits 79 = .ok (.imul, 1) := by decide +kernel
theorem dX0_tableFits_80 : decode cX0_tableFits 80 = .ok (.iadd, 1) := by decide +kernel
theorem dX0_tableFits_81 : decode cX0_tableFits 81 = .ok (.invokevirtual 42, 3) := by decide +kernel
theorem dX0_tableFits_84 : decode cX0_tableFits 84 = .ok (.i2l, 1) := by decide +kernel
theorem dX0_tableFits_85 : decode cX0_tableFits 85 = .ok (.ladd, 1) := by decide +kernel
theorem dX0_tableFits_86 : decode cX0_tableFits 86 = .ok (.invokevirtual 93, 3) := by decide +kernel
theorem dX0_tableFits_89 : decode cX0_tableFits 89 = .ok (.ifCond .ne 5, 3) := by decide +kernel
theorem dX0_tableFits_92 : decode cX0_tableFits 92 = .ok (.iconst 0, 1) := by decide +kernel
theorem dX0_tableFits_93 : decode cX0_tableFits 93 = .ok (.ireturn, 1) := by decide +kernel
theorem dX0_tableFits_94 : decode cX0_tableFits 94 = .ok (.iinc 4 1, 3) := by decide +kernel
theorem dX0_tableFits_97 : decode cX0_tableFits 97 = .ok (.goto (-38), 3) := by decide +kernel
theorem dX0_tableFits_100 : decode cX0_tableFits 100 = .ok (.iconst 1, 1) := by decide +kernel
theorem dX0_tableFits_101 : decode cX0_tableFits 101 = .ok (.ireturn, 1) := by decide +kernel
theorem dX0_handlerFits_0 : decode cX0_handlerFits 0 = .ok (.aload_n 0, 1) := by decide +kernel
theorem dX0_handlerFits_1 : decode cX0_handlerFits 1 = .ok (.getfield 27, 3) := by decide +kernel
theorem dX0_handlerFits_4 : decode cX0_handlerFits 4 = .ok (.iload_n 1, 1) := by decide +kernel
theorem dX0_handlerFits_5 : decode cX0_handlerFits 5 = .ok (.invokevirtual 32, 3) := by decide +kernel
theorem dX0_handlerFits_8 : decode cX0_handlerFits 8 = .ok (.istore_n 2, 1) := by decide +kernel
theorem dX0_handlerFits_9 : decode cX0_handlerFits 9 = .ok (.aload_n 0, 1) := by decide +kernel
theorem dX0_handlerFits_10 : decode cX0_handlerFits 10 = .ok (.getfield 27, 3) := by decide +kernel
theorem dX0_handlerFits_13 : decode cX0_handlerFits 13 = .ok (.iload_n 1, 1) := by decide +kernel
theorem dX0_handlerFits_14 : decode cX0_handlerFits 14 = .ok (.iconst 2, 1) := by decide +kernel
theorem dX0_handlerFits_15 : decode cX0_handlerFits 15 = .ok (.iadd, 1) := by decide +kernel
theorem dX0_handlerFits_16 : decode cX0_handlerFits 16 = .ok (.invokevirtual 32, 3) := by decide +kernel
theorem dX0_handlerFits_19 : decode cX0_handlerFits 19 = .ok (.istore_n 3, 1) := by decide +kernel
theorem dX0_handlerFits_20 : decode cX0_handlerFits 20 = .ok (.aload_n 0, 1) := by decide +kernel
theorem dX0_handlerFits_21 : decode cX0_handlerFits 21 = .ok (.getfield 27, 3) := by decide +kernel
theorem dX0_handlerFits_24 : decode cX0_handlerFits 24 = .ok (.iload_n 1, 1) := by decide +kernel
theorem dX0_handlerFits_25 : decode cX0_handlerFits 25 = .ok (.bipush 6, 2) := by decide +kernel
theorem dX0_handlerFits_27 : decode cX0_handlerFits 27 = .ok (.iadd, 1) := by decide +kernel
theorem dX0_handlerFits_28 : decode cX0_handlerFits 28 = .ok (.invokevirtual 32, 3) := by decide +kernel
theorem dX0_handlerFits_31 : decode cX0_handlerFits 31 = .ok (.istore 4, 2) := by decide +kernel
theorem dX0_handlerFits_33 : decode cX0_handlerFits 33 = .ok (.aload_n 0, 1) := by decide +kernel
theorem dX0_handlerFits_34 : decode cX0_handlerFits 34 = .ok (.iload_n 2, 1) := by decide +kernel
theorem dX0_handlerFits_35 : decode cX0_handlerFits 35 = .ok (.i2l, 1) := by decide +kernel
theorem dX0_handlerFits_36 : decode cX0_handlerFits 36 = .ok (.invokevirtual 93, 3) := by decide +kernel
theorem dX0_handlerFits_39 : decode cX0_handlerFits 39 = .ok (.ifCond .eq 66, 3) := by decide +kernel
theorem dX0_handlerFits_42 : decode cX0_handlerFits 42 = .ok (.iload_n 3, 1) := by decide +kernel
theorem dX0_handlerFits_43 : decode cX0_handlerFits 43 = .ok (.aload_n 0, 1) := by decide +kernel
theorem dX0_handlerFits_44 : decode cX0_handlerFits 44 = .ok (.getfield 45, 3) := by decide +kernel
theorem dX0_handlerFits_47 : decode cX0_handlerFits 47 = .ok (.if_icmp .eq 12, 3) := by decide +kernel
theorem dX0_handlerFits_50 : decode cX0_handlerFits 50 = .ok (.aload_n 0, 1) := by decide +kernel
theorem dX0_handlerFits_51 : decode cX0_handlerFits 51 = .ok (.iload_n 3, 1) := by decide +kernel
theorem dX0_handlerFits_52 : decode cX0_handlerFits 52 = .ok (.i2l, 1) := by decide +kernel
theorem dX0_handlerFits_53 : decode cX0_handlerFits 53 = .ok (.invokevirtual 93, 3) := by decide +kernel
theorem dX0_handlerFits_56 : decode cX0_handlerFits 56 = .ok (.ifCond .eq 49, 3) := by decide +kernel
theorem dX0_handlerFits_59 : decode cX0_handlerFits 59 = .ok (.aload_n 0, 1) := by decide +kernel
theorem dX0_handlerFits_60 : decode cX0_handlerFits 60 = .ok (.aload_n 0, 1) := by decide +kernel
theorem dX0_handlerFits_61 : decode cX0_handlerFits 61 = .ok (.getfield 27, 3) := by decide +kernel
theorem dX0_handlerFits_64 : decode cX0_handlerFits 64 = .ok (.iload_n 1, 1) := by decide +kernel
theorem dX0_handlerFits_65 : decode cX0_handlerFits 65 = .ok (.iconst 4, 1) := by decide +kernel
theorem dX0_handlerFits_66 : decode cX0_handlerFits 66 = .ok (.iadd, 1) := by decide +kernel
theorem dX0_handlerFits_67 : decode cX0_handlerFits 67 = .ok (.invokevirtual 32, 3) := by decide +kernel
theorem dX0_handlerFits_70 : decode cX0_handlerFits 70 = .ok (.i2l, 1) := by decide +kernel
theorem dX0_handlerFits_71 : decode cX0_handlerFits 71 = .ok (.invokevirtual 93, 3) := by decide +kernel
theorem dX0_handlerFits_74 : decode cX0_handlerFits 74 = .ok (.ifCond .eq 31, 3) := by decide +kernel
theorem dX0_handlerFits_77 : decode cX0_handlerFits 77 = .ok (.iload_n 2, 1) := by decide +kernel
theorem dX0_handlerFits_78 : decode cX0_handlerFits 78 = .ok (.iload_n 3, 1) := by decide +kernel
theorem dX0_handlerFits_79 : decode cX0_handlerFits 79 = .ok (.if_icmp .ge 26, 3) := by decide +kernel
theorem dX0_handlerFits_82 : decode cX0_handlerFits 82 = .ok (.iload 4, 2) := by decide +kernel
theorem dX0_handlerFits_84 : decode cX0_handlerFits 84 = .ok (.ifCond .eq 17, 3) := by decide +kernel
theorem dX0_handlerFits_87 : decode cX0_handlerFits 87 = .ok (.aload_n 0, 1) := by decide +kernel
theorem dX0_handlerFits_88 : decode cX0_handlerFits 88 = .ok (.getfield 28, 3) := by decide +kernel
theorem dX0_handlerFits_91 : decode cX0_handlerFits 91 = .ok (.iload 4, 2) := by decide +kernel
theorem dX0_handlerFits_93 : decode cX0_handlerFits 93 = .ok (.invokevirtual 88, 3) := by decide +kernel
theorem dX0_handlerFits_96 : decode cX0_handlerFits 96 = .ok (.bipush 7, 2) := by decide +kernel
theorem dX0_handlerFits_98 : decode cX0_handlerFits 98 = .ok (.if_icmp .ne 7, 3) := by decide +kernel
theorem dX0_handlerFits_101 : decode cX0_handlerFits 101 = .ok (.iconst 1, 1) := by decide +kernel
theorem dX0_handlerFits_102 : decode cX0_handlerFits 102 = .ok (.goto 4, 3) := by decide +kernel
theorem dX0_handlerFits_105 : decode cX0_handlerFits 105 = .ok (.iconst 0, 1) := by decide +kernel
theorem dX0_handlerFits_106 : decode cX0_handlerFits 106 = .ok (.ireturn, 1) := by decide +kernel
theorem dX0_isInstruction_0 : decode cX0_isInstruction 0 = .ok (.lload_n 1, 1) := by decide +kernel
theorem dX0_isInstruction_1 : decode cX0_isInstruction 1 = .ok (.lconst 0, 1) := by decide +kernel
theorem dX0_isInstruction_2 : decode cX0_isInstruction 2 = .ok (.lcmp, 1) := by decide +kernel
theorem dX0_isInstruction_3 : decode cX0_isInstruction 3 = .ok (.ifCond .lt 27, 3) := by decide +kernel
theorem dX0_isInstruction_6 : decode cX0_isInstruction 6 = .ok (.lload_n 1, 1) := by decide +kernel
theorem dX0_isInstruction_7 : decode cX0_isInstruction 7 = .ok (.aload_n 0, 1) := by decide +kernel
theorem dX0_isInstruction_8 : decode cX0_isInstruction 8 = .ok (.getfield 45, 3) := by decide +kernel
theorem dX0_isInstruction_11 : decode cX0_isInstruction 11 = .ok (.i2l, 1) := by decide +kernel
theorem dX0_isInstruction_12 : decode cX0_isInstruction 12 = .ok (.lcmp, 1) := by decide +kernel
theorem dX0_isInstruction_13 : decode cX0_isInstruction 13 = .ok (.ifCond .ge 17, 3) := by decide +kernel
theorem dX0_isInstruction_16 : decode cX0_isInstruction 16 = .ok (.aload_n 0, 1) := by decide +kernel
theorem dX0_isInstruction_17 : decode cX0_isInstruction 17 = .ok (.getfield 9, 3) := by decide +kernel
theorem dX0_isInstruction_20 : decode cX0_isInstruction 20 = .ok (.lload_n 1, 1) := by decide +kernel
theorem dX0_isInstruction_21 : decode cX0_isInstruction 21 = .ok (.l2i, 1) := by decide +kernel
theorem dX0_isInstruction_22 : decode cX0_isInstruction 22 = .ok (.baload, 1) := by decide +kernel
theorem dX0_isInstruction_23 : decode cX0_isInstruction 23 = .ok (.ifCond .eq 7, 3) := by decide +kernel
theorem dX0_isInstruction_26 : decode cX0_isInstruction 26 = .ok (.iconst 1, 1) := by decide +kernel
theorem dX0_isInstruction_27 : decode cX0_isInstruction 27 = .ok (.goto 4, 3) := by decide +kernel
theorem dX0_isInstruction_30 : decode cX0_isInstruction 30 = .ok (.iconst 0, 1) := by decide +kernel
theorem dX0_isInstruction_31 : decode cX0_isInstruction 31 = .ok (.ireturn, 1) := by decide +kernel
theorem dX1_init_0 : decode cX1_init 0 = .ok (.aload_n 0, 1) := by decide +kernel
theorem dX1_init_1 : decode cX1_init 1 = .ok (.invokespecial 1, 3) := by decide +kernel
theorem dX1_init_4 : decode cX1_init 4 = .ok (.aload_n 0, 1) := by decide +kernel
theorem dX1_init_5 : decode cX1_init 5 = .ok (.sipush 400, 3) := by decide +kernel
theorem dX1_init_8 : decode cX1_init 8 = .ok (.newarray .int, 2) := by decide +kernel
theorem dX1_init_10 : decode cX1_init 10 = .ok (.putfield 9, 3) := by decide +kernel
theorem dX1_init_13 : decode cX1_init 13 = .ok (.return_, 1) := by decide +kernel
theorem dX1_holds_0 : decode cX1_holds 0 = .ok (.iload_n 1, 1) := by decide +kernel
theorem dX1_holds_1 : decode cX1_holds 1 = .ok (.ifCond .lt 17, 3) := by decide +kernel
theorem dX1_holds_4 : decode cX1_holds 4 = .ok (.iload_n 2, 1) := by decide +kernel
theorem dX1_holds_5 : decode cX1_holds 5 = .ok (.aload_n 0, 1) := by decide +kernel
theorem dX1_holds_6 : decode cX1_holds 6 = .ok (.getfield 13, 3) := by decide +kernel
theorem dX1_holds_9 : decode cX1_holds 9 = .ok (.iload_n 1, 1) := by decide +kernel
theorem dX1_holds_10 : decode cX1_holds 10 = .ok (.isub, 1) := by decide +kernel
theorem dX1_holds_11 : decode cX1_holds 11 = .ok (.if_icmp .gt 7, 3) := by decide +kernel
theorem dX1_holds_14 : decode cX1_holds 14 = .ok (.iconst 1, 1) := by decide +kernel
theorem dX1_holds_15 : decode cX1_holds 15 = .ok (.goto 4, 3) := by decide +kernel
theorem dX1_holds_18 : decode cX1_holds 18 = .ok (.iconst 0, 1) := by decide +kernel
theorem dX1_holds_19 : decode cX1_holds 19 = .ok (.ireturn, 1) := by decide +kernel
theorem dX1_hasRoomFor_0 : decode cX1_hasRoomFor 0 = .ok (.iload_n 1, 1) := by decide +kernel
theorem dX1_hasRoomFor_1 : decode cX1_hasRoomFor 1 = .ok (.sipush 400, 3) := by decide +kernel
theorem dX1_hasRoomFor_4 : decode cX1_hasRoomFor 4 = .ok (.aload_n 0, 1) := by decide +kernel
theorem dX1_hasRoomFor_5 : decode cX1_hasRoomFor 5 = .ok (.getfield 13, 3) := by decide +kernel
theorem dX1_hasRoomFor_8 : decode cX1_hasRoomFor 8 = .ok (.isub, 1) := by decide +kernel
theorem dX1_hasRoomFor_9 : decode cX1_hasRoomFor 9 = .ok (.if_icmp .gt 7, 3) := by decide +kernel
theorem dX1_hasRoomFor_12 : decode cX1_hasRoomFor 12 = .ok (.iconst 1, 1) := by decide +kernel
theorem dX1_hasRoomFor_13 : decode cX1_hasRoomFor 13 = .ok (.goto 4, 3) := by decide +kernel
theorem dX1_hasRoomFor_16 : decode cX1_hasRoomFor 16 = .ok (.iconst 0, 1) := by decide +kernel
theorem dX1_hasRoomFor_17 : decode cX1_hasRoomFor 17 = .ok (.ireturn, 1) := by decide +kernel
theorem dX1_append_0 : decode cX1_append 0 = .ok (.bipush 8, 2) := by decide +kernel
theorem dX1_append_2 : decode cX1_append 2 = .ok (.iload_n 1, 1) := by decide +kernel
theorem dX1_append_3 : decode cX1_append 3 = .ok (.iconst 1, 1) := by decide +kernel
theorem dX1_append_4 : decode cX1_append 4 = .ok (.isub, 1) := by decide +kernel
theorem dX1_append_5 : decode cX1_append 5 = .ok (.imul, 1) := by decide +kernel
theorem dX1_append_6 : decode cX1_append 6 = .ok (.istore_n 3, 1) := by decide +kernel
theorem dX1_append_7 : decode cX1_append 7 = .ok (.iload_n 3, 1) := by decide +kernel
theorem dX1_append_8 : decode cX1_append 8 = .ok (.ifCond .lt 35, 3) := by decide +kernel
theorem dX1_append_11 : decode cX1_append 11 = .ok (.aload_n 0, 1) := by decide +kernel
theorem dX1_append_12 : decode cX1_append 12 = .ok (.getfield 9, 3) := by decide +kernel
theorem dX1_append_15 : decode cX1_append 15 = .ok (.aload_n 0, 1) := by decide +kernel
theorem dX1_append_16 : decode cX1_append 16 = .ok (.getfield 13, 3) := by decide +kernel
theorem dX1_append_19 : decode cX1_append 19 = .ok (.iload_n 2, 1) := by decide +kernel
theorem dX1_append_20 : decode cX1_append 20 = .ok (.iload_n 3, 1) := by decide +kernel
theorem dX1_append_21 : decode cX1_append 21 = .ok (.iushr, 1) := by decide +kernel
theorem dX1_append_22 : decode cX1_append 22 = .ok (.sipush 255, 3) := by decide +kernel
theorem dX1_append_25 : decode cX1_append 25 = .ok (.iand, 1) := by decide +kernel
theorem dX1_append_26 : decode cX1_append 26 = .ok (.iastore, 1) := by decide +kernel
theorem dX1_append_27 : decode cX1_append 27 = .ok (.aload_n 0, 1) := by decide +kernel
theorem dX1_append_28 : decode cX1_append 28 = .ok (.dup, 1) := by decide +kernel
theorem dX1_append_29 : decode cX1_append 29 = .ok (.getfield 13, 3) := by decide +kernel
theorem dX1_append_32 : decode cX1_append 32 = .ok (.iconst 1, 1) := by decide +kernel
theorem dX1_append_33 : decode cX1_append 33 = .ok (.iadd, 1) := by decide +kernel
theorem dX1_append_34 : decode cX1_append 34 = .ok (.putfield 13, 3) := by decide +kernel
theorem dX1_append_37 : decode cX1_append 37 = .ok (.iinc 3 (-8), 3) := by decide +kernel
theorem dX1_append_40 : decode cX1_append 40 = .ok (.goto (-33), 3) := by decide +kernel
theorem dX1_append_43 : decode cX1_append 43 = .ok (.return_, 1) := by decide +kernel
theorem dX1_close_0 : decode cX1_close 0 = .ok (.aload_n 0, 1) := by decide +kernel
theorem dX1_close_1 : decode cX1_close 1 = .ok (.getfield 9, 3) := by decide +kernel
theorem dX1_close_4 : decode cX1_close 4 = .ok (.iload_n 1, 1) := by decide +kernel
theorem dX1_close_5 : decode cX1_close 5 = .ok (.iload_n 2, 1) := by decide +kernel
theorem dX1_close_6 : decode cX1_close 6 = .ok (.iadd, 1) := by decide +kernel
theorem dX1_close_7 : decode cX1_close 7 = .ok (.aload_n 0, 1) := by decide +kernel
theorem dX1_close_8 : decode cX1_close 8 = .ok (.getfield 9, 3) := by decide +kernel
theorem dX1_close_11 : decode cX1_close 11 = .ok (.iload_n 1, 1) := by decide +kernel
theorem dX1_close_12 : decode cX1_close 12 = .ok (.aload_n 0, 1) := by decide +kernel
theorem dX1_close_13 : decode cX1_close 13 = .ok (.getfield 13, 3) := by decide +kernel
theorem dX1_close_16 : decode cX1_close 16 = .ok (.iload_n 1, 1) := by decide +kernel
theorem dX1_close_17 : decode cX1_close 17 = .ok (.isub, 1) := by decide +kernel
theorem dX1_close_18 : decode cX1_close 18 = .ok (.iload_n 2, 1) := by decide +kernel
theorem dX1_close_19 : decode cX1_close 19 = .ok (.isub, 1) := by decide +kernel
theorem dX1_close_20 : decode cX1_close 20 = .ok (.invokestatic 17, 3) := by decide +kernel
theorem dX1_close_23 : decode cX1_close 23 = .ok (.aload_n 0, 1) := by decide +kernel
theorem dX1_close_24 : decode cX1_close 24 = .ok (.dup, 1) := by decide +kernel
theorem dX1_close_25 : decode cX1_close 25 = .ok (.getfield 13, 3) := by decide +kernel
theorem dX1_close_28 : decode cX1_close 28 = .ok (.iload_n 2, 1) := by decide +kernel
theorem dX1_close_29 : decode cX1_close 29 = .ok (.isub, 1) := by decide +kernel
theorem dX1_close_30 : decode cX1_close 30 = .ok (.putfield 13, 3) := by decide +kernel
theorem dX1_close_33 : decode cX1_close 33 = .ok (.return_, 1) := by decide +kernel
theorem dX1_open_0 : decode cX1_open 0 = .ok (.aload_n 0, 1) := by decide +kernel
theorem dX1_open_1 : decode cX1_open 1 = .ok (.getfield 9, 3) := by decide +kernel
theorem dX1_open_4 : decode cX1_open 4 = .ok (.iload_n 1, 1) := by decide +kernel
theorem dX1_open_5 : decode cX1_open 5 = .ok (.aload_n 0, 1) := by decide +kernel
theorem dX1_open_6 : decode cX1_open 6 = .ok (.getfield 9, 3) := by decide +kernel
theorem dX1_open_9 : decode cX1_open 9 = .ok (.iload_n 1, 1) := by decide +kernel
theorem dX1_open_10 : decode cX1_open 10 = .ok (.iload_n 2, 1) := by decide +kernel
theorem dX1_open_11 : decode cX1_open 11 = .ok (.iadd, 1) := by decide +kernel
theorem dX1_open_12 : decode cX1_open 12 = .ok (.aload_n 0, 1) := by decide +kernel
theorem dX1_open_13 : decode cX1_open 13 = .ok (.getfield 13, 3) := by decide +kernel
theorem dX1_open_16 : decode cX1_open 16 = .ok (.iload_n 1, 1) := by decide +kernel
theorem dX1_open_17 : decode cX1_open 17 = .ok (.isub, 1) := by decide +kernel
theorem dX1_open_18 : decode cX1_open 18 = .ok (.invokestatic 17, 3) := by decide +kernel
theorem dX1_open_21 : decode cX1_open 21 = .ok (.aload_n 0, 1) := by decide +kernel
theorem dX1_open_22 : decode cX1_open 22 = .ok (.dup, 1) := by decide +kernel
theorem dX1_open_23 : decode cX1_open 23 = .ok (.getfield 13, 3) := by decide +kernel
theorem dX1_open_26 : decode cX1_open 26 = .ok (.iload_n 2, 1) := by decide +kernel
theorem dX1_open_27 : decode cX1_open 27 = .ok (.iadd, 1) := by decide +kernel
theorem dX1_open_28 : decode cX1_open 28 = .ok (.putfield 13, 3) := by decide +kernel
theorem dX1_open_31 : decode cX1_open 31 = .ok (.return_, 1) := by decide +kernel
theorem dX1_u2_0 : decode cX1_u2 0 = .ok (.aload_n 0, 1) := by decide +kernel
theorem dX1_u2_1 : decode cX1_u2 1 = .ok (.getfield 9, 3) := by decide +kernel
theorem dX1_u2_4 : decode cX1_u2 4 = .ok (.iload_n 1, 1) := by decide +kernel
theorem dX1_u2_5 : decode cX1_u2 5 = .ok (.iaload, 1) := by decide +kernel
theorem dX1_u2_6 : decode cX1_u2 6 = .ok (.bipush 8, 2) := by decide +kernel
theorem dX1_u2_8 : decode cX1_u2 8 = .ok (.ishl, 1) := by decide +kernel
theorem dX1_u2_9 : decode cX1_u2 9 = .ok (.aload_n 0, 1) := by decide +kernel
theorem dX1_u2_10 : decode cX1_u2 10 = .ok (.getfield 9, 3) := by decide +kernel
theorem dX1_u2_13 : decode cX1_u2 13 = .ok (.iload_n 1, 1) := by decide +kernel
theorem dX1_u2_14 : decode cX1_u2 14 = .ok (.iconst 1, 1) := by decide +kernel
theorem dX1_u2_15 : decode cX1_u2 15 = .ok (.iadd, 1) := by decide +kernel
theorem dX1_u2_16 : decode cX1_u2 16 = .ok (.iaload, 1) := by decide +kernel
theorem dX1_u2_17 : decode cX1_u2 17 = .ok (.ior, 1) := by decide +kernel
theorem dX1_u2_18 : decode cX1_u2 18 = .ok (.ireturn, 1) := by decide +kernel
theorem dX1_u4_0 : decode cX1_u4 0 = .ok (.aload_n 0, 1) := by decide +kernel
theorem dX1_u4_1 : decode cX1_u4 1 = .ok (.getfield 9, 3) := by decide +kernel
theorem dX1_u4_4 : decode cX1_u4 4 = .ok (.iload_n 1, 1) := by decide +kernel
theorem dX1_u4_5 : decode cX1_u4 5 = .ok (.iaload, 1) := by decide +kernel
theorem dX1_u4_6 : decode cX1_u4 6 = .ok (.bipush 24, 2) := by decide +kernel
theorem dX1_u4_8 : decode cX1_u4 8 = .ok (.ishl, 1) := by decide +kernel
theorem dX1_u4_9 : decode cX1_u4 9 = .ok (.aload_n 0, 1) := by decide +kernel
theorem dX1_u4_10 : decode cX1_u4 10 = .ok (.getfield 9, 3) := by decide +kernel
theorem dX1_u4_13 : decode cX1_u4 13 = .ok (.iload_n 1, 1) := by decide +kernel
theorem dX1_u4_14 : decode cX1_u4 14 = .ok (.iconst 1, 1) := by decide +kernel
theorem dX1_u4_15 : decode cX1_u4 15 = .ok (.iadd, 1) := by decide +kernel
theorem dX1_u4_16 : decode cX1_u4 16 = .ok (.iaload, 1) := by decide +kernel
theorem dX1_u4_17 : decode cX1_u4 17 = .ok (.bipush 16, 2) := by decide +kernel
theorem dX1_u4_19 : decode cX1_u4 19 = .ok (.ishl, 1) := by decide +kernel
theorem dX1_u4_20 : decode cX1_u4 20 = .ok (.ior, 1) := by decide +kernel
theorem dX1_u4_21 : decode cX1_u4 21 = .ok (.aload_n 0, 1) := by decide +kernel
theorem dX1_u4_22 : decode cX1_u4 22 = .ok (.getfield 9, 3) := by decide +kernel
theorem dX1_u4_25 : decode cX1_u4 25 = .ok (.iload_n 1, 1) := by decide +kernel
theorem dX1_u4_26 : decode cX1_u4 26 = .ok (.iconst 2, 1) := by decide +kernel
theorem dX1_u4_27 : decode cX1_u4 27 = .ok (.iadd, 1) := by decide +kernel
theorem dX1_u4_28 : decode cX1_u4 28 = .ok (.iaload, 1) := by decide +kernel
theorem dX1_u4_29 : decode cX1_u4 29 = .ok (.bipush 8, 2) := by decide +kernel
theorem dX1_u4_31 : decode cX1_u4 31 = .ok (.ishl, 1) := by decide +kernel
theorem dX1_u4_32 : decode cX1_u4 32 = .ok (.ior, 1) := by decide +kernel
theorem dX1_u4_33 : decode cX1_u4 33 = .ok (.aload_n 0, 1) := by decide +kernel
theorem dX1_u4_34 : decode cX1_u4 34 = .ok (.getfield 9, 3) := by decide +kernel
theorem dX1_u4_37 : decode cX1_u4 37 = .ok (.iload_n 1, 1) := by decide +kernel
theorem dX1_u4_38 : decode cX1_u4 38 = .ok (.iconst 3, 1) := by decide +kernel
theorem dX1_u4_39 : decode cX1_u4 39 = .ok (.iadd, 1) := by decide +kernel
theorem dX1_u4_40 : decode cX1_u4 40 = .ok (.iaload, 1) := by decide +kernel
theorem dX1_u4_41 : decode cX1_u4 41 = .ok (.ior, 1) := by decide +kernel
theorem dX1_u4_42 : decode cX1_u4 42 = .ok (.ireturn, 1) := by decide +kernel
theorem dX2_init_0 : decode cX2_init 0 = .ok (.aload_n 0, 1) := by decide +kernel
theorem dX2_init_1 : decode cX2_init 1 = .ok (.invokespecial 3, 3) := by decide +kernel
theorem dX2_init_4 : decode cX2_init 4 = .ok (.aload_n 0, 1) := by decide +kernel
theorem dX2_init_5 : decode cX2_init 5 = .ok (.bipush 7, 2) := by decide +kernel
theorem dX2_init_7 : decode cX2_init 7 = .ok (.newarray .int, 2) := by decide +kernel
theorem dX2_init_9 : decode cX2_init 9 = .ok (.putfield 11, 3) := by decide +kernel
theorem dX2_init_12 : decode cX2_init 12 = .ok (.aload_n 0, 1) := by decide +kernel
theorem dX2_init_13 : decode cX2_init 13 = .ok (.bipush 51, 2) := by decide +kernel
theorem dX2_init_15 : decode cX2_init 15 = .ok (.newarray .int, 2) := by decide +kernel
theorem dX2_init_17 : decode cX2_init 17 = .ok (.putfield 15, 3) := by decide +kernel
theorem dX2_init_20 : decode cX2_init 20 = .ok (.aload_n 0, 1) := by decide +kernel
theorem dX2_init_21 : decode cX2_init 21 = .ok (.aload_n 1, 1) := by decide +kernel
theorem dX2_init_22 : decode cX2_init 22 = .ok (.putfield 18, 3) := by decide +kernel
theorem dX2_init_25 : decode cX2_init 25 = .ok (.aload_n 0, 1) := by decide +kernel
theorem dX2_init_26 : decode cX2_init 26 = .ok (.new 22, 3) := by decide +kernel
theorem dX2_init_29 : decode cX2_init 29 = .ok (.dup, 1) := by decide +kernel
theorem dX2_init_30 : decode cX2_init 30 = .ok (.aload_n 1, 1) := by decide +kernel
theorem dX2_init_31 : decode cX2_init 31 = .ok (.invokespecial 24, 3) := by decide +kernel
theorem dX2_init_34 : decode cX2_init 34 = .ok (.putfield 27, 3) := by decide +kernel
theorem dX2_init_37 : decode cX2_init 37 = .ok (.aload_n 0, 1) := by decide +kernel
theorem dX2_init_38 : decode cX2_init 38 = .ok (.new 31, 3) := by decide +kernel
theorem dX2_init_41 : decode cX2_init 41 = .ok (.dup, 1) := by decide +kernel
theorem dX2_init_42 : decode cX2_init 42 = .ok (.aload_n 0, 1) := by decide +kernel
theorem dX2_init_43 : decode cX2_init 43 = .ok (.getfield 27, 3) := by decide +kernel
theorem dX2_init_46 : decode cX2_init 46 = .ok (.invokespecial 33, 3) := by decide +kernel
theorem dX2_init_49 : decode cX2_init 49 = .ok (.putfield 36, 3) := by decide +kernel
theorem dX2_init_52 : decode cX2_init 52 = .ok (.aload_n 0, 1) := by decide +kernel
theorem dX2_init_53 : decode cX2_init 53 = .ok (.new 40, 3) := by decide +kernel
theorem dX2_init_56 : decode cX2_init 56 = .ok (.dup, 1) := by decide +kernel
theorem dX2_init_57 : decode cX2_init 57 = .ok (.aload_n 0, 1) := by decide +kernel
theorem dX2_init_58 : decode cX2_init 58 = .ok (.getfield 27, 3) := by decide +kernel
theorem dX2_init_61 : decode cX2_init 61 = .ok (.aload_n 0, 1) := by decide +kernel
theorem dX2_init_62 : decode cX2_init 62 = .ok (.getfield 36, 3) := by decide +kernel
theorem dX2_init_65 : decode cX2_init 65 = .ok (.invokespecial 42, 3) := by decide +kernel
theorem dX2_init_68 : decode cX2_init 68 = .ok (.putfield 45, 3) := by decide +kernel
theorem dX2_init_71 : decode cX2_init 71 = .ok (.return_, 1) := by decide +kernel
theorem dX2_run_0 : decode cX2_run 0 = .ok (.aload_n 0, 1) := by decide +kernel
theorem dX2_run_1 : decode cX2_run 1 = .ok (.getfield 27, 3) := by decide +kernel
theorem dX2_run_4 : decode cX2_run 4 = .ok (.invokevirtual 49, 3) := by decide +kernel
theorem dX2_run_7 : decode cX2_run 7 = .ok (.aload_n 0, 1) := by decide +kernel
theorem dX2_run_8 : decode cX2_run 8 = .ok (.getfield 36, 3) := by decide +kernel
theorem dX2_run_11 : decode cX2_run 11 = .ok (.invokevirtual 52, 3) := by decide +kernel
theorem dX2_run_14 : decode cX2_run 14 = .ok (.iconst 0, 1) := by decide +kernel
theorem dX2_run_15 : decode cX2_run 15 = .ok (.istore_n 1, 1) := by decide +kernel
theorem dX2_run_16 : decode cX2_run 16 = .ok (.iload_n 1, 1) := by decide +kernel
theorem dX2_run_17 : decode cX2_run 17 = .ok (.bipush 7, 2) := by decide +kernel
theorem dX2_run_19 : decode cX2_run 19 = .ok (.if_icmp .ge 16, 3) := by decide +kernel
theorem dX2_run_22 : decode cX2_run 22 = .ok (.aload_n 0, 1) := by decide +kernel
theorem dX2_run_23 : decode cX2_run 23 = .ok (.getfield 11, 3) := by decide +kernel
theorem dX2_run_26 : decode cX2_run 26 = .ok (.iload_n 1, 1) := by decide +kernel
theorem dX2_run_27 : decode cX2_run 27 = .ok (.iconst 0, 1) := by decide +kernel
theorem dX2_run_28 : decode cX2_run 28 = .ok (.iastore, 1) := by decide +kernel
theorem dX2_run_29 : decode cX2_run 29 = .ok (.iinc 1 1, 3) := by decide +kernel
theorem dX2_run_32 : decode cX2_run 32 = .ok (.goto (-16), 3) := by decide +kernel
theorem dX2_run_35 : decode cX2_run 35 = .ok (.aload_n 0, 1) := by decide +kernel
theorem dX2_run_36 : decode cX2_run 36 = .ok (.invokevirtual 55, 3) := by decide +kernel
theorem dX2_run_39 : decode cX2_run 39 = .ok (.ifCond .eq 72, 3) := by decide +kernel
theorem dX2_run_42 : decode cX2_run 42 = .ok (.aload_n 0, 1) := by decide +kernel
theorem dX2_run_43 : decode cX2_run 43 = .ok (.getfield 36, 3) := by decide +kernel
theorem dX2_run_46 : decode cX2_run 46 = .ok (.invokevirtual 59, 3) := by decide +kernel
theorem dX2_run_49 : decode cX2_run 49 = .ok (.ifCond .eq 62, 3) := by decide +kernel
theorem dX2_run_52 : decode cX2_run 52 = .ok (.aload_n 0, 1) := by decide +kernel
theorem dX2_run_53 : decode cX2_run 53 = .ok (.getfield 36, 3) := by decide +kernel
