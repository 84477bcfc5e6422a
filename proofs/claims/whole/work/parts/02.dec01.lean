theorem dX2_run_56 : decode cX2_run 56 = .ok (.invokevirtual 62, 3) := by decide +kernel
theorem dX2_run_59 : decode cX2_run 59 = .ok (.ifCond .eq 52, 3) := by decide +kernel
theorem dX2_run_62 : decode cX2_run 62 = .ok (.aload_n 0, 1) := by decide +kernel
theorem dX2_run_63 : decode cX2_run 63 = .ok (.getfield 36, 3) := by decide +kernel
theorem dX2_run_66 : decode cX2_run 66 = .ok (.invokevirtual 65, 3) := by decide +kernel
theorem dX2_run_69 : decode cX2_run 69 = .ok (.ifCond .eq 42, 3) := by decide +kernel
theorem dX2_run_72 : decode cX2_run 72 = .ok (.aload_n 0, 1) := by decide +kernel
theorem dX2_run_73 : decode cX2_run 73 = .ok (.invokevirtual 68, 3) := by decide +kernel
theorem dX2_run_76 : decode cX2_run 76 = .ok (.ifCond .eq 35, 3) := by decide +kernel
theorem dX2_run_79 : decode cX2_run 79 = .ok (.aload_n 0, 1) := by decide +kernel
theorem dX2_run_80 : decode cX2_run 80 = .ok (.invokevirtual 71, 3) := by decide +kernel
theorem dX2_run_83 : decode cX2_run 83 = .ok (.ifCond .eq 28, 3) := by decide +kernel
theorem dX2_run_86 : decode cX2_run 86 = .ok (.aload_n 0, 1) := by decide +kernel
theorem dX2_run_87 : decode cX2_run 87 = .ok (.invokevirtual 74, 3) := by decide +kernel
theorem dX2_run_90 : decode cX2_run 90 = .ok (.ifCond .eq 21, 3) := by decide +kernel
theorem dX2_run_93 : decode cX2_run 93 = .ok (.aload_n 0, 1) := by decide +kernel
theorem dX2_run_94 : decode cX2_run 94 = .ok (.invokevirtual 77, 3) := by decide +kernel
theorem dX2_run_97 : decode cX2_run 97 = .ok (.ifCond .eq 14, 3) := by decide +kernel
theorem dX2_run_100 : decode cX2_run 100 = .ok (.aload_n 0, 1) := by decide +kernel
theorem dX2_run_101 : decode cX2_run 101 = .ok (.invokevirtual 80, 3) := by decide +kernel
theorem dX2_run_104 : decode cX2_run 104 = .ok (.ifCond .eq 7, 3) := by decide +kernel
theorem dX2_run_107 : decode cX2_run 107 = .ok (.iconst 1, 1) := by decide +kernel
theorem dX2_run_108 : decode cX2_run 108 = .ok (.goto 4, 3) := by decide +kernel
theorem dX2_run_111 : decode cX2_run 111 = .ok (.iconst 0, 1) := by decide +kernel
theorem dX2_run_112 : decode cX2_run 112 = .ok (.istore_n 1, 1) := by decide +kernel
theorem dX2_run_113 : decode cX2_run 113 = .ok (.aload_n 0, 1) := by decide +kernel
theorem dX2_run_114 : decode cX2_run 114 = .ok (.getfield 11, 3) := by decide +kernel
theorem dX2_run_117 : decode cX2_run 117 = .ok (.iconst 0, 1) := by decide +kernel
theorem dX2_run_118 : decode cX2_run 118 = .ok (.aload_n 0, 1) := by decide +kernel
theorem dX2_run_119 : decode cX2_run 119 = .ok (.getfield 36, 3) := by decide +kernel
theorem dX2_run_122 : decode cX2_run 122 = .ok (.getfield 83, 3) := by decide +kernel
theorem dX2_run_125 : decode cX2_run 125 = .ok (.iastore, 1) := by decide +kernel
theorem dX2_run_126 : decode cX2_run 126 = .ok (.iload_n 1, 1) := by decide +kernel
theorem dX2_run_127 : decode cX2_run 127 = .ok (.ifCond .eq 37, 3) := by decide +kernel
theorem dX2_run_130 : decode cX2_run 130 = .ok (.aload_n 0, 1) := by decide +kernel
theorem dX2_run_131 : decode cX2_run 131 = .ok (.getfield 27, 3) := by decide +kernel
theorem dX2_run_134 : decode cX2_run 134 = .ok (.getfield 87, 3) := by decide +kernel
theorem dX2_run_137 : decode cX2_run 137 = .ok (.aload_n 0, 1) := by decide +kernel
theorem dX2_run_138 : decode cX2_run 138 = .ok (.getfield 18, 3) := by decide +kernel
theorem dX2_run_141 : decode cX2_run 141 = .ok (.getfield 90, 3) := by decide +kernel
theorem dX2_run_144 : decode cX2_run 144 = .ok (.if_icmp .ge 20, 3) := by decide +kernel
theorem dX2_run_147 : decode cX2_run 147 = .ok (.aload_n 0, 1) := by decide +kernel
theorem dX2_run_148 : decode cX2_run 148 = .ok (.getfield 27, 3) := by decide +kernel
theorem dX2_run_151 : decode cX2_run 151 = .ok (.bipush 28, 2) := by decide +kernel
theorem dX2_run_153 : decode cX2_run 153 = .ok (.aload_n 0, 1) := by decide +kernel
theorem dX2_run_154 : decode cX2_run 154 = .ok (.getfield 27, 3) := by decide +kernel
theorem dX2_run_157 : decode cX2_run 157 = .ok (.getfield 87, 3) := by decide +kernel
theorem dX2_run_160 : decode cX2_run 160 = .ok (.invokevirtual 93, 3) := by decide +kernel
theorem dX2_run_163 : decode cX2_run 163 = .ok (.pop, 1) := by decide +kernel
theorem dX2_run_164 : decode cX2_run 164 = .ok (.aload_n 0, 1) := by decide +kernel
theorem dX2_run_165 : decode cX2_run 165 = .ok (.getfield 27, 3) := by decide +kernel
theorem dX2_run_168 : decode cX2_run 168 = .ok (.getfield 97, 3) := by decide +kernel
theorem dX2_run_171 : decode cX2_run 171 = .ok (.ireturn, 1) := by decide +kernel
theorem dX2_readHead_0 : decode cX2_readHead 0 = .ok (.aload_n 0, 1) := by decide +kernel
theorem dX2_readHead_1 : decode cX2_readHead 1 = .ok (.getfield 27, 3) := by decide +kernel
theorem dX2_readHead_4 : decode cX2_readHead 4 = .ok (.iconst 4, 1) := by decide +kernel
theorem dX2_readHead_5 : decode cX2_readHead 5 = .ok (.invokevirtual 100, 3) := by decide +kernel
theorem dX2_readHead_8 : decode cX2_readHead 8 = .ok (.ifCond .ne 5, 3) := by decide +kernel
theorem dX2_readHead_11 : decode cX2_readHead 11 = .ok (.iconst 0, 1) := by decide +kernel
theorem dX2_readHead_12 : decode cX2_readHead 12 = .ok (.ireturn, 1) := by decide +kernel
theorem dX2_readHead_13 : decode cX2_readHead 13 = .ok (.aload_n 0, 1) := by decide +kernel
theorem dX2_readHead_14 : decode cX2_readHead 14 = .ok (.getfield 18, 3) := by decide +kernel
theorem dX2_readHead_17 : decode cX2_readHead 17 = .ok (.iconst 0, 1) := by decide +kernel
theorem dX2_readHead_18 : decode cX2_readHead 18 = .ok (.invokevirtual 104, 3) := by decide +kernel
theorem dX2_readHead_21 : decode cX2_readHead 21 = .ok (.ldc 108, 2) := by decide +kernel
theorem dX2_readHead_23 : decode cX2_readHead 23 = .ok (.if_icmp .eq 13, 3) := by decide +kernel
theorem dX2_readHead_26 : decode cX2_readHead 26 = .ok (.aload_n 0, 1) := by decide +kernel
theorem dX2_readHead_27 : decode cX2_readHead 27 = .ok (.getfield 27, 3) := by decide +kernel
theorem dX2_readHead_30 : decode cX2_readHead 30 = .ok (.iconst 2, 1) := by decide +kernel
theorem dX2_readHead_31 : decode cX2_readHead 31 = .ok (.iconst 0, 1) := by decide +kernel
theorem dX2_readHead_32 : decode cX2_readHead 32 = .ok (.invokevirtual 93, 3) := by decide +kernel
theorem dX2_readHead_35 : decode cX2_readHead 35 = .ok (.ireturn, 1) := by decide +kernel
theorem dX2_readHead_36 : decode cX2_readHead 36 = .ok (.aload_n 0, 1) := by decide +kernel
theorem dX2_readHead_37 : decode cX2_readHead 37 = .ok (.getfield 27, 3) := by decide +kernel
theorem dX2_readHead_40 : decode cX2_readHead 40 = .ok (.iconst 4, 1) := by decide +kernel
theorem dX2_readHead_41 : decode cX2_readHead 41 = .ok (.invokevirtual 100, 3) := by decide +kernel
theorem dX2_readHead_44 : decode cX2_readHead 44 = .ok (.ifCond .ne 5, 3) := by decide +kernel
theorem dX2_readHead_47 : decode cX2_readHead 47 = .ok (.iconst 0, 1) := by decide +kernel
theorem dX2_readHead_48 : decode cX2_readHead 48 = .ok (.ireturn, 1) := by decide +kernel
theorem dX2_readHead_49 : decode cX2_readHead 49 = .ok (.aload_n 0, 1) := by decide +kernel
theorem dX2_readHead_50 : decode cX2_readHead 50 = .ok (.getfield 18, 3) := by decide +kernel
theorem dX2_readHead_53 : decode cX2_readHead 53 = .ok (.bipush 6, 2) := by decide +kernel
theorem dX2_readHead_55 : decode cX2_readHead 55 = .ok (.invokevirtual 109, 3) := by decide +kernel
theorem dX2_readHead_58 : decode cX2_readHead 58 = .ok (.istore_n 1, 1) := by decide +kernel
theorem dX2_readHead_59 : decode cX2_readHead 59 = .ok (.iload_n 1, 1) := by decide +kernel
theorem dX2_readHead_60 : decode cX2_readHead 60 = .ok (.bipush 45, 2) := by decide +kernel
theorem dX2_readHead_62 : decode cX2_readHead 62 = .ok (.if_icmp .lt 9, 3) := by decide +kernel
theorem dX2_readHead_65 : decode cX2_readHead 65 = .ok (.iload_n 1, 1) := by decide +kernel
theorem dX2_readHead_66 : decode cX2_readHead 66 = .ok (.bipush 69, 2) := by decide +kernel
theorem dX2_readHead_68 : decode cX2_readHead 68 = .ok (.if_icmp .le 16, 3) := by decide +kernel
theorem dX2_readHead_71 : decode cX2_readHead 71 = .ok (.aload_n 0, 1) := by decide +kernel
theorem dX2_readHead_72 : decode cX2_readHead 72 = .ok (.getfield 27, 3) := by decide +kernel
theorem dX2_readHead_75 : decode cX2_readHead 75 = .ok (.iconst 3, 1) := by decide +kernel
theorem dX2_readHead_76 : decode cX2_readHead 76 = .ok (.bipush 6, 2) := by decide +kernel
theorem dX2_readHead_78 : decode cX2_readHead 78 = .ok (.invokevirtual 93, 3) := by decide +kernel
theorem dX2_readHead_81 : decode cX2_readHead 81 = .ok (.ifCond .eq 7, 3) := by decide +kernel
theorem dX2_readHead_84 : decode cX2_readHead 84 = .ok (.iconst 1, 1) := by decide +kernel
theorem dX2_readHead_85 : decode cX2_readHead 85 = .ok (.goto 4, 3) := by decide +kernel
theorem dX2_readHead_88 : decode cX2_readHead 88 = .ok (.iconst 0, 1) := by decide +kernel
theorem dX2_readHead_89 : decode cX2_readHead 89 = .ok (.ireturn, 1) := by decide +kernel
theorem dX2_readClass_0 : decode cX2_readClass 0 = .ok (.aload_n 0, 1) := by decide +kernel
theorem dX2_readClass_1 : decode cX2_readClass 1 = .ok (.getfield 27, 3) := by decide +kernel
theorem dX2_readClass_4 : decode cX2_readClass 4 = .ok (.getfield 87, 3) := by decide +kernel
theorem dX2_readClass_7 : decode cX2_readClass 7 = .ok (.istore_n 1, 1) := by decide +kernel
theorem dX2_readClass_8 : decode cX2_readClass 8 = .ok (.aload_n 0, 1) := by decide +kernel
theorem dX2_readClass_9 : decode cX2_readClass 9 = .ok (.getfield 27, 3) := by decide +kernel
theorem dX2_readClass_12 : decode cX2_readClass 12 = .ok (.iconst 2, 1) := by decide +kernel
theorem dX2_readClass_13 : decode cX2_readClass 13 = .ok (.invokevirtual 100, 3) := by decide +kernel
theorem dX2_readClass_16 : decode cX2_readClass 16 = .ok (.ifCond .ne 5, 3) := by decide +kernel
theorem dX2_readClass_19 : decode cX2_readClass 19 = .ok (.iconst 0, 1) := by decide +kernel
theorem dX2_readClass_20 : decode cX2_readClass 20 = .ok (.ireturn, 1) := by decide +kernel
theorem dX2_readClass_21 : decode cX2_readClass 21 = .ok (.aload_n 0, 1) := by decide +kernel
theorem dX2_readClass_22 : decode cX2_readClass 22 = .ok (.getfield 18, 3) := by decide +kernel
theorem dX2_readClass_25 : decode cX2_readClass 25 = .ok (.iload_n 1, 1) := by decide +kernel
theorem dX2_readClass_26 : decode cX2_readClass 26 = .ok (.invokevirtual 109, 3) := by decide +kernel
theorem dX2_readClass_29 : decode cX2_readClass 29 = .ok (.invokestatic 112, 3) := by decide +kernel
theorem dX2_readClass_32 : decode cX2_readClass 32 = .ok (.ifCond .ne 14, 3) := by decide +kernel
theorem dX2_readClass_35 : decode cX2_readClass 35 = .ok (.aload_n 0, 1) := by decide +kernel
theorem dX2_readClass_36 : decode cX2_readClass 36 = .ok (.getfield 27, 3) := by decide +kernel
theorem dX2_readClass_39 : decode cX2_readClass 39 = .ok (.bipush 11, 2) := by decide +kernel
theorem dX2_readClass_41 : decode cX2_readClass 41 = .ok (.iload_n 1, 1) := by decide +kernel
theorem dX2_readClass_42 : decode cX2_readClass 42 = .ok (.invokevirtual 93, 3) := by decide +kernel
theorem dX2_readClass_45 : decode cX2_readClass 45 = .ok (.ireturn, 1) := by decide +kernel
theorem dX2_readClass_46 : decode cX2_readClass 46 = .ok (.aload_n 0, 1) := by decide +kernel
theorem dX2_readClass_47 : decode cX2_readClass 47 = .ok (.invokevirtual 115, 3) := by decide +kernel
theorem dX2_readClass_50 : decode cX2_readClass 50 = .ok (.ifCond .eq 14, 3) := by decide +kernel
theorem dX2_readClass_53 : decode cX2_readClass 53 = .ok (.aload_n 0, 1) := by decide +kernel
theorem dX2_readClass_54 : decode cX2_readClass 54 = .ok (.invokevirtual 115, 3) := by decide +kernel
theorem dX2_readClass_57 : decode cX2_readClass 57 = .ok (.ifCond .eq 7, 3) := by decide +kernel
theorem dX2_readClass_60 : decode cX2_readClass 60 = .ok (.iconst 1, 1) := by decide +kernel
theorem dX2_readClass_61 : decode cX2_readClass 61 = .ok (.goto 4, 3) := by decide +kernel
theorem dX2_readClass_64 : decode cX2_readClass 64 = .ok (.iconst 0, 1) := by decide +kernel
theorem dX2_readClass_65 : decode cX2_readClass 65 = .ok (.ireturn, 1) := by decide +kernel
theorem dX2_classFlagsFit_0 : decode cX2_classFlagsFit 0 = .ok (.iload_n 0, 1) := by decide +kernel
theorem dX2_classFlagsFit_1 : decode cX2_classFlagsFit 1 = .ok (.sipush 1024, 3) := by decide +kernel
theorem dX2_classFlagsFit_4 : decode cX2_classFlagsFit 4 = .ok (.iand, 1) := by decide +kernel
theorem dX2_classFlagsFit_5 : decode cX2_classFlagsFit 5 = .ok (.ifCond .eq 7, 3) := by decide +kernel
theorem dX2_classFlagsFit_8 : decode cX2_classFlagsFit 8 = .ok (.iconst 1, 1) := by decide +kernel
theorem dX2_classFlagsFit_9 : decode cX2_classFlagsFit 9 = .ok (.goto 4, 3) := by decide +kernel
theorem dX2_classFlagsFit_12 : decode cX2_classFlagsFit 12 = .ok (.iconst 0, 1) := by decide +kernel
theorem dX2_classFlagsFit_13 : decode cX2_classFlagsFit 13 = .ok (.istore_n 1, 1) := by decide +kernel
theorem dX2_classFlagsFit_14 : decode cX2_classFlagsFit 14 = .ok (.iload_n 0, 1) := by decide +kernel
theorem dX2_classFlagsFit_15 : decode cX2_classFlagsFit 15 = .ok (.bipush 16, 2) := by decide +kernel
theorem dX2_classFlagsFit_17 : decode cX2_classFlagsFit 17 = .ok (.iand, 1) := by decide +kernel
theorem dX2_classFlagsFit_18 : decode cX2_classFlagsFit 18 = .ok (.ifCond .eq 7, 3) := by decide +kernel
theorem dX2_classFlagsFit_21 : decode cX2_classFlagsFit 21 = .ok (.iconst 1, 1) := by decide +kernel
theorem dX2_classFlagsFit_22 : decode cX2_classFlagsFit 22 = .ok (.goto 4, 3) := by decide +kernel
theorem dX2_classFlagsFit_25 : decode cX2_classFlagsFit 25 = .ok (.iconst 0, 1) := by decide +kernel
theorem dX2_classFlagsFit_26 : decode cX2_classFlagsFit 26 = .ok (.istore_n 2, 1) := by decide +kernel
theorem dX2_classFlagsFit_27 : decode cX2_classFlagsFit 27 = .ok (.iload_n 0, 1) := by decide +kernel
theorem dX2_classFlagsFit_28 : decode cX2_classFlagsFit 28 = .ok (.sipush 512, 3) := by decide +kernel
theorem dX2_classFlagsFit_31 : decode cX2_classFlagsFit 31 = .ok (.iand, 1) := by decide +kernel
theorem dX2_classFlagsFit_32 : decode cX2_classFlagsFit 32 = .ok (.ifCond .eq 9, 3) := by decide +kernel
theorem dX2_classFlagsFit_35 : decode cX2_classFlagsFit 35 = .ok (.iload_n 1, 1) := by decide +kernel
theorem dX2_classFlagsFit_36 : decode cX2_classFlagsFit 36 = .ok (.ifCond .ne 5, 3) := by decide +kernel
theorem dX2_classFlagsFit_39 : decode cX2_classFlagsFit 39 = .ok (.iconst 0, 1) := by decide +kernel
theorem dX2_classFlagsFit_40 : decode cX2_classFlagsFit 40 = .ok (.ireturn, 1) := by decide +kernel
theorem dX2_classFlagsFit_41 : decode cX2_classFlagsFit 41 = .ok (.iload_n 1, 1) := by decide +kernel
theorem dX2_classFlagsFit_42 : decode cX2_classFlagsFit 42 = .ok (.ifCond .eq 7, 3) := by decide +kernel
theorem dX2_classFlagsFit_45 : decode cX2_classFlagsFit 45 = .ok (.iload_n 2, 1) := by decide +kernel
theorem dX2_classFlagsFit_46 : decode cX2_classFlagsFit 46 = .ok (.ifCond .ne 7, 3) := by decide +kernel
theorem dX2_classFlagsFit_49 : decode cX2_classFlagsFit 49 = .ok (.iconst 1, 1) := by decide +kernel
theorem dX2_classFlagsFit_50 : decode cX2_classFlagsFit 50 = .ok (.goto 4, 3) := by decide +kernel
theorem dX2_classFlagsFit_53 : decode cX2_classFlagsFit 53 = .ok (.iconst 0, 1) := by decide +kernel
theorem dX2_classFlagsFit_54 : decode cX2_classFlagsFit 54 = .ok (.ireturn, 1) := by decide +kernel
theorem dX2_readClassNumber_0 : decode cX2_readClassNumber 0 = .ok (.aload_n 0, 1) := by decide +kernel
theorem dX2_readClassNumber_1 : decode cX2_readClassNumber 1 = .ok (.getfield 27, 3) := by decide +kernel
theorem dX2_readClassNumber_4 : decode cX2_readClassNumber 4 = .ok (.getfield 87, 3) := by decide +kernel
theorem dX2_readClassNumber_7 : decode cX2_readClassNumber 7 = .ok (.istore_n 1, 1) := by decide +kernel
theorem dX2_readClassNumber_8 : decode cX2_readClassNumber 8 = .ok (.aload_n 0, 1) := by decide +kernel
theorem dX2_readClassNumber_9 : decode cX2_readClassNumber 9 = .ok (.getfield 27, 3) := by decide +kernel
theorem dX2_readClassNumber_12 : decode cX2_readClassNumber 12 = .ok (.iconst 2, 1) := by decide +kernel
theorem dX2_readClassNumber_13 : decode cX2_readClassNumber 13 = .ok (.invokevirtual 100, 3) := by decide +kernel
theorem dX2_readClassNumber_16 : decode cX2_readClassNumber 16 = .ok (.ifCond .ne 5, 3) := by decide +kernel
theorem dX2_readClassNumber_19 : decode cX2_readClassNumber 19 = .ok (.iconst 0, 1) := by decide +kernel
theorem dX2_readClassNumber_20 : decode cX2_readClassNumber 20 = .ok (.ireturn, 1) := by decide +kernel
theorem dX2_readClassNumber_21 : decode cX2_readClassNumber 21 = .ok (.aload_n 0, 1) := by decide +kernel
theorem dX2_readClassNumber_22 : decode cX2_readClassNumber 22 = .ok (.getfield 36, 3) := by decide +kernel
theorem dX2_readClassNumber_25 : decode cX2_readClassNumber 25 = .ok (.aload_n 0, 1) := by decide +kernel
theorem dX2_readClassNumber_26 : decode cX2_readClassNumber 26 = .ok (.getfield 18, 3) := by decide +kernel
theorem dX2_readClassNumber_29 : decode cX2_readClassNumber 29 = .ok (.iload_n 1, 1) := by decide +kernel
theorem dX2_readClassNumber_30 : decode cX2_readClassNumber 30 = .ok (.invokevirtual 109, 3) := by decide +kernel
theorem dX2_readClassNumber_33 : decode cX2_readClassNumber 33 = .ok (.invokevirtual 118, 3) := by decide +kernel
theorem dX2_readClassNumber_36 : decode cX2_readClassNumber 36 = .ok (.bipush 7, 2) := by decide +kernel
theorem dX2_readClassNumber_38 : decode cX2_readClassNumber 38 = .ok (.if_icmp .eq 16, 3) := by decide +kernel
theorem dX2_readClassNumber_41 : decode cX2_readClassNumber 41 = .ok (.aload_n 0, 1) := by decide +kernel
theorem dX2_readClassNumber_42 : decode cX2_readClassNumber 42 = .ok (.getfield 27, 3) := by decide +kernel
theorem dX2_readClassNumber_45 : decode cX2_readClassNumber 45 = .ok (.bipush 12, 2) := by decide +kernel
theorem dX2_readClassNumber_47 : decode cX2_readClassNumber 47 = .ok (.iload_n 1, 1) := by decide +kernel
theorem dX2_readClassNumber_48 : decode cX2_readClassNumber 48 = .ok (.invokevirtual 93, 3) := by decide +kernel
theorem dX2_readClassNumber_51 : decode cX2_readClassNumber 51 = .ok (.ifCond .eq 7, 3) := by decide +kernel
theorem dX2_readClassNumber_54 : decode cX2_readClassNumber 54 = .ok (.iconst 1, 1) := by decide +kernel
theorem dX2_readClassNumber_55 : decode cX2_readClassNumber 55 = .ok (.goto 4, 3) := by decide +kernel
theorem dX2_readClassNumber_58 : decode cX2_readClassNumber 58 = .ok (.iconst 0, 1) := by decide +kernel
theorem dX2_readClassNumber_59 : decode cX2_readClassNumber 59 = .ok (.ireturn, 1) := by decide +kernel
theorem dX2_readInterfaces_0 : decode cX2_readInterfaces 0 = .ok (.aload_n 0, 1) := by decide +kernel
theorem dX2_readInterfaces_1 : decode cX2_readInterfaces 1 = .ok (.invokevirtual 121, 3) := by decide +kernel
theorem dX2_readInterfaces_4 : decode cX2_readInterfaces 4 = .ok (.istore_n 1, 1) := by decide +kernel
theorem dX2_readInterfaces_5 : decode cX2_readInterfaces 5 = .ok (.aload_n 0, 1) := by decide +kernel
theorem dX2_readInterfaces_6 : decode cX2_readInterfaces 6 = .ok (.getfield 27, 3) := by decide +kernel
theorem dX2_readInterfaces_9 : decode cX2_readInterfaces 9 = .ok (.getfield 87, 3) := by decide +kernel
theorem dX2_readInterfaces_12 : decode cX2_readInterfaces 12 = .ok (.istore_n 2, 1) := by decide +kernel
theorem dX2_readInterfaces_13 : decode cX2_readInterfaces 13 = .ok (.iconst 0, 1) := by decide +kernel
theorem dX2_readInterfaces_14 : decode cX2_readInterfaces 14 = .ok (.istore_n 3, 1) := by decide +kernel
theorem dX2_readInterfaces_15 : decode cX2_readInterfaces 15 = .ok (.iload_n 3, 1) := by decide +kernel
theorem dX2_readInterfaces_16 : decode cX2_readInterfaces 16 = .ok (.iload_n 1, 1) := by decide +kernel
theorem dX2_readInterfaces_17 : decode cX2_readInterfaces 17 = .ok (.if_icmp .ge 76, 3) := by decide +kernel
theorem dX2_readInterfaces_20 : decode cX2_readInterfaces 20 = .ok (.aload_n 0, 1) := by decide +kernel
theorem dX2_readInterfaces_21 : decode cX2_readInterfaces 21 = .ok (.getfield 27, 3) := by decide +kernel
theorem dX2_readInterfaces_24 : decode cX2_readInterfaces 24 = .ok (.getfield 87, 3) := by decide +kernel
theorem dX2_readInterfaces_27 : decode cX2_readInterfaces 27 = .ok (.istore 4, 2) := by decide +kernel
theorem dX2_readInterfaces_29 : decode cX2_readInterfaces 29 = .ok (.aload_n 0, 1) := by decide +kernel
theorem dX2_readInterfaces_30 : decode cX2_readInterfaces 30 = .ok (.invokevirtual 115, 3) := by decide +kernel
theorem dX2_readInterfaces_33 : decode cX2_readInterfaces 33 = .ok (.ifCond .ne 5, 3) := by decide +kernel
theorem dX2_readInterfaces_36 : decode cX2_readInterfaces 36 = .ok (.iconst 0, 1) := by decide +kernel
theorem dX2_readInterfaces_37 : decode cX2_readInterfaces 37 = .ok (.ireturn, 1) := by decide +kernel
theorem dX2_readInterfaces_38 : decode cX2_readInterfaces 38 = .ok (.iload_n 2, 1) := by decide +kernel
theorem dX2_readInterfaces_39 : decode cX2_readInterfaces 39 = .ok (.istore 5, 2) := by decide +kernel
theorem dX2_readInterfaces_41 : decode cX2_readInterfaces 41 = .ok (.iload 5, 2) := by decide +kernel
theorem dX2_readInterfaces_43 : decode cX2_readInterfaces 43 = .ok (.iload 4, 2) := by decide +kernel
theorem dX2_readInterfaces_45 : decode cX2_readInterfaces 45 = .ok (.if_icmp .ge 42, 3) := by decide +kernel
theorem dX2_readInterfaces_48 : decode cX2_readInterfaces 48 = .ok (.aload_n 0, 1) := by decide +kernel
theorem dX2_readInterfaces_49 : decode cX2_readInterfaces 49 = .ok (.getfield 18, 3) := by decide +kernel
theorem dX2_readInterfaces_52 : decode cX2_readInterfaces 52 = .ok (.iload 5, 2) := by decide +kernel
theorem dX2_readInterfaces_54 : decode cX2_readInterfaces 54 = .ok (.invokevirtual 109, 3) := by decide +kernel
theorem dX2_readInterfaces_57 : decode cX2_readInterfaces 57 = .ok (.aload_n 0, 1) := by decide +kernel
theorem dX2_readInterfaces_58 : decode cX2_readInterfaces 58 = .ok (.getfield 18, 3) := by decide +kernel
theorem dX2_readInterfaces_61 : decode cX2_readInterfaces 61 = .ok (.iload 4, 2) := by decide +kernel
theorem dX2_readInterfaces_63 : decode cX2_readInterfaces 63 = .ok (.invokevirtual 109, 3) := by decide +kernel
theorem dX2_readInterfaces_66 : decode cX2_readInterfaces 66 = .ok (.if_icmp .ne 15, 3) := by decide +kernel
theorem dX2_readInterfaces_69 : decode cX2_readInterfaces 69 = .ok (.aload_n 0, 1) := by decide +kernel
theorem dX2_readInterfaces_70 : decode cX2_readInterfaces 70 = .ok (.getfield 27, 3) := by decide +kernel
theorem dX2_readInterfaces_73 : decode cX2_readInterfaces 73 = .ok (.bipush 13, 2) := by decide +kernel
theorem dX2_readInterfaces_75 : decode cX2_readInterfaces 75 = .ok (.iload 4, 2) := by decide +kernel
theorem dX2_readInterfaces_77 : decode cX2_readInterfaces 77 = .ok (.invokevirtual 93, 3) := by decide +kernel
theorem dX2_readInterfaces_80 : decode cX2_readInterfaces 80 = .ok (.ireturn, 1) := by decide +kernel
theorem dX2_readInterfaces_81 : decode cX2_readInterfaces 81 = .ok (.iinc 5 2, 3) := by decide +kernel
theorem dX2_readInterfaces_84 : decode cX2_readInterfaces 84 = .ok (.goto (-43), 3) := by decide +kernel
theorem dX2_readInterfaces_87 : decode cX2_readInterfaces 87 = .ok (.iinc 3 1, 3) := by decide +kernel
theorem dX2_readInterfaces_90 : decode cX2_readInterfaces 90 = .ok (.goto (-75), 3) := by decide +kernel
theorem dX2_readInterfaces_93 : decode cX2_readInterfaces 93 = .ok (.iload_n 1, 1) := by decide +kernel
theorem dX2_readInterfaces_94 : decode cX2_readInterfaces 94 = .ok (.iconst (-1), 1) := by decide +kernel
theorem dX2_readInterfaces_95 : decode cX2_readInterfaces 95 = .ok (.if_icmp .eq 7, 3) := by decide +kernel
theorem dX2_readInterfaces_98 : decode cX2_readInterfaces 98 = .ok (.iconst 1, 1) := by decide +kernel
theorem dX2_readInterfaces_99 : decode cX2_readInterfaces 99 = .ok (.goto 4, 3) := by decide +kernel
theorem dX2_readInterfaces_102 : decode cX2_readInterfaces 102 = .ok (.iconst 0, 1) := by decide +kernel
theorem dX2_readInterfaces_103 : decode cX2_readInterfaces 103 = .ok (.ireturn, 1) := by decide +kernel
theorem dX2_readNumber_0 : decode cX2_readNumber 0 = .ok (.aload_n 0, 1) := by decide +kernel
theorem dX2_readNumber_1 : decode cX2_readNumber 1 = .ok (.getfield 27, 3) := by decide +kernel
theorem dX2_readNumber_4 : decode cX2_readNumber 4 = .ok (.getfield 87, 3) := by decide +kernel
theorem dX2_readNumber_7 : decode cX2_readNumber 7 = .ok (.istore_n 1, 1) := by decide +kernel
theorem dX2_readNumber_8 : decode cX2_readNumber 8 = .ok (.aload_n 0, 1) := by decide +kernel
theorem dX2_readNumber_9 : decode cX2_readNumber 9 = .ok (.getfield 27, 3) := by decide +kernel
theorem dX2_readNumber_12 : decode cX2_readNumber 12 = .ok (.iconst 2, 1) := by decide +kernel
theorem dX2_readNumber_13 : decode cX2_readNumber 13 = .ok (.invokevirtual 100, 3) := by decide +kernel
theorem dX2_readNumber_16 : decode cX2_readNumber 16 = .ok (.ifCond .eq 14, 3) := by decide +kernel
theorem dX2_readNumber_19 : decode cX2_readNumber 19 = .ok (.aload_n 0, 1) := by decide +kernel
theorem dX2_readNumber_20 : decode cX2_readNumber 20 = .ok (.getfield 18, 3) := by decide +kernel
theorem dX2_readNumber_23 : decode cX2_readNumber 23 = .ok (.iload_n 1, 1) := by decide +kernel
theorem dX2_readNumber_24 : decode cX2_readNumber 24 = .ok (.invokevirtual 109, 3) := by decide +kernel
theorem dX2_readNumber_27 : decode cX2_readNumber 27 = .ok (.goto 4, 3) := by decide +kernel
theorem dX2_readNumber_30 : decode cX2_readNumber 30 = .ok (.iconst (-1), 1) := by decide +kernel
theorem dX2_readNumber_31 : decode cX2_readNumber 31 = .ok (.ireturn, 1) := by decide +kernel
theorem dX2_readFields_0 : decode cX2_readFields 0 = .ok (.aload_n 0, 1) := by decide +kernel
theorem dX2_readFields_1 : decode cX2_readFields 1 = .ok (.invokevirtual 121, 3) := by decide +kernel
theorem dX2_readFields_4 : decode cX2_readFields 4 = .ok (.istore_n 1, 1) := by decide +kernel
theorem dX2_readFields_5 : decode cX2_readFields 5 = .ok (.iconst 0, 1) := by decide +kernel
theorem dX2_readFields_6 : decode cX2_readFields 6 = .ok (.istore_n 2, 1) := by decide +kernel
theorem dX2_readFields_7 : decode cX2_readFields 7 = .ok (.iload_n 2, 1) := by decide +kernel
theorem dX2_readFields_8 : decode cX2_readFields 8 = .ok (.iload_n 1, 1) := by decide +kernel
theorem dX2_readFields_9 : decode cX2_readFields 9 = .ok (.if_icmp .ge 81, 3) := by decide +kernel
theorem dX2_readFields_12 : decode cX2_readFields 12 = .ok (.aload_n 0, 1) := by decide +kernel
theorem dX2_readFields_13 : decode cX2_readFields 13 = .ok (.iload_n 2, 1) := by decide +kernel
theorem dX2_readFields_14 : decode cX2_readFields 14 = .ok (.iconst 0, 1) := by decide +kernel
theorem dX2_readFields_15 : decode cX2_readFields 15 = .ok (.invokevirtual 125, 3) := by decide +kernel
theorem dX2_readFields_18 : decode cX2_readFields 18 = .ok (.ifCond .ne 5, 3) := by decide +kernel
theorem dX2_readFields_21 : decode cX2_readFields 21 = .ok (.iconst 0, 1) := by decide +kernel
theorem dX2_readFields_22 : decode cX2_readFields 22 = .ok (.ireturn, 1) := by decide +kernel
theorem dX2_readFields_23 : decode cX2_readFields 23 = .ok (.aload_n 0, 1) := by decide +kernel
theorem dX2_readFields_24 : decode cX2_readFields 24 = .ok (.invokevirtual 121, 3) := by decide +kernel
theorem dX2_readFields_27 : decode cX2_readFields 27 = .ok (.istore_n 3, 1) := by decide +kernel
theorem dX2_readFields_28 : decode cX2_readFields 28 = .ok (.iconst 0, 1) := by decide +kernel
theorem dX2_readFields_29 : decode cX2_readFields 29 = .ok (.istore 4, 2) := by decide +kernel
theorem dX2_readFields_31 : decode cX2_readFields 31 = .ok (.iload 4, 2) := by decide +kernel
theorem dX2_readFields_33 : decode cX2_readFields 33 = .ok (.iload_n 3, 1) := by decide +kernel
theorem dX2_readFields_34 : decode cX2_readFields 34 = .ok (.if_icmp .ge 33, 3) := by decide +kernel
theorem dX2_readFields_37 : decode cX2_readFields 37 = .ok (.aload_n 0, 1) := by decide +kernel
theorem dX2_readFields_38 : decode cX2_readFields 38 = .ok (.aload_n 0, 1) := by decide +kernel
theorem dX2_readFields_39 : decode cX2_readFields 39 = .ok (.getfield 18, 3) := by decide +kernel
theorem dX2_readFields_42 : decode cX2_readFields 42 = .ok (.aload_n 0, 1) := by decide +kernel
theorem dX2_readFields_43 : decode cX2_readFields 43 = .ok (.getfield 15, 3) := by decide +kernel
theorem dX2_readFields_46 : decode cX2_readFields 46 = .ok (.iload_n 2, 1) := by decide +kernel
theorem dX2_readFields_47 : decode cX2_readFields 47 = .ok (.iaload, 1) := by decide +kernel
theorem dX2_readFields_48 : decode cX2_readFields 48 = .ok (.iconst 4, 1) := by decide +kernel
theorem dX2_readFields_49 : decode cX2_readFields 49 = .ok (.iadd, 1) := by decide +kernel
theorem dX2_readFields_50 : decode cX2_readFields 50 = .ok (.invokevirtual 109, 3) := by decide +kernel
theorem dX2_readFields_53 : decode cX2_readFields 53 = .ok (.invokevirtual 129, 3) := by decide +kernel
theorem dX2_readFields_56 : decode cX2_readFields 56 = .ok (.ifCond .ne 5, 3) := by decide +kernel
theorem dX2_readFields_59 : decode cX2_readFields 59 = .ok (.iconst 0, 1) := by decide +kernel
theorem dX2_readFields_60 : decode cX2_readFields 60 = .ok (.ireturn, 1) := by decide +kernel
theorem dX2_readFields_61 : decode cX2_readFields 61 = .ok (.iinc 4 1, 3) := by decide +kernel
theorem dX2_readFields_64 : decode cX2_readFields 64 = .ok (.goto (-33), 3) := by decide +kernel
theorem dX2_readFields_67 : decode cX2_readFields 67 = .ok (.iload_n 3, 1) := by decide +kernel
theorem dX2_readFields_68 : decode cX2_readFields 68 = .ok (.iconst (-1), 1) := by decide +kernel
theorem dX2_readFields_69 : decode cX2_readFields 69 = .ok (.if_icmp .ne 5, 3) := by decide +kernel
theorem dX2_readFields_72 : decode cX2_readFields 72 = .ok (.iconst 0, 1) := by decide +kernel
theorem dX2_readFields_73 : decode cX2_readFields 73 = .ok (.ireturn, 1) := by decide +kernel
theorem dX2_readFields_74 : decode cX2_readFields 74 = .ok (.aload_n 0, 1) := by decide +kernel
theorem dX2_readFields_75 : decode cX2_readFields 75 = .ok (.getfield 11, 3) := by decide +kernel
theorem dX2_readFields_78 : decode cX2_readFields 78 = .ok (.iconst 1, 1) := by decide +kernel
theorem dX2_readFields_79 : decode cX2_readFields 79 = .ok (.dup2, 1) := by decide +kernel
theorem dX2_readFields_80 : decode cX2_readFields 80 = .ok (.iaload, 1) := by decide +kernel
theorem dX2_readFields_81 : decode cX2_readFields 81 = .ok (.iconst 1, 1) := by decide +kernel
theorem dX2_readFields_82 : decode cX2_readFields 82 = .ok (.iadd, 1) := by decide +kernel
theorem dX2_readFields_83 : decode cX2_readFields 83 = .ok (.iastore, 1) := by decide +kernel
theorem dX2_readFields_84 : decode cX2_readFields 84 = .ok (.iinc 2 1, 3) := by decide +kernel
theorem dX2_readFields_87 : decode cX2_readFields 87 = .ok (.goto (-80), 3) := by decide +kernel
theorem dX2_readFields_90 : decode cX2_readFields 90 = .ok (.iload_n 1, 1) := by decide +kernel
theorem dX2_readFields_91 : decode cX2_readFields 91 = .ok (.iconst (-1), 1) := by decide +kernel
theorem dX2_readFields_92 : decode cX2_readFields 92 = .ok (.if_icmp .eq 7, 3) := by decide +kernel
theorem dX2_readFields_95 : decode cX2_readFields 95 = .ok (.iconst 1, 1) := by decide +kernel
theorem dX2_readFields_96 : decode cX2_readFields 96 = .ok (.goto 4, 3) := by decide +kernel
theorem dX2_readFields_99 : decode cX2_readFields 99 = .ok (.iconst 0, 1) := by decide +kernel
theorem dX2_readFields_100 : decode cX2_readFields 100 = .ok (.ireturn, 1) := by decide +kernel
theorem dX2_readMemberHead_0 : decode cX2_readMemberHead 0 = .ok (.aload_n 0, 1) := by decide +kernel
theorem dX2_readMemberHead_1 : decode cX2_readMemberHead 1 = .ok (.getfield 27, 3) := by decide +kernel
theorem dX2_readMemberHead_4 : decode cX2_readMemberHead 4 = .ok (.getfield 87, 3) := by decide +kernel
theorem dX2_readMemberHead_7 : decode cX2_readMemberHead 7 = .ok (.istore_n 3, 1) := by decide +kernel
theorem dX2_readMemberHead_8 : decode cX2_readMemberHead 8 = .ok (.aload_n 0, 1) := by decide +kernel
theorem dX2_readMemberHead_9 : decode cX2_readMemberHead 9 = .ok (.getfield 27, 3) := by decide +kernel
theorem dX2_readMemberHead_12 : decode cX2_readMemberHead 12 = .ok (.iconst 2, 1) := by decide +kernel
theorem dX2_readMemberHead_13 : decode cX2_readMemberHead 13 = .ok (.invokevirtual 100, 3) := by decide +kernel
theorem dX2_readMemberHead_16 : decode cX2_readMemberHead 16 = .ok (.ifCond .ne 5, 3) := by decide +kernel
theorem dX2_readMemberHead_19 : decode cX2_readMemberHead 19 = .ok (.iconst 0, 1) := by decide +kernel
theorem dX2_readMemberHead_20 : decode cX2_readMemberHead 20 = .ok (.ireturn, 1) := by decide +kernel
theorem dX2_readMemberHead_21 : decode cX2_readMemberHead 21 = .ok (.aload_n 0, 1) := by decide +kernel
theorem dX2_readMemberHead_22 : decode cX2_readMemberHead 22 = .ok (.getfield 18, 3) := by decide +kernel
theorem dX2_readMemberHead_25 : decode cX2_readMemberHead 25 = .ok (.iload_n 3, 1) := by decide +kernel
theorem dX2_readMemberHead_26 : decode cX2_readMemberHead 26 = .ok (.invokevirtual 109, 3) := by decide +kernel
theorem dX2_readMemberHead_29 : decode cX2_readMemberHead 29 = .ok (.istore 4, 2) := by decide +kernel
theorem dX2_readMemberHead_31 : decode cX2_readMemberHead 31 = .ok (.iload_n 2, 1) := by decide +kernel
theorem dX2_readMemberHead_32 : decode cX2_readMemberHead 32 = .ok (.ifCond .eq 14, 3) := by decide +kernel
theorem dX2_readMemberHead_35 : decode cX2_readMemberHead 35 = .ok (.iload 4, 2) := by decide +kernel
theorem dX2_readMemberHead_37 : decode cX2_readMemberHead 37 = .ok (.invokestatic 132, 3) := by decide +kernel
theorem dX2_readMemberHead_40 : decode cX2_readMemberHead 40 = .ok (.ifCond .eq 14, 3) := by decide +kernel
theorem dX2_readMemberHead_43 : decode cX2_readMemberHead 43 = .ok (.goto 22, 3) := by decide +kernel
theorem dX2_readMemberHead_46 : decode cX2_readMemberHead 46 = .ok (.iload 4, 2) := by decide +kernel
theorem dX2_readMemberHead_48 : decode cX2_readMemberHead 48 = .ok (.invokestatic 135, 3) := by decide +kernel
theorem dX2_readMemberHead_51 : decode cX2_readMemberHead 51 = .ok (.ifCond .ne 14, 3) := by decide +kernel
theorem dX2_readMemberHead_54 : decode cX2_readMemberHead 54 = .ok (.aload_n 0, 1) := by decide +kernel
theorem dX2_readMemberHead_55 : decode cX2_readMemberHead 55 = .ok (.getfield 27, 3) := by decide +kernel
theorem dX2_readMemberHead_58 : decode cX2_readMemberHead 58 = .ok (.bipush 14, 2) := by decide +kernel
theorem dX2_readMemberHead_60 : decode cX2_readMemberHead 60 = .ok (.iload_n 3, 1) := by decide +kernel
theorem dX2_readMemberHead_61 : decode cX2_readMemberHead 61 = .ok (.invokevirtual 93, 3) := by decide +kernel
theorem dX2_readMemberHead_64 : decode cX2_readMemberHead 64 = .ok (.ireturn, 1) := by decide +kernel
theorem dX2_readMemberHead_65 : decode cX2_readMemberHead 65 = .ok (.aload_n 0, 1) := by decide +kernel
theorem dX2_readMemberHead_66 : decode cX2_readMemberHead 66 = .ok (.getfield 27, 3) := by decide +kernel
theorem dX2_readMemberHead_69 : decode cX2_readMemberHead 69 = .ok (.iconst 2, 1) := by decide +kernel
theorem dX2_readMemberHead_70 : decode cX2_readMemberHead 70 = .ok (.invokevirtual 100, 3) := by decide +kernel
theorem dX2_readMemberHead_73 : decode cX2_readMemberHead 73 = .ok (.ifCond .ne 5, 3) := by decide +kernel
theorem dX2_readMemberHead_76 : decode cX2_readMemberHead 76 = .ok (.iconst 0, 1) := by decide +kernel
theorem dX2_readMemberHead_77 : decode cX2_readMemberHead 77 = .ok (.ireturn, 1) := by decide +kernel
theorem dX2_readMemberHead_78 : decode cX2_readMemberHead 78 = .ok (.aload_n 0, 1) := by decide +kernel
theorem dX2_readMemberHead_79 : decode cX2_readMemberHead 79 = .ok (.getfield 18, 3) := by decide +kernel
theorem dX2_readMemberHead_82 : decode cX2_readMemberHead 82 = .ok (.iload_n 3, 1) := by decide +kernel
theorem dX2_readMemberHead_83 : decode cX2_readMemberHead 83 = .ok (.iconst 2, 1) := by decide +kernel
theorem dX2_readMemberHead_84 : decode cX2_readMemberHead 84 = .ok (.iadd, 1) := by decide +kernel
theorem dX2_readMemberHead_85 : decode cX2_readMemberHead 85 = .ok (.invokevirtual 109, 3) := by decide +kernel
theorem dX2_readMemberHead_88 : decode cX2_readMemberHead 88 = .ok (.istore 5, 2) := by decide +kernel
theorem dX2_readMemberHead_90 : decode cX2_readMemberHead 90 = .ok (.iload_n 2, 1) := by decide +kernel
theorem dX2_readMemberHead_91 : decode cX2_readMemberHead 91 = .ok (.ifCond .eq 18, 3) := by decide +kernel
theorem dX2_readMemberHead_94 : decode cX2_readMemberHead 94 = .ok (.aload_n 0, 1) := by decide +kernel
theorem dX2_readMemberHead_95 : decode cX2_readMemberHead 95 = .ok (.getfield 36, 3) := by decide +kernel
theorem dX2_readMemberHead_98 : decode cX2_readMemberHead 98 = .ok (.iload 5, 2) := by decide +kernel
theorem dX2_readMemberHead_100 : decode cX2_readMemberHead 100 = .ok (.invokevirtual 138, 3) := by decide +kernel
theorem dX2_readMemberHead_103 : decode cX2_readMemberHead 103 = .ok (.ifCond .eq 18, 3) := by decide +kernel
theorem dX2_readMemberHead_106 : decode cX2_readMemberHead 106 = .ok (.goto 28, 3) := by decide +kernel
theorem dX2_readMemberHead_109 : decode cX2_readMemberHead 109 = .ok (.aload_n 0, 1) := by decide +kernel
theorem dX2_readMemberHead_110 : decode cX2_readMemberHead 110 = .ok (.getfield 36, 3) := by decide +kernel
theorem dX2_readMemberHead_113 : decode cX2_readMemberHead 113 = .ok (.iload 5, 2) := by decide +kernel
theorem dX2_readMemberHead_115 : decode cX2_readMemberHead 115 = .ok (.invokevirtual 141, 3) := by decide +kernel
theorem dX2_readMemberHead_118 : decode cX2_readMemberHead 118 = .ok (.ifCond .ne 16, 3) := by decide +kernel
theorem dX2_readMemberHead_121 : decode cX2_readMemberHead 121 = .ok (.aload_n 0, 1) := by decide +kernel
theorem dX2_readMemberHead_122 : decode cX2_readMemberHead 122 = .ok (.getfield 27, 3) := by decide +kernel
theorem dX2_readMemberHead_125 : decode cX2_readMemberHead 125 = .ok (.bipush 15, 2) := by decide +kernel
theorem dX2_readMemberHead_127 : decode cX2_readMemberHead 127 = .ok (.iload_n 3, 1) := by decide +kernel
theorem dX2_readMemberHead_128 : decode cX2_readMemberHead 128 = .ok (.iconst 2, 1) := by decide +kernel
theorem dX2_readMemberHead_129 : decode cX2_readMemberHead 129 = .ok (.iadd, 1) := by decide +kernel
theorem dX2_readMemberHead_130 : decode cX2_readMemberHead 130 = .ok (.invokevirtual 93, 3) := by decide +kernel
theorem dX2_readMemberHead_133 : decode cX2_readMemberHead 133 = .ok (.ireturn, 1) := by decide +kernel
theorem dX2_readMemberHead_134 : decode cX2_readMemberHead 134 = .ok (.aload_n 0, 1) := by decide +kernel
theorem dX2_readMemberHead_135 : decode cX2_readMemberHead 135 = .ok (.getfield 27, 3) := by decide +kernel
theorem dX2_readMemberHead_138 : decode cX2_readMemberHead 138 = .ok (.iconst 2, 1) := by decide +kernel
theorem dX2_readMemberHead_139 : decode cX2_readMemberHead 139 = .ok (.invokevirtual 100, 3) := by decide +kernel
theorem dX2_readMemberHead_142 : decode cX2_readMemberHead 142 = .ok (.ifCond .ne 5, 3) := by decide +kernel
theorem dX2_readMemberHead_145 : decode cX2_readMemberHead 145 = .ok (.iconst 0, 1) := by decide +kernel
theorem dX2_readMemberHead_146 : decode cX2_readMemberHead 146 = .ok (.ireturn, 1) := by decide +kernel
theorem dX2_readMemberHead_147 : decode cX2_readMemberHead 147 = .ok (.aload_n 0, 1) := by decide +kernel
theorem dX2_readMemberHead_148 : decode cX2_readMemberHead 148 = .ok (.getfield 18, 3) := by decide +kernel
theorem dX2_readMemberHead_151 : decode cX2_readMemberHead 151 = .ok (.iload_n 3, 1) := by decide +kernel
theorem dX2_readMemberHead_152 : decode cX2_readMemberHead 152 = .ok (.iconst 4, 1) := by decide +kernel
theorem dX2_readMemberHead_153 : decode cX2_readMemberHead 153 = .ok (.iadd, 1) := by decide +kernel
theorem dX2_readMemberHead_154 : decode cX2_readMemberHead 154 = .ok (.invokevirtual 109, 3) := by decide +kernel
theorem dX2_readMemberHead_157 : decode cX2_readMemberHead 157 = .ok (.istore 6, 2) := by decide +kernel
theorem dX2_readMemberHead_159 : decode cX2_readMemberHead 159 = .ok (.iload_n 2, 1) := by decide +kernel
theorem dX2_readMemberHead_160 : decode cX2_readMemberHead 160 = .ok (.ifCond .eq 18, 3) := by decide +kernel
theorem dX2_readMemberHead_163 : decode cX2_readMemberHead 163 = .ok (.aload_n 0, 1) := by decide +kernel
theorem dX2_readMemberHead_164 : decode cX2_readMemberHead 164 = .ok (.getfield 36, 3) := by decide +kernel
theorem dX2_readMemberHead_167 : decode cX2_readMemberHead 167 = .ok (.iload 6, 2) := by decide +kernel
theorem dX2_readMemberHead_169 : decode cX2_readMemberHead 169 = .ok (.invokevirtual 144, 3) := by decide +kernel
theorem dX2_readMemberHead_172 : decode cX2_readMemberHead 172 = .ok (.ifCond .eq 18, 3) := by decide +kernel
theorem dX2_readMemberHead_175 : decode cX2_readMemberHead 175 = .ok (.goto 28, 3) := by decide +kernel
theorem dX2_readMemberHead_178 : decode cX2_readMemberHead 178 = .ok (.aload_n 0, 1) := by decide +kernel
theorem dX2_readMemberHead_179 : decode cX2_readMemberHead 179 = .ok (.getfield 36, 3) := by decide +kernel
theorem dX2_readMemberHead_182 : decode cX2_readMemberHead 182 = .ok (.iload 6, 2) := by decide +kernel
theorem dX2_readMemberHead_184 : decode cX2_readMemberHead 184 = .ok (.invokevirtual 147, 3) := by decide +kernel
theorem dX2_readMemberHead_187 : decode cX2_readMemberHead 187 = .ok (.ifCond .ne 16, 3) := by decide +kernel
theorem dX2_readMemberHead_190 : decode cX2_readMemberHead 190 = .ok (.aload_n 0, 1) := by decide +kernel
theorem dX2_readMemberHead_191 : decode cX2_readMemberHead 191 = .ok (.getfield 27, 3) := by decide +kernel
theorem dX2_readMemberHead_194 : decode cX2_readMemberHead 194 = .ok (.bipush 16, 2) := by decide +kernel
theorem dX2_readMemberHead_196 : decode cX2_readMemberHead 196 = .ok (.iload_n 3, 1) := by decide +kernel
theorem dX2_readMemberHead_197 : decode cX2_readMemberHead 197 = .ok (.iconst 4, 1) := by decide +kernel
theorem dX2_readMemberHead_198 : decode cX2_readMemberHead 198 = .ok (.iadd, 1) := by decide +kernel
theorem dX2_readMemberHead_199 : decode cX2_readMemberHead 199 = .ok (.invokevirtual 93, 3) := by decide +kernel
theorem dX2_readMemberHead_202 : decode cX2_readMemberHead 202 = .ok (.ireturn, 1) := by decide +kernel
theorem dX2_readMemberHead_203 : decode cX2_readMemberHead 203 = .ok (.iload_n 2, 1) := by decide +kernel
theorem dX2_readMemberHead_204 : decode cX2_readMemberHead 204 = .ok (.ifCond .ne 9, 3) := by decide +kernel
theorem dX2_readMemberHead_207 : decode cX2_readMemberHead 207 = .ok (.aload_n 0, 1) := by decide +kernel
theorem dX2_readMemberHead_208 : decode cX2_readMemberHead 208 = .ok (.iload 6, 2) := by decide +kernel
theorem dX2_readMemberHead_210 : decode cX2_readMemberHead 210 = .ok (.invokevirtual 150, 3) := by decide +kernel
theorem dX2_readMemberHead_213 : decode cX2_readMemberHead 213 = .ok (.aload_n 0, 1) := by decide +kernel
theorem dX2_readMemberHead_214 : decode cX2_readMemberHead 214 = .ok (.iload_n 1, 1) := by decide +kernel
theorem dX2_readMemberHead_215 : decode cX2_readMemberHead 215 = .ok (.iload_n 3, 1) := by decide +kernel
theorem dX2_readMemberHead_216 : decode cX2_readMemberHead 216 = .ok (.invokevirtual 154, 3) := by decide +kernel
theorem dX2_readMemberHead_219 : decode cX2_readMemberHead 219 = .ok (.ireturn, 1) := by decide +kernel
theorem dX2_countBrackets_0 : decode cX2_countBrackets 0 = .ok (.aload_n 0, 1) := by decide +kernel
theorem dX2_countBrackets_1 : decode cX2_countBrackets 1 = .ok (.getfield 18, 3) := by decide +kernel
theorem dX2_countBrackets_4 : decode cX2_countBrackets 4 = .ok (.getfield 157, 3) := by decide +kernel
theorem dX2_countBrackets_7 : decode cX2_countBrackets 7 = .ok (.aload_n 0, 1) := by decide +kernel
theorem dX2_countBrackets_8 : decode cX2_countBrackets 8 = .ok (.getfield 36, 3) := by decide +kernel
theorem dX2_countBrackets_11 : decode cX2_countBrackets 11 = .ok (.iload_n 1, 1) := by decide +kernel
theorem dX2_countBrackets_12 : decode cX2_countBrackets 12 = .ok (.invokevirtual 160, 3) := by decide +kernel
theorem dX2_countBrackets_15 : decode cX2_countBrackets 15 = .ok (.aload_n 0, 1) := by decide +kernel
theorem dX2_countBrackets_16 : decode cX2_countBrackets 16 = .ok (.getfield 36, 3) := by decide +kernel
theorem dX2_countBrackets_19 : decode cX2_countBrackets 19 = .ok (.iload_n 1, 1) := by decide +kernel
theorem dX2_countBrackets_20 : decode cX2_countBrackets 20 = .ok (.invokevirtual 163, 3) := by decide +kernel
theorem dX2_countBrackets_23 : decode cX2_countBrackets 23 = .ok (.invokestatic 166, 3) := by decide +kernel
theorem dX2_countBrackets_26 : decode cX2_countBrackets 26 = .ok (.istore_n 2, 1) := by decide +kernel
theorem dX2_countBrackets_27 : decode cX2_countBrackets 27 = .ok (.aload_n 0, 1) := by decide +kernel
theorem dX2_countBrackets_28 : decode cX2_countBrackets 28 = .ok (.getfield 11, 3) := by decide +kernel
theorem dX2_countBrackets_31 : decode cX2_countBrackets 31 = .ok (.bipush 6, 2) := by decide +kernel
theorem dX2_countBrackets_33 : decode cX2_countBrackets 33 = .ok (.aload_n 0, 1) := by decide +kernel
theorem dX2_countBrackets_34 : decode cX2_countBrackets 34 = .ok (.getfield 11, 3) := by decide +kernel
theorem dX2_countBrackets_37 : decode cX2_countBrackets 37 = .ok (.bipush 6, 2) := by decide +kernel
theorem dX2_countBrackets_39 : decode cX2_countBrackets 39 = .ok (.iaload, 1) := by decide +kernel
theorem dX2_countBrackets_40 : decode cX2_countBrackets 40 = .ok (.iload_n 2, 1) := by decide +kernel
theorem dX2_countBrackets_41 : decode cX2_countBrackets 41 = .ok (.invokestatic 172, 3) := by decide +kernel
theorem dX2_countBrackets_44 : decode cX2_countBrackets 44 = .ok (.iastore, 1) := by decide +kernel
theorem dX2_countBrackets_45 : decode cX2_countBrackets 45 = .ok (.return_, 1) := by decide +kernel
theorem dX2_fieldFlagsFit_0 : decode cX2_fieldFlagsFit 0 = .ok (.iload_n 0, 1) := by decide +kernel
theorem dX2_fieldFlagsFit_1 : decode cX2_fieldFlagsFit 1 = .ok (.bipush 16, 2) := by decide +kernel
theorem dX2_fieldFlagsFit_3 : decode cX2_fieldFlagsFit 3 = .ok (.iand, 1) := by decide +kernel
theorem dX2_fieldFlagsFit_4 : decode cX2_fieldFlagsFit 4 = .ok (.ifCond .eq 14, 3) := by decide +kernel
theorem dX2_fieldFlagsFit_7 : decode cX2_fieldFlagsFit 7 = .ok (.iload_n 0, 1) := by decide +kernel
theorem dX2_fieldFlagsFit_8 : decode cX2_fieldFlagsFit 8 = .ok (.bipush 64, 2) := by decide +kernel
theorem dX2_fieldFlagsFit_10 : decode cX2_fieldFlagsFit 10 = .ok (.iand, 1) := by decide +kernel
theorem dX2_fieldFlagsFit_11 : decode cX2_fieldFlagsFit 11 = .ok (.ifCond .eq 7, 3) := by decide +kernel
theorem dX2_fieldFlagsFit_14 : decode cX2_fieldFlagsFit 14 = .ok (.iconst 1, 1) := by decide +kernel
theorem dX2_fieldFlagsFit_15 : decode cX2_fieldFlagsFit 15 = .ok (.goto 4, 3) := by decide +kernel
theorem dX2_fieldFlagsFit_18 : decode cX2_fieldFlagsFit 18 = .ok (.iconst 0, 1) := by decide +kernel
theorem dX2_fieldFlagsFit_19 : decode cX2_fieldFlagsFit 19 = .ok (.istore_n 1, 1) := by decide +kernel
theorem dX2_fieldFlagsFit_20 : decode cX2_fieldFlagsFit 20 = .ok (.iload_n 0, 1) := by decide +kernel
theorem dX2_fieldFlagsFit_21 : decode cX2_fieldFlagsFit 21 = .ok (.invokestatic 178, 3) := by decide +kernel
theorem dX2_fieldFlagsFit_24 : decode cX2_fieldFlagsFit 24 = .ok (.ifCond .eq 11, 3) := by decide +kernel
theorem dX2_fieldFlagsFit_27 : decode cX2_fieldFlagsFit 27 = .ok (.iload_n 1, 1) := by decide +kernel
theorem dX2_fieldFlagsFit_28 : decode cX2_fieldFlagsFit 28 = .ok (.ifCond .ne 7, 3) := by decide +kernel
theorem dX2_fieldFlagsFit_31 : decode cX2_fieldFlagsFit 31 = .ok (.iconst 1, 1) := by decide +kernel
theorem dX2_fieldFlagsFit_32 : decode cX2_fieldFlagsFit 32 = .ok (.goto 4, 3) := by decide +kernel
theorem dX2_fieldFlagsFit_35 : decode cX2_fieldFlagsFit 35 = .ok (.iconst 0, 1) := by decide +kernel
theorem dX2_fieldFlagsFit_36 : decode cX2_fieldFlagsFit 36 = .ok (.ireturn, 1) := by decide +kernel
theorem dX2_methodFlagsFit_0 : decode cX2_methodFlagsFit 0 = .ok (.iload_n 0, 1) := by decide +kernel
theorem dX2_methodFlagsFit_1 : decode cX2_methodFlagsFit 1 = .ok (.bipush 26, 2) := by decide +kernel
theorem dX2_methodFlagsFit_3 : decode cX2_methodFlagsFit 3 = .ok (.iand, 1) := by decide +kernel
theorem dX2_methodFlagsFit_4 : decode cX2_methodFlagsFit 4 = .ok (.ifCond .eq 7, 3) := by decide +kernel
theorem dX2_methodFlagsFit_7 : decode cX2_methodFlagsFit 7 = .ok (.iconst 1, 1) := by decide +kernel
theorem dX2_methodFlagsFit_8 : decode cX2_methodFlagsFit 8 = .ok (.goto 4, 3) := by decide +kernel
theorem dX2_methodFlagsFit_11 : decode cX2_methodFlagsFit 11 = .ok (.iconst 0, 1) := by decide +kernel
theorem dX2_methodFlagsFit_12 : decode cX2_methodFlagsFit 12 = .ok (.istore_n 1, 1) := by decide +kernel
theorem dX2_methodFlagsFit_13 : decode cX2_methodFlagsFit 13 = .ok (.iload_n 0, 1) := by decide +kernel
theorem dX2_methodFlagsFit_14 : decode cX2_methodFlagsFit 14 = .ok (.invokestatic 178, 3) := by decide +kernel
theorem dX2_methodFlagsFit_17 : decode cX2_methodFlagsFit 17 = .ok (.ifCond .eq 19, 3) := by decide +kernel
theorem dX2_methodFlagsFit_20 : decode cX2_methodFlagsFit 20 = .ok (.iload_n 0, 1) := by decide +kernel
theorem dX2_methodFlagsFit_21 : decode cX2_methodFlagsFit 21 = .ok (.sipush 1024, 3) := by decide +kernel
theorem dX2_methodFlagsFit_24 : decode cX2_methodFlagsFit 24 = .ok (.iand, 1) := by decide +kernel
theorem dX2_methodFlagsFit_25 : decode cX2_methodFlagsFit 25 = .ok (.ifCond .eq 7, 3) := by decide +kernel
theorem dX2_methodFlagsFit_28 : decode cX2_methodFlagsFit 28 = .ok (.iload_n 1, 1) := by decide +kernel
theorem dX2_methodFlagsFit_29 : decode cX2_methodFlagsFit 29 = .ok (.ifCond .ne 7, 3) := by decide +kernel
theorem dX2_methodFlagsFit_32 : decode cX2_methodFlagsFit 32 = .ok (.iconst 1, 1) := by decide +kernel
theorem dX2_methodFlagsFit_33 : decode cX2_methodFlagsFit 33 = .ok (.goto 4, 3) := by decide +kernel
theorem dX2_methodFlagsFit_36 : decode cX2_methodFlagsFit 36 = .ok (.iconst 0, 1) := by decide +kernel
theorem dX2_methodFlagsFit_37 : decode cX2_methodFlagsFit 37 = .ok (.ireturn, 1) := by decide +kernel
theorem dX2_hasAtMostOneAccess_0 : decode cX2_hasAtMostOneAccess 0 = .ok (.iload_n 0, 1) := by decide +kernel
theorem dX2_hasAtMostOneAccess_1 : decode cX2_hasAtMostOneAccess 1 = .ok (.bipush 7, 2) := by decide +kernel
theorem dX2_hasAtMostOneAccess_3 : decode cX2_hasAtMostOneAccess 3 = .ok (.iand, 1) := by decide +kernel
theorem dX2_hasAtMostOneAccess_4 : decode cX2_hasAtMostOneAccess 4 = .ok (.invokestatic 181, 3) := by decide +kernel
theorem dX2_hasAtMostOneAccess_7 : decode cX2_hasAtMostOneAccess 7 = .ok (.iconst 1, 1) := by decide +kernel
theorem dX2_hasAtMostOneAccess_8 : decode cX2_hasAtMostOneAccess 8 = .ok (.if_icmp .gt 7, 3) := by decide +kernel
theorem dX2_hasAtMostOneAccess_11 : decode cX2_hasAtMostOneAccess 11 = .ok (.iconst 1, 1) := by decide +kernel
theorem dX2_hasAtMostOneAccess_12 : decode cX2_hasAtMostOneAccess 12 = .ok (.goto 4, 3) := by decide +kernel
theorem dX2_hasAtMostOneAccess_15 : decode cX2_hasAtMostOneAccess 15 = .ok (.iconst 0, 1) := by decide +kernel
theorem dX2_hasAtMostOneAccess_16 : decode cX2_hasAtMostOneAccess 16 = .ok (.ireturn, 1) := by decide +kernel
theorem dX2_addMember_0 : decode cX2_addMember 0 = .ok (.iconst 0, 1) := by decide +kernel
theorem dX2_addMember_1 : decode cX2_addMember 1 = .ok (.istore_n 3, 1) := by decide +kernel
theorem dX2_addMember_2 : decode cX2_addMember 2 = .ok (.iload_n 3, 1) := by decide +kernel
theorem dX2_addMember_3 : decode cX2_addMember 3 = .ok (.iload_n 1, 1) := by decide +kernel
theorem dX2_addMember_4 : decode cX2_addMember 4 = .ok (.if_icmp .ge 92, 3) := by decide +kernel
theorem dX2_addMember_7 : decode cX2_addMember 7 = .ok (.aload_n 0, 1) := by decide +kernel
theorem dX2_addMember_8 : decode cX2_addMember 8 = .ok (.getfield 36, 3) := by decide +kernel
theorem dX2_addMember_11 : decode cX2_addMember 11 = .ok (.aload_n 0, 1) := by decide +kernel
theorem dX2_addMember_12 : decode cX2_addMember 12 = .ok (.getfield 18, 3) := by decide +kernel
theorem dX2_addMember_15 : decode cX2_addMember 15 = .ok (.aload_n 0, 1) := by decide +kernel
theorem dX2_addMember_16 : decode cX2_addMember 16 = .ok (.getfield 15, 3) := by decide +kernel
theorem dX2_addMember_19 : decode cX2_addMember 19 = .ok (.iload_n 3, 1) := by decide +kernel
theorem dX2_addMember_20 : decode cX2_addMember 20 = .ok (.iaload, 1) := by decide +kernel
theorem dX2_addMember_21 : decode cX2_addMember 21 = .ok (.iconst 2, 1) := by decide +kernel
theorem dX2_addMember_22 : decode cX2_addMember 22 = .ok (.iadd, 1) := by decide +kernel
theorem dX2_addMember_23 : decode cX2_addMember 23 = .ok (.invokevirtual 109, 3) := by decide +kernel
theorem dX2_addMember_26 : decode cX2_addMember 26 = .ok (.aload_n 0, 1) := by decide +kernel
theorem dX2_addMember_27 : decode cX2_addMember 27 = .ok (.getfield 18, 3) := by decide +kernel
theorem dX2_addMember_30 : decode cX2_addMember 30 = .ok (.iload_n 2, 1) := by decide +kernel
theorem dX2_addMember_31 : decode cX2_addMember 31 = .ok (.iconst 2, 1) := by decide +kernel
theorem dX2_addMember_32 : decode cX2_addMember 32 = .ok (.iadd, 1) := by decide +kernel
theorem dX2_addMember_33 : decode cX2_addMember 33 = .ok (.invokevirtual 109, 3) := by decide +kernel
theorem dX2_addMember_36 : decode cX2_addMember 36 = .ok (.invokevirtual 186, 3) := by decide +kernel
theorem dX2_addMember_39 : decode cX2_addMember 39 = .ok (.ifCond .eq 51, 3) := by decide +kernel
theorem dX2_addMember_42 : decode cX2_addMember 42 = .ok (.aload_n 0, 1) := by decide +kernel
theorem dX2_addMember_43 : decode cX2_addMember 43 = .ok (.getfield 36, 3) := by decide +kernel
theorem dX2_addMember_46 : decode cX2_addMember 46 = .ok (.aload_n 0, 1) := by decide +kernel
theorem dX2_addMember_47 : decode cX2_addMember 47 = .ok (.getfield 18, 3) := by decide +kernel
theorem dX2_addMember_50 : decode cX2_addMember 50 = .ok (.aload_n 0, 1) := by decide +kernel
theorem dX2_addMember_51 : decode cX2_addMember 51 = .ok (.getfield 15, 3) := by decide +kernel
theorem dX2_addMember_54 : decode cX2_addMember 54 = .ok (.iload_n 3, 1) := by decide +kernel
theorem dX2_addMember_55 : decode cX2_addMember 55 = .ok (.iaload, 1) := by decide +kernel
theorem dX2_addMember_56 : decode cX2_addMember 56 = .ok (.iconst 4, 1) := by decide +kernel
theorem dX2_addMember_57 : decode cX2_addMember 57 = .ok (.iadd, 1) := by decide +kernel
theorem dX2_addMember_58 : decode cX2_addMember 58 = .ok (.invokevirtual 109, 3) := by decide +kernel
theorem dX2_addMember_61 : decode cX2_addMember 61 = .ok (.aload_n 0, 1) := by decide +kernel
theorem dX2_addMember_62 : decode cX2_addMember 62 = .ok (.getfield 18, 3) := by decide +kernel
theorem dX2_addMember_65 : decode cX2_addMember 65 = .ok (.iload_n 2, 1) := by decide +kernel
theorem dX2_addMember_66 : decode cX2_addMember 66 = .ok (.iconst 4, 1) := by decide +kernel
theorem dX2_addMember_67 : decode cX2_addMember 67 = .ok (.iadd, 1) := by decide +kernel
theorem dX2_addMember_68 : decode cX2_addMember 68 = .ok (.invokevirtual 109, 3) := by decide +kernel
theorem dX2_addMember_71 : decode cX2_addMember 71 = .ok (.invokevirtual 186, 3) := by decide +kernel
theorem dX2_addMember_74 : decode cX2_addMember 74 = .ok (.ifCond .eq 16, 3) := by decide +kernel
theorem dX2_addMember_77 : decode cX2_addMember 77 = .ok (.aload_n 0, 1) := by decide +kernel
theorem dX2_addMember_78 : decode cX2_addMember 78 = .ok (.getfield 27, 3) := by decide +kernel
theorem dX2_addMember_81 : decode cX2_addMember 81 = .ok (.bipush 17, 2) := by decide +kernel
theorem dX2_addMember_83 : decode cX2_addMember 83 = .ok (.iload_n 2, 1) := by decide +kernel
theorem dX2_addMember_84 : decode cX2_addMember 84 = .ok (.iconst 2, 1) := by decide +kernel
theorem dX2_addMember_85 : decode cX2_addMember 85 = .ok (.iadd, 1) := by decide +kernel
theorem dX2_addMember_86 : decode cX2_addMember 86 = .ok (.invokevirtual 93, 3) := by decide +kernel
theorem dX2_addMember_89 : decode cX2_addMember 89 = .ok (.ireturn, 1) := by decide +kernel
theorem dX2_addMember_90 : decode cX2_addMember 90 = .ok (.iinc 3 1, 3) := by decide +kernel
theorem dX2_addMember_93 : decode cX2_addMember 93 = .ok (.goto (-91), 3) := by decide +kernel
theorem dX2_addMember_96 : decode cX2_addMember 96 = .ok (.aload_n 0, 1) := by decide +kernel
theorem dX2_addMember_97 : decode cX2_addMember 97 = .ok (.getfield 15, 3) := by decide +kernel
theorem dX2_addMember_100 : decode cX2_addMember 100 = .ok (.iload_n 1, 1) := by decide +kernel
theorem dX2_addMember_101 : decode cX2_addMember 101 = .ok (.iload_n 2, 1) := by decide +kernel
theorem dX2_addMember_102 : decode cX2_addMember 102 = .ok (.iastore, 1) := by decide +kernel
theorem dX2_addMember_103 : decode cX2_addMember 103 = .ok (.iconst 1, 1) := by decide +kernel
theorem dX2_addMember_104 : decode cX2_addMember 104 = .ok (.ireturn, 1) := by decide +kernel
theorem dX2_readFieldAttribute_0 : decode cX2_readFieldAttribute 0 = .ok (.aload_n 0, 1) := by decide +kernel
theorem dX2_readFieldAttribute_1 : decode cX2_readFieldAttribute 1 = .ok (.getfield 27, 3) := by decide +kernel
theorem dX2_readFieldAttribute_4 : decode cX2_readFieldAttribute 4 = .ok (.getfield 87, 3) := by decide +kernel
theorem dX2_readFieldAttribute_7 : decode cX2_readFieldAttribute 7 = .ok (.istore_n 2, 1) := by decide +kernel
theorem dX2_readFieldAttribute_8 : decode cX2_readFieldAttribute 8 = .ok (.aload_n 0, 1) := by decide +kernel
theorem dX2_readFieldAttribute_9 : decode cX2_readFieldAttribute 9 = .ok (.invokevirtual 189, 3) := by decide +kernel
theorem dX2_readFieldAttribute_12 : decode cX2_readFieldAttribute 12 = .ok (.ifCond .eq 10, 3) := by decide +kernel
theorem dX2_readFieldAttribute_15 : decode cX2_readFieldAttribute 15 = .ok (.aload_n 0, 1) := by decide +kernel
theorem dX2_readFieldAttribute_16 : decode cX2_readFieldAttribute 16 = .ok (.invokevirtual 192, 3) := by decide +kernel
theorem dX2_readFieldAttribute_19 : decode cX2_readFieldAttribute 19 = .ok (.ifCond .ne 5, 3) := by decide +kernel
theorem dX2_readFieldAttribute_22 : decode cX2_readFieldAttribute 22 = .ok (.iconst 0, 1) := by decide +kernel
theorem dX2_readFieldAttribute_23 : decode cX2_readFieldAttribute 23 = .ok (.ireturn, 1) := by decide +kernel
theorem dX2_readFieldAttribute_24 : decode cX2_readFieldAttribute 24 = .ok (.aload_n 0, 1) := by decide +kernel
theorem dX2_readFieldAttribute_25 : decode cX2_readFieldAttribute 25 = .ok (.getfield 36, 3) := by decide +kernel
theorem dX2_readFieldAttribute_28 : decode cX2_readFieldAttribute 28 = .ok (.aload_n 0, 1) := by decide +kernel
theorem dX2_readFieldAttribute_29 : decode cX2_readFieldAttribute 29 = .ok (.getfield 18, 3) := by decide +kernel
theorem dX2_readFieldAttribute_32 : decode cX2_readFieldAttribute 32 = .ok (.iload_n 2, 1) := by decide +kernel
theorem dX2_readFieldAttribute_33 : decode cX2_readFieldAttribute 33 = .ok (.invokevirtual 109, 3) := by decide +kernel
theorem dX2_readFieldAttribute_36 : decode cX2_readFieldAttribute 36 = .ok (.ldc 195, 2) := by decide +kernel
theorem dX2_readFieldAttribute_38 : decode cX2_readFieldAttribute 38 = .ok (.invokevirtual 197, 3) := by decide +kernel
theorem dX2_readFieldAttribute_41 : decode cX2_readFieldAttribute 41 = .ok (.ifCond .eq 23, 3) := by decide +kernel
theorem dX2_readFieldAttribute_44 : decode cX2_readFieldAttribute 44 = .ok (.aload_n 0, 1) := by decide +kernel
theorem dX2_readFieldAttribute_45 : decode cX2_readFieldAttribute 45 = .ok (.iload_n 2, 1) := by decide +kernel
theorem dX2_readFieldAttribute_46 : decode cX2_readFieldAttribute 46 = .ok (.iload_n 1, 1) := by decide +kernel
theorem dX2_readFieldAttribute_47 : decode cX2_readFieldAttribute 47 = .ok (.invokevirtual 201, 3) := by decide +kernel
theorem dX2_readFieldAttribute_50 : decode cX2_readFieldAttribute 50 = .ok (.ifCond .ne 14, 3) := by decide +kernel
theorem dX2_readFieldAttribute_53 : decode cX2_readFieldAttribute 53 = .ok (.aload_n 0, 1) := by decide +kernel
theorem dX2_readFieldAttribute_54 : decode cX2_readFieldAttribute 54 = .ok (.getfield 27, 3) := by decide +kernel
theorem dX2_readFieldAttribute_57 : decode cX2_readFieldAttribute 57 = .ok (.bipush 18, 2) := by decide +kernel
theorem dX2_readFieldAttribute_59 : decode cX2_readFieldAttribute 59 = .ok (.iload_n 2, 1) := by decide +kernel
theorem dX2_readFieldAttribute_60 : decode cX2_readFieldAttribute 60 = .ok (.invokevirtual 93, 3) := by decide +kernel
theorem dX2_readFieldAttribute_63 : decode cX2_readFieldAttribute 63 = .ok (.ireturn, 1) := by decide +kernel
theorem dX2_readFieldAttribute_64 : decode cX2_readFieldAttribute 64 = .ok (.aload_n 0, 1) := by decide +kernel
theorem dX2_readFieldAttribute_65 : decode cX2_readFieldAttribute 65 = .ok (.getfield 11, 3) := by decide +kernel
theorem dX2_readFieldAttribute_68 : decode cX2_readFieldAttribute 68 = .ok (.iconst 5, 1) := by decide +kernel
theorem dX2_readFieldAttribute_69 : decode cX2_readFieldAttribute 69 = .ok (.dup2, 1) := by decide +kernel
theorem dX2_readFieldAttribute_70 : decode cX2_readFieldAttribute 70 = .ok (.iaload, 1) := by decide +kernel
theorem dX2_readFieldAttribute_71 : decode cX2_readFieldAttribute 71 = .ok (.iconst 1, 1) := by decide +kernel
theorem dX2_readFieldAttribute_72 : decode cX2_readFieldAttribute 72 = .ok (.iadd, 1) := by decide +kernel
theorem dX2_readFieldAttribute_73 : decode cX2_readFieldAttribute 73 = .ok (.iastore, 1) := by decide +kernel
theorem dX2_readFieldAttribute_74 : decode cX2_readFieldAttribute 74 = .ok (.iconst 1, 1) := by decide +kernel
theorem dX2_readFieldAttribute_75 : decode cX2_readFieldAttribute 75 = .ok (.ireturn, 1) := by decide +kernel
theorem dX2_constantFits_0 : decode cX2_constantFits 0 = .ok (.aload_n 0, 1) := by decide +kernel
theorem dX2_constantFits_1 : decode cX2_constantFits 1 = .ok (.getfield 18, 3) := by decide +kernel
theorem dX2_constantFits_4 : decode cX2_constantFits 4 = .ok (.iload_n 1, 1) := by decide +kernel
theorem dX2_constantFits_5 : decode cX2_constantFits 5 = .ok (.iconst 2, 1) := by decide +kernel
theorem dX2_constantFits_6 : decode cX2_constantFits 6 = .ok (.iadd, 1) := by decide +kernel
theorem dX2_constantFits_7 : decode cX2_constantFits 7 = .ok (.invokevirtual 104, 3) := by decide +kernel
theorem dX2_constantFits_10 : decode cX2_constantFits 10 = .ok (.iconst 2, 1) := by decide +kernel
theorem dX2_constantFits_11 : decode cX2_constantFits 11 = .ok (.if_icmp .eq 5, 3) := by decide +kernel
theorem dX2_constantFits_14 : decode cX2_constantFits 14 = .ok (.iconst 0, 1) := by decide +kernel
theorem dX2_constantFits_15 : decode cX2_constantFits 15 = .ok (.ireturn, 1) := by decide +kernel
theorem dX2_constantFits_16 : decode cX2_constantFits 16 = .ok (.aload_n 0, 1) := by decide +kernel
theorem dX2_constantFits_17 : decode cX2_constantFits 17 = .ok (.getfield 36, 3) := by decide +kernel
theorem dX2_constantFits_20 : decode cX2_constantFits 20 = .ok (.aload_n 0, 1) := by decide +kernel
theorem dX2_constantFits_21 : decode cX2_constantFits 21 = .ok (.getfield 18, 3) := by decide +kernel
theorem dX2_constantFits_24 : decode cX2_constantFits 24 = .ok (.iload_n 1, 1) := by decide +kernel
theorem dX2_constantFits_25 : decode cX2_constantFits 25 = .ok (.bipush 6, 2) := by decide +kernel
theorem dX2_constantFits_27 : decode cX2_constantFits 27 = .ok (.iadd, 1) := by decide +kernel
theorem dX2_constantFits_28 : decode cX2_constantFits 28 = .ok (.invokevirtual 109, 3) := by decide +kernel
theorem dX2_constantFits_31 : decode cX2_constantFits 31 = .ok (.invokevirtual 118, 3) := by decide +kernel
theorem dX2_constantFits_34 : decode cX2_constantFits 34 = .ok (.istore_n 3, 1) := by decide +kernel
theorem dX2_constantFits_35 : decode cX2_constantFits 35 = .ok (.aload_n 0, 1) := by decide +kernel
theorem dX2_constantFits_36 : decode cX2_constantFits 36 = .ok (.getfield 18, 3) := by decide +kernel
theorem dX2_constantFits_39 : decode cX2_constantFits 39 = .ok (.getfield 157, 3) := by decide +kernel
theorem dX2_constantFits_42 : decode cX2_constantFits 42 = .ok (.aload_n 0, 1) := by decide +kernel
theorem dX2_constantFits_43 : decode cX2_constantFits 43 = .ok (.getfield 36, 3) := by decide +kernel
theorem dX2_constantFits_46 : decode cX2_constantFits 46 = .ok (.iload_n 2, 1) := by decide +kernel
theorem dX2_constantFits_47 : decode cX2_constantFits 47 = .ok (.invokevirtual 160, 3) := by decide +kernel
theorem dX2_constantFits_50 : decode cX2_constantFits 50 = .ok (.iaload, 1) := by decide +kernel
theorem dX2_constantFits_51 : decode cX2_constantFits 51 = .ok (.lookupswitch 79 #[(66, 57), (67, 57), (73, 57), (74, 68), (83, 57), (90, 57)], 57) := by decide +kernel
theorem dX2_constantFits_108 : decode cX2_constantFits 108 = .ok (.iload_n 3, 1) := by decide +kernel
theorem dX2_constantFits_109 : decode cX2_constantFits 109 = .ok (.iconst 3, 1) := by decide +kernel
theorem dX2_constantFits_110 : decode cX2_constantFits 110 = .ok (.if_icmp .ne 7, 3) := by decide +kernel
theorem dX2_constantFits_113 : decode cX2_constantFits 113 = .ok (.iconst 1, 1) := by decide +kernel
theorem dX2_constantFits_114 : decode cX2_constantFits 114 = .ok (.goto 4, 3) := by decide +kernel
theorem dX2_constantFits_117 : decode cX2_constantFits 117 = .ok (.iconst 0, 1) := by decide +kernel
theorem dX2_constantFits_118 : decode cX2_constantFits 118 = .ok (.ireturn, 1) := by decide +kernel
theorem dX2_constantFits_119 : decode cX2_constantFits 119 = .ok (.iload_n 3, 1) := by decide +kernel
theorem dX2_constantFits_120 : decode cX2_constantFits 120 = .ok (.iconst 5, 1) := by decide +kernel
theorem dX2_constantFits_121 : decode cX2_constantFits 121 = .ok (.if_icmp .ne 7, 3) := by decide +kernel
theorem dX2_constantFits_124 : decode cX2_constantFits 124 = .ok (.iconst 1, 1) := by decide +kernel
theorem dX2_constantFits_125 : decode cX2_constantFits 125 = .ok (.goto 4, 3) := by decide +kernel
theorem dX2_constantFits_128 : decode cX2_constantFits 128 = .ok (.iconst 0, 1) := by decide +kernel
theorem dX2_constantFits_129 : decode cX2_constantFits 129 = .ok (.ireturn, 1) := by decide +kernel
theorem dX2_constantFits_130 : decode cX2_constantFits 130 = .ok (.iconst 0, 1) := by decide +kernel
theorem dX2_constantFits_131 : decode cX2_constantFits 131 = .ok (.ireturn, 1) := by decide +kernel
theorem dX2_readMethods_0 : decode cX2_readMethods 0 = .ok (.aload_n 0, 1) := by decide +kernel
theorem dX2_readMethods_1 : decode cX2_readMethods 1 = .ok (.invokevirtual 121, 3) := by decide +kernel
theorem dX2_readMethods_4 : decode cX2_readMethods 4 = .ok (.istore_n 1, 1) := by decide +kernel
theorem dX2_readMethods_5 : decode cX2_readMethods 5 = .ok (.iconst 0, 1) := by decide +kernel
theorem dX2_readMethods_6 : decode cX2_readMethods 6 = .ok (.istore_n 2, 1) := by decide +kernel
theorem dX2_readMethods_7 : decode cX2_readMethods 7 = .ok (.iload_n 2, 1) := by decide +kernel
theorem dX2_readMethods_8 : decode cX2_readMethods 8 = .ok (.iload_n 1, 1) := by decide +kernel
theorem dX2_readMethods_9 : decode cX2_readMethods 9 = .ok (.if_icmp .ge 123, 3) := by decide +kernel
theorem dX2_readMethods_12 : decode cX2_readMethods 12 = .ok (.aload_n 0, 1) := by decide +kernel
theorem dX2_readMethods_13 : decode cX2_readMethods 13 = .ok (.iload_n 2, 1) := by decide +kernel
theorem dX2_readMethods_14 : decode cX2_readMethods 14 = .ok (.iconst 1, 1) := by decide +kernel
theorem dX2_readMethods_15 : decode cX2_readMethods 15 = .ok (.invokevirtual 125, 3) := by decide +kernel
theorem dX2_readMethods_18 : decode cX2_readMethods 18 = .ok (.ifCond .ne 5, 3) := by decide +kernel
theorem dX2_readMethods_21 : decode cX2_readMethods 21 = .ok (.iconst 0, 1) := by decide +kernel
theorem dX2_readMethods_22 : decode cX2_readMethods 22 = .ok (.ireturn, 1) := by decide +kernel
theorem dX2_readMethods_23 : decode cX2_readMethods 23 = .ok (.aload_n 0, 1) := by decide +kernel
theorem dX2_readMethods_24 : decode cX2_readMethods 24 = .ok (.iconst 0, 1) := by decide +kernel
theorem dX2_readMethods_25 : decode cX2_readMethods 25 = .ok (.putfield 204, 3) := by decide +kernel
theorem dX2_readMethods_28 : decode cX2_readMethods 28 = .ok (.aload_n 0, 1) := by decide +kernel
theorem dX2_readMethods_29 : decode cX2_readMethods 29 = .ok (.invokevirtual 121, 3) := by decide +kernel
theorem dX2_readMethods_32 : decode cX2_readMethods 32 = .ok (.istore_n 3, 1) := by decide +kernel
theorem dX2_readMethods_33 : decode cX2_readMethods 33 = .ok (.iconst 0, 1) := by decide +kernel
theorem dX2_readMethods_34 : decode cX2_readMethods 34 = .ok (.istore 4, 2) := by decide +kernel
theorem dX2_readMethods_36 : decode cX2_readMethods 36 = .ok (.iload 4, 2) := by decide +kernel
theorem dX2_readMethods_38 : decode cX2_readMethods 38 = .ok (.iload_n 3, 1) := by decide +kernel
theorem dX2_readMethods_39 : decode cX2_readMethods 39 = .ok (.if_icmp .ge 18, 3) := by decide +kernel
theorem dX2_readMethods_42 : decode cX2_readMethods 42 = .ok (.aload_n 0, 1) := by decide +kernel
theorem dX2_readMethods_43 : decode cX2_readMethods 43 = .ok (.invokevirtual 208, 3) := by decide +kernel
theorem dX2_readMethods_46 : decode cX2_readMethods 46 = .ok (.ifCond .ne 5, 3) := by decide +kernel
theorem dX2_readMethods_49 : decode cX2_readMethods 49 = .ok (.iconst 0, 1) := by decide +kernel
theorem dX2_readMethods_50 : decode cX2_readMethods 50 = .ok (.ireturn, 1) := by decide +kernel
theorem dX2_readMethods_51 : decode cX2_readMethods 51 = .ok (.iinc 4 1, 3) := by decide +kernel
theorem dX2_readMethods_54 : decode cX2_readMethods 54 = .ok (.goto (-18), 3) := by decide +kernel
theorem dX2_readMethods_57 : decode cX2_readMethods 57 = .ok (.iload_n 3, 1) := by decide +kernel
theorem dX2_readMethods_58 : decode cX2_readMethods 58 = .ok (.iconst (-1), 1) := by decide +kernel
theorem dX2_readMethods_59 : decode cX2_readMethods 59 = .ok (.if_icmp .ne 5, 3) := by decide +kernel
theorem dX2_readMethods_62 : decode cX2_readMethods 62 = .ok (.iconst 0, 1) := by decide +kernel
theorem dX2_readMethods_63 : decode cX2_readMethods 63 = .ok (.ireturn, 1) := by decide +kernel
theorem dX2_readMethods_64 : decode cX2_readMethods 64 = .ok (.aload_n 0, 1) := by decide +kernel
theorem dX2_readMethods_65 : decode cX2_readMethods 65 = .ok (.getfield 18, 3) := by decide +kernel
theorem dX2_readMethods_68 : decode cX2_readMethods 68 = .ok (.aload_n 0, 1) := by decide +kernel
theorem dX2_readMethods_69 : decode cX2_readMethods 69 = .ok (.getfield 15, 3) := by decide +kernel
theorem dX2_readMethods_72 : decode cX2_readMethods 72 = .ok (.iload_n 2, 1) := by decide +kernel
theorem dX2_readMethods_73 : decode cX2_readMethods 73 = .ok (.iaload, 1) := by decide +kernel
theorem dX2_readMethods_74 : decode cX2_readMethods 74 = .ok (.invokevirtual 109, 3) := by decide +kernel
theorem dX2_readMethods_77 : decode cX2_readMethods 77 = .ok (.sipush 1280, 3) := by decide +kernel
theorem dX2_readMethods_80 : decode cX2_readMethods 80 = .ok (.iand, 1) := by decide +kernel
theorem dX2_readMethods_81 : decode cX2_readMethods 81 = .ok (.ifCond .eq 7, 3) := by decide +kernel
theorem dX2_readMethods_84 : decode cX2_readMethods 84 = .ok (.iconst 1, 1) := by decide +kernel
theorem dX2_readMethods_85 : decode cX2_readMethods 85 = .ok (.goto 4, 3) := by decide +kernel
theorem dX2_readMethods_88 : decode cX2_readMethods 88 = .ok (.iconst 0, 1) := by decide +kernel
theorem dX2_readMethods_89 : decode cX2_readMethods 89 = .ok (.istore 4, 2) := by decide +kernel
theorem dX2_readMethods_91 : decode cX2_readMethods 91 = .ok (.iload 4, 2) := by decide +kernel
theorem dX2_readMethods_93 : decode cX2_readMethods 93 = .ok (.aload_n 0, 1) := by decide +kernel
theorem dX2_readMethods_94 : decode cX2_readMethods 94 = .ok (.getfield 204, 3) := by decide +kernel
theorem dX2_readMethods_97 : decode cX2_readMethods 97 = .ok (.if_icmp .ne 19, 3) := by decide +kernel
theorem dX2_readMethods_100 : decode cX2_readMethods 100 = .ok (.aload_n 0, 1) := by decide +kernel
theorem dX2_readMethods_101 : decode cX2_readMethods 101 = .ok (.getfield 27, 3) := by decide +kernel
theorem dX2_readMethods_104 : decode cX2_readMethods 104 = .ok (.bipush 21, 2) := by decide +kernel
theorem dX2_readMethods_106 : decode cX2_readMethods 106 = .ok (.aload_n 0, 1) := by decide +kernel
theorem dX2_readMethods_107 : decode cX2_readMethods 107 = .ok (.getfield 15, 3) := by decide +kernel
theorem dX2_readMethods_110 : decode cX2_readMethods 110 = .ok (.iload_n 2, 1) := by decide +kernel
theorem dX2_readMethods_111 : decode cX2_readMethods 111 = .ok (.iaload, 1) := by decide +kernel
theorem dX2_readMethods_112 : decode cX2_readMethods 112 = .ok (.invokevirtual 93, 3) := by decide +kernel
theorem dX2_readMethods_115 : decode cX2_readMethods 115 = .ok (.ireturn, 1) := by decide +kernel
theorem dX2_readMethods_116 : decode cX2_readMethods 116 = .ok (.aload_n 0, 1) := by decide +kernel
theorem dX2_readMethods_117 : decode cX2_readMethods 117 = .ok (.getfield 11, 3) := by decide +kernel
theorem dX2_readMethods_120 : decode cX2_readMethods 120 = .ok (.iconst 2, 1) := by decide +kernel
theorem dX2_readMethods_121 : decode cX2_readMethods 121 = .ok (.dup2, 1) := by decide +kernel
theorem dX2_readMethods_122 : decode cX2_readMethods 122 = .ok (.iaload, 1) := by decide +kernel
theorem dX2_readMethods_123 : decode cX2_readMethods 123 = .ok (.iconst 1, 1) := by decide +kernel
theorem dX2_readMethods_124 : decode cX2_readMethods 124 = .ok (.iadd, 1) := by decide +kernel
theorem dX2_readMethods_125 : decode cX2_readMethods 125 = .ok (.iastore, 1) := by decide +kernel
theorem dX2_readMethods_126 : decode cX2_readMethods 126 = .ok (.iinc 2 1, 3) := by decide +kernel
theorem dX2_readMethods_129 : decode cX2_readMethods 129 = .ok (.goto (-122), 3) := by decide +kernel
theorem dX2_readMethods_132 : decode cX2_readMethods 132 = .ok (.iload_n 1, 1) := by decide +kernel
theorem dX2_readMethods_133 : decode cX2_readMethods 133 = .ok (.iconst (-1), 1) := by decide +kernel
theorem dX2_readMethods_134 : decode cX2_readMethods 134 = .ok (.if_icmp .eq 7, 3) := by decide +kernel
theorem dX2_readMethods_137 : decode cX2_readMethods 137 = .ok (.iconst 1, 1) := by decide +kernel
theorem dX2_readMethods_138 : decode cX2_readMethods 138 = .ok (.goto 4, 3) := by decide +kernel
theorem dX2_readMethods_141 : decode cX2_readMethods 141 = .ok (.iconst 0, 1) := by decide +kernel
theorem dX2_readMethods_142 : decode cX2_readMethods 142 = .ok (.ireturn, 1) := by decide +kernel
theorem dX2_readMethodAttribute_0 : decode cX2_readMethodAttribute 0 = .ok (.aload_n 0, 1) := by decide +kernel
theorem dX2_readMethodAttribute_1 : decode cX2_readMethodAttribute 1 = .ok (.getfield 27, 3) := by decide +kernel
theorem dX2_readMethodAttribute_4 : decode cX2_readMethodAttribute 4 = .ok (.getfield 87, 3) := by decide +kernel
theorem dX2_readMethodAttribute_7 : decode cX2_readMethodAttribute 7 = .ok (.istore_n 1, 1) := by decide +kernel
theorem dX2_readMethodAttribute_8 : decode cX2_readMethodAttribute 8 = .ok (.aload_n 0, 1) := by decide +kernel
theorem dX2_readMethodAttribute_9 : decode cX2_readMethodAttribute 9 = .ok (.invokevirtual 189, 3) := by decide +kernel
theorem dX2_readMethodAttribute_12 : decode cX2_readMethodAttribute 12 = .ok (.ifCond .ne 5, 3) := by decide +kernel
theorem dX2_readMethodAttribute_15 : decode cX2_readMethodAttribute 15 = .ok (.iconst 0, 1) := by decide +kernel
theorem dX2_readMethodAttribute_16 : decode cX2_readMethodAttribute 16 = .ok (.ireturn, 1) := by decide +kernel
theorem dX2_readMethodAttribute_17 : decode cX2_readMethodAttribute 17 = .ok (.aload_n 0, 1) := by decide +kernel
theorem dX2_readMethodAttribute_18 : decode cX2_readMethodAttribute 18 = .ok (.getfield 36, 3) := by decide +kernel
theorem dX2_readMethodAttribute_21 : decode cX2_readMethodAttribute 21 = .ok (.aload_n 0, 1) := by decide +kernel
theorem dX2_readMethodAttribute_22 : decode cX2_readMethodAttribute 22 = .ok (.getfield 18, 3) := by decide +kernel
theorem dX2_readMethodAttribute_25 : decode cX2_readMethodAttribute 25 = .ok (.iload_n 1, 1) := by decide +kernel
theorem dX2_readMethodAttribute_26 : decode cX2_readMethodAttribute 26 = .ok (.invokevirtual 109, 3) := by decide +kernel
theorem dX2_readMethodAttribute_29 : decode cX2_readMethodAttribute 29 = .ok (.ldc 211, 2) := by decide +kernel
theorem dX2_readMethodAttribute_31 : decode cX2_readMethodAttribute 31 = .ok (.invokevirtual 197, 3) := by decide +kernel
theorem dX2_readMethodAttribute_34 : decode cX2_readMethodAttribute 34 = .ok (.istore_n 2, 1) := by decide +kernel
theorem dX2_readMethodAttribute_35 : decode cX2_readMethodAttribute 35 = .ok (.iload_n 2, 1) := by decide +kernel
theorem dX2_readMethodAttribute_36 : decode cX2_readMethodAttribute 36 = .ok (.ifCond .eq 21, 3) := by decide +kernel
theorem dX2_readMethodAttribute_39 : decode cX2_readMethodAttribute 39 = .ok (.aload_n 0, 1) := by decide +kernel
theorem dX2_readMethodAttribute_40 : decode cX2_readMethodAttribute 40 = .ok (.getfield 204, 3) := by decide +kernel
theorem dX2_readMethodAttribute_43 : decode cX2_readMethodAttribute 43 = .ok (.ifCond .eq 14, 3) := by decide +kernel
theorem dX2_readMethodAttribute_46 : decode cX2_readMethodAttribute 46 = .ok (.aload_n 0, 1) := by decide +kernel
theorem dX2_readMethodAttribute_47 : decode cX2_readMethodAttribute 47 = .ok (.getfield 27, 3) := by decide +kernel
theorem dX2_readMethodAttribute_50 : decode cX2_readMethodAttribute 50 = .ok (.bipush 19, 2) := by decide +kernel
theorem dX2_readMethodAttribute_52 : decode cX2_readMethodAttribute 52 = .ok (.iload_n 1, 1) := by decide +kernel
theorem dX2_readMethodAttribute_53 : decode cX2_readMethodAttribute 53 = .ok (.invokevirtual 93, 3) := by decide +kernel
theorem dX2_readMethodAttribute_56 : decode cX2_readMethodAttribute 56 = .ok (.ireturn, 1) := by decide +kernel
theorem dX2_readMethodAttribute_57 : decode cX2_readMethodAttribute 57 = .ok (.aload_n 0, 1) := by decide +kernel
theorem dX2_readMethodAttribute_58 : decode cX2_readMethodAttribute 58 = .ok (.invokevirtual 192, 3) := by decide +kernel
theorem dX2_readMethodAttribute_61 : decode cX2_readMethodAttribute 61 = .ok (.ifCond .ne 5, 3) := by decide +kernel
theorem dX2_readMethodAttribute_64 : decode cX2_readMethodAttribute 64 = .ok (.iconst 0, 1) := by decide +kernel
theorem dX2_readMethodAttribute_65 : decode cX2_readMethodAttribute 65 = .ok (.ireturn, 1) := by decide +kernel
theorem dX2_readMethodAttribute_66 : decode cX2_readMethodAttribute 66 = .ok (.iload_n 2, 1) := by decide +kernel
theorem dX2_readMethodAttribute_67 : decode cX2_readMethodAttribute 67 = .ok (.ifCond .eq 100, 3) := by decide +kernel
theorem dX2_readMethodAttribute_70 : decode cX2_readMethodAttribute 70 = .ok (.aload_n 0, 1) := by decide +kernel
theorem dX2_readMethodAttribute_71 : decode cX2_readMethodAttribute 71 = .ok (.iconst 1, 1) := by decide +kernel
theorem dX2_readMethodAttribute_72 : decode cX2_readMethodAttribute 72 = .ok (.putfield 204, 3) := by decide +kernel
theorem dX2_readMethodAttribute_75 : decode cX2_readMethodAttribute 75 = .ok (.aload_n 0, 1) := by decide +kernel
theorem dX2_readMethodAttribute_76 : decode cX2_readMethodAttribute 76 = .ok (.iload_n 1, 1) := by decide +kernel
theorem dX2_readMethodAttribute_77 : decode cX2_readMethodAttribute 77 = .ok (.invokevirtual 213, 3) := by decide +kernel
theorem dX2_readMethodAttribute_80 : decode cX2_readMethodAttribute 80 = .ok (.ifCond .eq 47, 3) := by decide +kernel
theorem dX2_readMethodAttribute_83 : decode cX2_readMethodAttribute 83 = .ok (.aload_n 0, 1) := by decide +kernel
theorem dX2_readMethodAttribute_84 : decode cX2_readMethodAttribute 84 = .ok (.getfield 45, 3) := by decide +kernel
theorem dX2_readMethodAttribute_87 : decode cX2_readMethodAttribute 87 = .ok (.invokevirtual 216, 3) := by decide +kernel
theorem dX2_readMethodAttribute_90 : decode cX2_readMethodAttribute 90 = .ok (.ifCond .eq 37, 3) := by decide +kernel
theorem dX2_readMethodAttribute_93 : decode cX2_readMethodAttribute 93 = .ok (.aload_n 0, 1) := by decide +kernel
theorem dX2_readMethodAttribute_94 : decode cX2_readMethodAttribute 94 = .ok (.getfield 45, 3) := by decide +kernel
theorem dX2_readMethodAttribute_97 : decode cX2_readMethodAttribute 97 = .ok (.invokevirtual 219, 3) := by decide +kernel
theorem dX2_readMethodAttribute_100 : decode cX2_readMethodAttribute 100 = .ok (.ifCond .eq 27, 3) := by decide +kernel
theorem dX2_readMethodAttribute_103 : decode cX2_readMethodAttribute 103 = .ok (.aload_n 0, 1) := by decide +kernel
theorem dX2_readMethodAttribute_104 : decode cX2_readMethodAttribute 104 = .ok (.getfield 45, 3) := by decide +kernel
theorem dX2_readMethodAttribute_107 : decode cX2_readMethodAttribute 107 = .ok (.invokevirtual 222, 3) := by decide +kernel
theorem dX2_readMethodAttribute_110 : decode cX2_readMethodAttribute 110 = .ok (.ifCond .eq 17, 3) := by decide +kernel
theorem dX2_readMethodAttribute_113 : decode cX2_readMethodAttribute 113 = .ok (.aload_n 0, 1) := by decide +kernel
theorem dX2_readMethodAttribute_114 : decode cX2_readMethodAttribute 114 = .ok (.getfield 45, 3) := by decide +kernel
theorem dX2_readMethodAttribute_117 : decode cX2_readMethodAttribute 117 = .ok (.invokevirtual 225, 3) := by decide +kernel
theorem dX2_readMethodAttribute_120 : decode cX2_readMethodAttribute 120 = .ok (.ifCond .eq 7, 3) := by decide +kernel
theorem dX2_readMethodAttribute_123 : decode cX2_readMethodAttribute 123 = .ok (.iconst 1, 1) := by decide +kernel
