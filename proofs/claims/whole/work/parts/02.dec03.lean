theorem dX4_takeSecondNumber_35 : decode cX4_takeSecondNumber 35 = .ok (.iconst 0, 1) := by decide +kernel
theorem dX4_takeSecondNumber_36 : decode cX4_takeSecondNumber 36 = .ok (.iastore, 1) := by decide +kernel
theorem dX4_takeSecondNumber_37 : decode cX4_takeSecondNumber 37 = .ok (.iconst 1, 1) := by decide +kernel
theorem dX4_takeSecondNumber_38 : decode cX4_takeSecondNumber 38 = .ok (.ireturn, 1) := by decide +kernel
theorem dX4_fixedSize_0 : decode cX4_fixedSize 0 = .ok (.iload_n 0, 1) := by decide +kernel
theorem dX4_fixedSize_1 : decode cX4_fixedSize 1 = .ok (.tableswitch 70 1 12 #[63, 70, 65, 70, 67, 70, 63, 63, 70, 65, 70, 65], 63) := by decide +kernel
theorem dX4_fixedSize_64 : decode cX4_fixedSize 64 = .ok (.iconst 2, 1) := by decide +kernel
theorem dX4_fixedSize_65 : decode cX4_fixedSize 65 = .ok (.ireturn, 1) := by decide +kernel
theorem dX4_fixedSize_66 : decode cX4_fixedSize 66 = .ok (.iconst 4, 1) := by decide +kernel
theorem dX4_fixedSize_67 : decode cX4_fixedSize 67 = .ok (.ireturn, 1) := by decide +kernel
theorem dX4_fixedSize_68 : decode cX4_fixedSize 68 = .ok (.bipush 8, 2) := by decide +kernel
theorem dX4_fixedSize_70 : decode cX4_fixedSize 70 = .ok (.ireturn, 1) := by decide +kernel
theorem dX4_fixedSize_71 : decode cX4_fixedSize 71 = .ok (.iconst 0, 1) := by decide +kernel
theorem dX4_fixedSize_72 : decode cX4_fixedSize 72 = .ok (.ireturn, 1) := by decide +kernel
theorem dX4_judgeReferences_0 : decode cX4_judgeReferences 0 = .ok (.iconst 1, 1) := by decide +kernel
theorem dX4_judgeReferences_1 : decode cX4_judgeReferences 1 = .ok (.istore_n 1, 1) := by decide +kernel
theorem dX4_judgeReferences_2 : decode cX4_judgeReferences 2 = .ok (.iload_n 1, 1) := by decide +kernel
theorem dX4_judgeReferences_3 : decode cX4_judgeReferences 3 = .ok (.aload_n 0, 1) := by decide +kernel
theorem dX4_judgeReferences_4 : decode cX4_judgeReferences 4 = .ok (.getfield 31, 3) := by decide +kernel
theorem dX4_judgeReferences_7 : decode cX4_judgeReferences 7 = .ok (.if_icmp .gt 33, 3) := by decide +kernel
theorem dX4_judgeReferences_10 : decode cX4_judgeReferences 10 = .ok (.aload_n 0, 1) := by decide +kernel
theorem dX4_judgeReferences_11 : decode cX4_judgeReferences 11 = .ok (.iload_n 1, 1) := by decide +kernel
theorem dX4_judgeReferences_12 : decode cX4_judgeReferences 12 = .ok (.invokevirtual 71, 3) := by decide +kernel
theorem dX4_judgeReferences_15 : decode cX4_judgeReferences 15 = .ok (.ifCond .ne 19, 3) := by decide +kernel
theorem dX4_judgeReferences_18 : decode cX4_judgeReferences 18 = .ok (.aload_n 0, 1) := by decide +kernel
theorem dX4_judgeReferences_19 : decode cX4_judgeReferences 19 = .ok (.getfield 20, 3) := by decide +kernel
theorem dX4_judgeReferences_22 : decode cX4_judgeReferences 22 = .ok (.bipush 8, 2) := by decide +kernel
theorem dX4_judgeReferences_24 : decode cX4_judgeReferences 24 = .ok (.aload_n 0, 1) := by decide +kernel
theorem dX4_judgeReferences_25 : decode cX4_judgeReferences 25 = .ok (.getfield 17, 3) := by decide +kernel
theorem dX4_judgeReferences_28 : decode cX4_judgeReferences 28 = .ok (.iload_n 1, 1) := by decide +kernel
theorem dX4_judgeReferences_29 : decode cX4_judgeReferences 29 = .ok (.iaload, 1) := by decide +kernel
theorem dX4_judgeReferences_30 : decode cX4_judgeReferences 30 = .ok (.invokevirtual 46, 3) := by decide +kernel
theorem dX4_judgeReferences_33 : decode cX4_judgeReferences 33 = .ok (.ireturn, 1) := by decide +kernel
theorem dX4_judgeReferences_34 : decode cX4_judgeReferences 34 = .ok (.iinc 1 1, 3) := by decide +kernel
theorem dX4_judgeReferences_37 : decode cX4_judgeReferences 37 = .ok (.goto (-35), 3) := by decide +kernel
theorem dX4_judgeReferences_40 : decode cX4_judgeReferences 40 = .ok (.iconst 1, 1) := by decide +kernel
theorem dX4_judgeReferences_41 : decode cX4_judgeReferences 41 = .ok (.ireturn, 1) := by decide +kernel
theorem dX4_referencesFit_0 : decode cX4_referencesFit 0 = .ok (.aload_n 0, 1) := by decide +kernel
theorem dX4_referencesFit_1 : decode cX4_referencesFit 1 = .ok (.getfield 13, 3) := by decide +kernel
theorem dX4_referencesFit_4 : decode cX4_referencesFit 4 = .ok (.iload_n 1, 1) := by decide +kernel
theorem dX4_referencesFit_5 : decode cX4_referencesFit 5 = .ok (.iaload, 1) := by decide +kernel
theorem dX4_referencesFit_6 : decode cX4_referencesFit 6 = .ok (.tableswitch 123 7 12 #[38, 38, 123, 57, 123, 91], 38) := by decide +kernel
theorem dX4_referencesFit_44 : decode cX4_referencesFit 44 = .ok (.aload_n 0, 1) := by decide +kernel
theorem dX4_referencesFit_45 : decode cX4_referencesFit 45 = .ok (.aload_n 0, 1) := by decide +kernel
theorem dX4_referencesFit_46 : decode cX4_referencesFit 46 = .ok (.iload_n 1, 1) := by decide +kernel
theorem dX4_referencesFit_47 : decode cX4_referencesFit 47 = .ok (.invokevirtual 74, 3) := by decide +kernel
theorem dX4_referencesFit_50 : decode cX4_referencesFit 50 = .ok (.invokevirtual 77, 3) := by decide +kernel
theorem dX4_referencesFit_53 : decode cX4_referencesFit 53 = .ok (.iconst 1, 1) := by decide +kernel
theorem dX4_referencesFit_54 : decode cX4_referencesFit 54 = .ok (.if_icmp .ne 7, 3) := by decide +kernel
theorem dX4_referencesFit_57 : decode cX4_referencesFit 57 = .ok (.iconst 1, 1) := by decide +kernel
theorem dX4_referencesFit_58 : decode cX4_referencesFit 58 = .ok (.goto 4, 3) := by decide +kernel
theorem dX4_referencesFit_61 : decode cX4_referencesFit 61 = .ok (.iconst 0, 1) := by decide +kernel
theorem dX4_referencesFit_62 : decode cX4_referencesFit 62 = .ok (.ireturn, 1) := by decide +kernel
theorem dX4_referencesFit_63 : decode cX4_referencesFit 63 = .ok (.aload_n 0, 1) := by decide +kernel
theorem dX4_referencesFit_64 : decode cX4_referencesFit 64 = .ok (.aload_n 0, 1) := by decide +kernel
theorem dX4_referencesFit_65 : decode cX4_referencesFit 65 = .ok (.iload_n 1, 1) := by decide +kernel
theorem dX4_referencesFit_66 : decode cX4_referencesFit 66 = .ok (.invokevirtual 74, 3) := by decide +kernel
theorem dX4_referencesFit_69 : decode cX4_referencesFit 69 = .ok (.invokevirtual 77, 3) := by decide +kernel
theorem dX4_referencesFit_72 : decode cX4_referencesFit 72 = .ok (.bipush 7, 2) := by decide +kernel
theorem dX4_referencesFit_74 : decode cX4_referencesFit 74 = .ok (.if_icmp .ne 21, 3) := by decide +kernel
theorem dX4_referencesFit_77 : decode cX4_referencesFit 77 = .ok (.aload_n 0, 1) := by decide +kernel
theorem dX4_referencesFit_78 : decode cX4_referencesFit 78 = .ok (.aload_n 0, 1) := by decide +kernel
theorem dX4_referencesFit_79 : decode cX4_referencesFit 79 = .ok (.iload_n 1, 1) := by decide +kernel
theorem dX4_referencesFit_80 : decode cX4_referencesFit 80 = .ok (.invokevirtual 80, 3) := by decide +kernel
theorem dX4_referencesFit_83 : decode cX4_referencesFit 83 = .ok (.invokevirtual 77, 3) := by decide +kernel
theorem dX4_referencesFit_86 : decode cX4_referencesFit 86 = .ok (.bipush 12, 2) := by decide +kernel
theorem dX4_referencesFit_88 : decode cX4_referencesFit 88 = .ok (.if_icmp .ne 7, 3) := by decide +kernel
theorem dX4_referencesFit_91 : decode cX4_referencesFit 91 = .ok (.iconst 1, 1) := by decide +kernel
theorem dX4_referencesFit_92 : decode cX4_referencesFit 92 = .ok (.goto 4, 3) := by decide +kernel
theorem dX4_referencesFit_95 : decode cX4_referencesFit 95 = .ok (.iconst 0, 1) := by decide +kernel
theorem dX4_referencesFit_96 : decode cX4_referencesFit 96 = .ok (.ireturn, 1) := by decide +kernel
theorem dX4_referencesFit_97 : decode cX4_referencesFit 97 = .ok (.aload_n 0, 1) := by decide +kernel
theorem dX4_referencesFit_98 : decode cX4_referencesFit 98 = .ok (.aload_n 0, 1) := by decide +kernel
theorem dX4_referencesFit_99 : decode cX4_referencesFit 99 = .ok (.iload_n 1, 1) := by decide +kernel
theorem dX4_referencesFit_100 : decode cX4_referencesFit 100 = .ok (.invokevirtual 74, 3) := by decide +kernel
theorem dX4_referencesFit_103 : decode cX4_referencesFit 103 = .ok (.invokevirtual 77, 3) := by decide +kernel
theorem dX4_referencesFit_106 : decode cX4_referencesFit 106 = .ok (.iconst 1, 1) := by decide +kernel
theorem dX4_referencesFit_107 : decode cX4_referencesFit 107 = .ok (.if_icmp .ne 20, 3) := by decide +kernel
theorem dX4_referencesFit_110 : decode cX4_referencesFit 110 = .ok (.aload_n 0, 1) := by decide +kernel
theorem dX4_referencesFit_111 : decode cX4_referencesFit 111 = .ok (.aload_n 0, 1) := by decide +kernel
theorem dX4_referencesFit_112 : decode cX4_referencesFit 112 = .ok (.iload_n 1, 1) := by decide +kernel
theorem dX4_referencesFit_113 : decode cX4_referencesFit 113 = .ok (.invokevirtual 80, 3) := by decide +kernel
theorem dX4_referencesFit_116 : decode cX4_referencesFit 116 = .ok (.invokevirtual 77, 3) := by decide +kernel
theorem dX4_referencesFit_119 : decode cX4_referencesFit 119 = .ok (.iconst 1, 1) := by decide +kernel
theorem dX4_referencesFit_120 : decode cX4_referencesFit 120 = .ok (.if_icmp .ne 7, 3) := by decide +kernel
theorem dX4_referencesFit_123 : decode cX4_referencesFit 123 = .ok (.iconst 1, 1) := by decide +kernel
theorem dX4_referencesFit_124 : decode cX4_referencesFit 124 = .ok (.goto 4, 3) := by decide +kernel
theorem dX4_referencesFit_127 : decode cX4_referencesFit 127 = .ok (.iconst 0, 1) := by decide +kernel
theorem dX4_referencesFit_128 : decode cX4_referencesFit 128 = .ok (.ireturn, 1) := by decide +kernel
theorem dX4_referencesFit_129 : decode cX4_referencesFit 129 = .ok (.iconst 1, 1) := by decide +kernel
theorem dX4_referencesFit_130 : decode cX4_referencesFit 130 = .ok (.ireturn, 1) := by decide +kernel
theorem dX4_judgeTexts_0 : decode cX4_judgeTexts 0 = .ok (.iconst 1, 1) := by decide +kernel
theorem dX4_judgeTexts_1 : decode cX4_judgeTexts 1 = .ok (.istore_n 1, 1) := by decide +kernel
theorem dX4_judgeTexts_2 : decode cX4_judgeTexts 2 = .ok (.iload_n 1, 1) := by decide +kernel
theorem dX4_judgeTexts_3 : decode cX4_judgeTexts 3 = .ok (.aload_n 0, 1) := by decide +kernel
theorem dX4_judgeTexts_4 : decode cX4_judgeTexts 4 = .ok (.getfield 31, 3) := by decide +kernel
theorem dX4_judgeTexts_7 : decode cX4_judgeTexts 7 = .ok (.if_icmp .gt 34, 3) := by decide +kernel
theorem dX4_judgeTexts_10 : decode cX4_judgeTexts 10 = .ok (.aload_n 0, 1) := by decide +kernel
theorem dX4_judgeTexts_11 : decode cX4_judgeTexts 11 = .ok (.iload_n 1, 1) := by decide +kernel
theorem dX4_judgeTexts_12 : decode cX4_judgeTexts 12 = .ok (.invokevirtual 83, 3) := by decide +kernel
theorem dX4_judgeTexts_15 : decode cX4_judgeTexts 15 = .ok (.istore_n 2, 1) := by decide +kernel
theorem dX4_judgeTexts_16 : decode cX4_judgeTexts 16 = .ok (.iload_n 2, 1) := by decide +kernel
theorem dX4_judgeTexts_17 : decode cX4_judgeTexts 17 = .ok (.ifCond .eq 18, 3) := by decide +kernel
theorem dX4_judgeTexts_20 : decode cX4_judgeTexts 20 = .ok (.aload_n 0, 1) := by decide +kernel
theorem dX4_judgeTexts_21 : decode cX4_judgeTexts 21 = .ok (.getfield 20, 3) := by decide +kernel
theorem dX4_judgeTexts_24 : decode cX4_judgeTexts 24 = .ok (.iload_n 2, 1) := by decide +kernel
theorem dX4_judgeTexts_25 : decode cX4_judgeTexts 25 = .ok (.aload_n 0, 1) := by decide +kernel
theorem dX4_judgeTexts_26 : decode cX4_judgeTexts 26 = .ok (.getfield 17, 3) := by decide +kernel
theorem dX4_judgeTexts_29 : decode cX4_judgeTexts 29 = .ok (.iload_n 1, 1) := by decide +kernel
theorem dX4_judgeTexts_30 : decode cX4_judgeTexts 30 = .ok (.iaload, 1) := by decide +kernel
theorem dX4_judgeTexts_31 : decode cX4_judgeTexts 31 = .ok (.invokevirtual 46, 3) := by decide +kernel
theorem dX4_judgeTexts_34 : decode cX4_judgeTexts 34 = .ok (.ireturn, 1) := by decide +kernel
theorem dX4_judgeTexts_35 : decode cX4_judgeTexts 35 = .ok (.iinc 1 1, 3) := by decide +kernel
theorem dX4_judgeTexts_38 : decode cX4_judgeTexts 38 = .ok (.goto (-36), 3) := by decide +kernel
theorem dX4_judgeTexts_41 : decode cX4_judgeTexts 41 = .ok (.iconst 1, 1) := by decide +kernel
theorem dX4_judgeTexts_42 : decode cX4_judgeTexts 42 = .ok (.ireturn, 1) := by decide +kernel
theorem dX4_textRule_0 : decode cX4_textRule 0 = .ok (.aload_n 0, 1) := by decide +kernel
theorem dX4_textRule_1 : decode cX4_textRule 1 = .ok (.getfield 13, 3) := by decide +kernel
theorem dX4_textRule_4 : decode cX4_textRule 4 = .ok (.iload_n 1, 1) := by decide +kernel
theorem dX4_textRule_5 : decode cX4_textRule 5 = .ok (.iaload, 1) := by decide +kernel
theorem dX4_textRule_6 : decode cX4_textRule 6 = .ok (.bipush 7, 2) := by decide +kernel
theorem dX4_textRule_8 : decode cX4_textRule 8 = .ok (.if_icmp .ne 39, 3) := by decide +kernel
theorem dX4_textRule_11 : decode cX4_textRule 11 = .ok (.aload_n 0, 1) := by decide +kernel
theorem dX4_textRule_12 : decode cX4_textRule 12 = .ok (.iload_n 1, 1) := by decide +kernel
theorem dX4_textRule_13 : decode cX4_textRule 13 = .ok (.invokevirtual 74, 3) := by decide +kernel
theorem dX4_textRule_16 : decode cX4_textRule 16 = .ok (.istore_n 2, 1) := by decide +kernel
theorem dX4_textRule_17 : decode cX4_textRule 17 = .ok (.aload_n 0, 1) := by decide +kernel
theorem dX4_textRule_18 : decode cX4_textRule 18 = .ok (.getfield 30, 3) := by decide +kernel
theorem dX4_textRule_21 : decode cX4_textRule 21 = .ok (.getfield 53, 3) := by decide +kernel
theorem dX4_textRule_24 : decode cX4_textRule 24 = .ok (.aload_n 0, 1) := by decide +kernel
theorem dX4_textRule_25 : decode cX4_textRule 25 = .ok (.iload_n 2, 1) := by decide +kernel
theorem dX4_textRule_26 : decode cX4_textRule 26 = .ok (.invokevirtual 86, 3) := by decide +kernel
theorem dX4_textRule_29 : decode cX4_textRule 29 = .ok (.aload_n 0, 1) := by decide +kernel
theorem dX4_textRule_30 : decode cX4_textRule 30 = .ok (.iload_n 2, 1) := by decide +kernel
theorem dX4_textRule_31 : decode cX4_textRule 31 = .ok (.invokevirtual 89, 3) := by decide +kernel
theorem dX4_textRule_34 : decode cX4_textRule 34 = .ok (.invokestatic 92, 3) := by decide +kernel
theorem dX4_textRule_37 : decode cX4_textRule 37 = .ok (.ifCond .eq 7, 3) := by decide +kernel
theorem dX4_textRule_40 : decode cX4_textRule 40 = .ok (.iconst 0, 1) := by decide +kernel
theorem dX4_textRule_41 : decode cX4_textRule 41 = .ok (.goto 5, 3) := by decide +kernel
theorem dX4_textRule_44 : decode cX4_textRule 44 = .ok (.bipush 9, 2) := by decide +kernel
theorem dX4_textRule_46 : decode cX4_textRule 46 = .ok (.ireturn, 1) := by decide +kernel
theorem dX4_textRule_47 : decode cX4_textRule 47 = .ok (.aload_n 0, 1) := by decide +kernel
theorem dX4_textRule_48 : decode cX4_textRule 48 = .ok (.getfield 13, 3) := by decide +kernel
theorem dX4_textRule_51 : decode cX4_textRule 51 = .ok (.iload_n 1, 1) := by decide +kernel
theorem dX4_textRule_52 : decode cX4_textRule 52 = .ok (.iaload, 1) := by decide +kernel
theorem dX4_textRule_53 : decode cX4_textRule 53 = .ok (.bipush 12, 2) := by decide +kernel
theorem dX4_textRule_55 : decode cX4_textRule 55 = .ok (.if_icmp .eq 5, 3) := by decide +kernel
theorem dX4_textRule_58 : decode cX4_textRule 58 = .ok (.iconst 0, 1) := by decide +kernel
theorem dX4_textRule_59 : decode cX4_textRule 59 = .ok (.ireturn, 1) := by decide +kernel
theorem dX4_textRule_60 : decode cX4_textRule 60 = .ok (.aload_n 0, 1) := by decide +kernel
theorem dX4_textRule_61 : decode cX4_textRule 61 = .ok (.aload_n 0, 1) := by decide +kernel
theorem dX4_textRule_62 : decode cX4_textRule 62 = .ok (.iload_n 1, 1) := by decide +kernel
theorem dX4_textRule_63 : decode cX4_textRule 63 = .ok (.invokevirtual 74, 3) := by decide +kernel
theorem dX4_textRule_66 : decode cX4_textRule 66 = .ok (.invokevirtual 96, 3) := by decide +kernel
theorem dX4_textRule_69 : decode cX4_textRule 69 = .ok (.ifCond .ne 6, 3) := by decide +kernel
theorem dX4_textRule_72 : decode cX4_textRule 72 = .ok (.bipush 9, 2) := by decide +kernel
theorem dX4_textRule_74 : decode cX4_textRule 74 = .ok (.ireturn, 1) := by decide +kernel
theorem dX4_textRule_75 : decode cX4_textRule 75 = .ok (.aload_n 0, 1) := by decide +kernel
theorem dX4_textRule_76 : decode cX4_textRule 76 = .ok (.aload_n 0, 1) := by decide +kernel
theorem dX4_textRule_77 : decode cX4_textRule 77 = .ok (.iload_n 1, 1) := by decide +kernel
theorem dX4_textRule_78 : decode cX4_textRule 78 = .ok (.invokevirtual 80, 3) := by decide +kernel
theorem dX4_textRule_81 : decode cX4_textRule 81 = .ok (.invokevirtual 99, 3) := by decide +kernel
theorem dX4_textRule_84 : decode cX4_textRule 84 = .ok (.ifCond .eq 7, 3) := by decide +kernel
theorem dX4_textRule_87 : decode cX4_textRule 87 = .ok (.iconst 0, 1) := by decide +kernel
theorem dX4_textRule_88 : decode cX4_textRule 88 = .ok (.goto 5, 3) := by decide +kernel
theorem dX4_textRule_91 : decode cX4_textRule 91 = .ok (.bipush 10, 2) := by decide +kernel
theorem dX4_textRule_93 : decode cX4_textRule 93 = .ok (.ireturn, 1) := by decide +kernel
theorem dX4_kindOf_0 : decode cX4_kindOf 0 = .ok (.iload_n 1, 1) := by decide +kernel
theorem dX4_kindOf_1 : decode cX4_kindOf 1 = .ok (.iconst 1, 1) := by decide +kernel
theorem dX4_kindOf_2 : decode cX4_kindOf 2 = .ok (.if_icmp .lt 20, 3) := by decide +kernel
theorem dX4_kindOf_5 : decode cX4_kindOf 5 = .ok (.iload_n 1, 1) := by decide +kernel
theorem dX4_kindOf_6 : decode cX4_kindOf 6 = .ok (.aload_n 0, 1) := by decide +kernel
theorem dX4_kindOf_7 : decode cX4_kindOf 7 = .ok (.getfield 31, 3) := by decide +kernel
theorem dX4_kindOf_10 : decode cX4_kindOf 10 = .ok (.if_icmp .gt 12, 3) := by decide +kernel
theorem dX4_kindOf_13 : decode cX4_kindOf 13 = .ok (.aload_n 0, 1) := by decide +kernel
theorem dX4_kindOf_14 : decode cX4_kindOf 14 = .ok (.getfield 13, 3) := by decide +kernel
theorem dX4_kindOf_17 : decode cX4_kindOf 17 = .ok (.iload_n 1, 1) := by decide +kernel
theorem dX4_kindOf_18 : decode cX4_kindOf 18 = .ok (.iaload, 1) := by decide +kernel
theorem dX4_kindOf_19 : decode cX4_kindOf 19 = .ok (.goto 4, 3) := by decide +kernel
theorem dX4_kindOf_22 : decode cX4_kindOf 22 = .ok (.iconst 0, 1) := by decide +kernel
theorem dX4_kindOf_23 : decode cX4_kindOf 23 = .ok (.ireturn, 1) := by decide +kernel
theorem dX4_first_0 : decode cX4_first 0 = .ok (.aload_n 0, 1) := by decide +kernel
theorem dX4_first_1 : decode cX4_first 1 = .ok (.getfield 30, 3) := by decide +kernel
theorem dX4_first_4 : decode cX4_first 4 = .ok (.aload_n 0, 1) := by decide +kernel
theorem dX4_first_5 : decode cX4_first 5 = .ok (.getfield 17, 3) := by decide +kernel
theorem dX4_first_8 : decode cX4_first 8 = .ok (.iload_n 1, 1) := by decide +kernel
theorem dX4_first_9 : decode cX4_first 9 = .ok (.iaload, 1) := by decide +kernel
theorem dX4_first_10 : decode cX4_first 10 = .ok (.iconst 1, 1) := by decide +kernel
theorem dX4_first_11 : decode cX4_first 11 = .ok (.iadd, 1) := by decide +kernel
theorem dX4_first_12 : decode cX4_first 12 = .ok (.invokevirtual 42, 3) := by decide +kernel
theorem dX4_first_15 : decode cX4_first 15 = .ok (.ireturn, 1) := by decide +kernel
theorem dX4_second_0 : decode cX4_second 0 = .ok (.aload_n 0, 1) := by decide +kernel
theorem dX4_second_1 : decode cX4_second 1 = .ok (.getfield 30, 3) := by decide +kernel
theorem dX4_second_4 : decode cX4_second 4 = .ok (.aload_n 0, 1) := by decide +kernel
theorem dX4_second_5 : decode cX4_second 5 = .ok (.getfield 17, 3) := by decide +kernel
theorem dX4_second_8 : decode cX4_second 8 = .ok (.iload_n 1, 1) := by decide +kernel
theorem dX4_second_9 : decode cX4_second 9 = .ok (.iaload, 1) := by decide +kernel
theorem dX4_second_10 : decode cX4_second 10 = .ok (.iconst 3, 1) := by decide +kernel
theorem dX4_second_11 : decode cX4_second 11 = .ok (.iadd, 1) := by decide +kernel
theorem dX4_second_12 : decode cX4_second 12 = .ok (.invokevirtual 42, 3) := by decide +kernel
theorem dX4_second_15 : decode cX4_second 15 = .ok (.ireturn, 1) := by decide +kernel
theorem dX4_textStart_0 : decode cX4_textStart 0 = .ok (.aload_n 0, 1) := by decide +kernel
theorem dX4_textStart_1 : decode cX4_textStart 1 = .ok (.getfield 17, 3) := by decide +kernel
theorem dX4_textStart_4 : decode cX4_textStart 4 = .ok (.iload_n 1, 1) := by decide +kernel
theorem dX4_textStart_5 : decode cX4_textStart 5 = .ok (.iaload, 1) := by decide +kernel
theorem dX4_textStart_6 : decode cX4_textStart 6 = .ok (.iconst 3, 1) := by decide +kernel
theorem dX4_textStart_7 : decode cX4_textStart 7 = .ok (.iadd, 1) := by decide +kernel
theorem dX4_textStart_8 : decode cX4_textStart 8 = .ok (.ireturn, 1) := by decide +kernel
theorem dX4_textEnd_0 : decode cX4_textEnd 0 = .ok (.aload_n 0, 1) := by decide +kernel
theorem dX4_textEnd_1 : decode cX4_textEnd 1 = .ok (.iload_n 1, 1) := by decide +kernel
theorem dX4_textEnd_2 : decode cX4_textEnd 2 = .ok (.invokevirtual 86, 3) := by decide +kernel
theorem dX4_textEnd_5 : decode cX4_textEnd 5 = .ok (.aload_n 0, 1) := by decide +kernel
theorem dX4_textEnd_6 : decode cX4_textEnd 6 = .ok (.iload_n 1, 1) := by decide +kernel
theorem dX4_textEnd_7 : decode cX4_textEnd 7 = .ok (.invokevirtual 74, 3) := by decide +kernel
theorem dX4_textEnd_10 : decode cX4_textEnd 10 = .ok (.iadd, 1) := by decide +kernel
theorem dX4_textEnd_11 : decode cX4_textEnd 11 = .ok (.ireturn, 1) := by decide +kernel
theorem dX4_isFieldName_0 : decode cX4_isFieldName 0 = .ok (.aload_n 0, 1) := by decide +kernel
theorem dX4_isFieldName_1 : decode cX4_isFieldName 1 = .ok (.iload_n 1, 1) := by decide +kernel
theorem dX4_isFieldName_2 : decode cX4_isFieldName 2 = .ok (.invokevirtual 77, 3) := by decide +kernel
theorem dX4_isFieldName_5 : decode cX4_isFieldName 5 = .ok (.iconst 1, 1) := by decide +kernel
theorem dX4_isFieldName_6 : decode cX4_isFieldName 6 = .ok (.if_icmp .ne 30, 3) := by decide +kernel
theorem dX4_isFieldName_9 : decode cX4_isFieldName 9 = .ok (.aload_n 0, 1) := by decide +kernel
theorem dX4_isFieldName_10 : decode cX4_isFieldName 10 = .ok (.getfield 30, 3) := by decide +kernel
theorem dX4_isFieldName_13 : decode cX4_isFieldName 13 = .ok (.getfield 53, 3) := by decide +kernel
theorem dX4_isFieldName_16 : decode cX4_isFieldName 16 = .ok (.aload_n 0, 1) := by decide +kernel
theorem dX4_isFieldName_17 : decode cX4_isFieldName 17 = .ok (.iload_n 1, 1) := by decide +kernel
theorem dX4_isFieldName_18 : decode cX4_isFieldName 18 = .ok (.invokevirtual 86, 3) := by decide +kernel
theorem dX4_isFieldName_21 : decode cX4_isFieldName 21 = .ok (.aload_n 0, 1) := by decide +kernel
theorem dX4_isFieldName_22 : decode cX4_isFieldName 22 = .ok (.iload_n 1, 1) := by decide +kernel
theorem dX4_isFieldName_23 : decode cX4_isFieldName 23 = .ok (.invokevirtual 89, 3) := by decide +kernel
theorem dX4_isFieldName_26 : decode cX4_isFieldName 26 = .ok (.invokestatic 102, 3) := by decide +kernel
theorem dX4_isFieldName_29 : decode cX4_isFieldName 29 = .ok (.ifCond .eq 7, 3) := by decide +kernel
theorem dX4_isFieldName_32 : decode cX4_isFieldName 32 = .ok (.iconst 1, 1) := by decide +kernel
theorem dX4_isFieldName_33 : decode cX4_isFieldName 33 = .ok (.goto 4, 3) := by decide +kernel
theorem dX4_isFieldName_36 : decode cX4_isFieldName 36 = .ok (.iconst 0, 1) := by decide +kernel
theorem dX4_isFieldName_37 : decode cX4_isFieldName 37 = .ok (.ireturn, 1) := by decide +kernel
theorem dX4_isMemberName_0 : decode cX4_isMemberName 0 = .ok (.aload_n 0, 1) := by decide +kernel
theorem dX4_isMemberName_1 : decode cX4_isMemberName 1 = .ok (.iload_n 1, 1) := by decide +kernel
theorem dX4_isMemberName_2 : decode cX4_isMemberName 2 = .ok (.invokevirtual 77, 3) := by decide +kernel
theorem dX4_isMemberName_5 : decode cX4_isMemberName 5 = .ok (.iconst 1, 1) := by decide +kernel
theorem dX4_isMemberName_6 : decode cX4_isMemberName 6 = .ok (.if_icmp .ne 30, 3) := by decide +kernel
theorem dX4_isMemberName_9 : decode cX4_isMemberName 9 = .ok (.aload_n 0, 1) := by decide +kernel
theorem dX4_isMemberName_10 : decode cX4_isMemberName 10 = .ok (.getfield 30, 3) := by decide +kernel
theorem dX4_isMemberName_13 : decode cX4_isMemberName 13 = .ok (.getfield 53, 3) := by decide +kernel
theorem dX4_isMemberName_16 : decode cX4_isMemberName 16 = .ok (.aload_n 0, 1) := by decide +kernel
theorem dX4_isMemberName_17 : decode cX4_isMemberName 17 = .ok (.iload_n 1, 1) := by decide +kernel
theorem dX4_isMemberName_18 : decode cX4_isMemberName 18 = .ok (.invokevirtual 86, 3) := by decide +kernel
theorem dX4_isMemberName_21 : decode cX4_isMemberName 21 = .ok (.aload_n 0, 1) := by decide +kernel
theorem dX4_isMemberName_22 : decode cX4_isMemberName 22 = .ok (.iload_n 1, 1) := by decide +kernel
theorem dX4_isMemberName_23 : decode cX4_isMemberName 23 = .ok (.invokevirtual 89, 3) := by decide +kernel
theorem dX4_isMemberName_26 : decode cX4_isMemberName 26 = .ok (.invokestatic 105, 3) := by decide +kernel
theorem dX4_isMemberName_29 : decode cX4_isMemberName 29 = .ok (.ifCond .eq 7, 3) := by decide +kernel
theorem dX4_isMemberName_32 : decode cX4_isMemberName 32 = .ok (.iconst 1, 1) := by decide +kernel
theorem dX4_isMemberName_33 : decode cX4_isMemberName 33 = .ok (.goto 4, 3) := by decide +kernel
theorem dX4_isMemberName_36 : decode cX4_isMemberName 36 = .ok (.iconst 0, 1) := by decide +kernel
theorem dX4_isMemberName_37 : decode cX4_isMemberName 37 = .ok (.ireturn, 1) := by decide +kernel
theorem dX4_isFieldType_0 : decode cX4_isFieldType 0 = .ok (.aload_n 0, 1) := by decide +kernel
theorem dX4_isFieldType_1 : decode cX4_isFieldType 1 = .ok (.iload_n 1, 1) := by decide +kernel
theorem dX4_isFieldType_2 : decode cX4_isFieldType 2 = .ok (.invokevirtual 77, 3) := by decide +kernel
theorem dX4_isFieldType_5 : decode cX4_isFieldType 5 = .ok (.iconst 1, 1) := by decide +kernel
theorem dX4_isFieldType_6 : decode cX4_isFieldType 6 = .ok (.if_icmp .ne 30, 3) := by decide +kernel
theorem dX4_isFieldType_9 : decode cX4_isFieldType 9 = .ok (.aload_n 0, 1) := by decide +kernel
theorem dX4_isFieldType_10 : decode cX4_isFieldType 10 = .ok (.getfield 30, 3) := by decide +kernel
theorem dX4_isFieldType_13 : decode cX4_isFieldType 13 = .ok (.getfield 53, 3) := by decide +kernel
theorem dX4_isFieldType_16 : decode cX4_isFieldType 16 = .ok (.aload_n 0, 1) := by decide +kernel
theorem dX4_isFieldType_17 : decode cX4_isFieldType 17 = .ok (.iload_n 1, 1) := by decide +kernel
theorem dX4_isFieldType_18 : decode cX4_isFieldType 18 = .ok (.invokevirtual 86, 3) := by decide +kernel
theorem dX4_isFieldType_21 : decode cX4_isFieldType 21 = .ok (.aload_n 0, 1) := by decide +kernel
theorem dX4_isFieldType_22 : decode cX4_isFieldType 22 = .ok (.iload_n 1, 1) := by decide +kernel
theorem dX4_isFieldType_23 : decode cX4_isFieldType 23 = .ok (.invokevirtual 89, 3) := by decide +kernel
theorem dX4_isFieldType_26 : decode cX4_isFieldType 26 = .ok (.invokestatic 107, 3) := by decide +kernel
theorem dX4_isFieldType_29 : decode cX4_isFieldType 29 = .ok (.ifCond .eq 7, 3) := by decide +kernel
theorem dX4_isFieldType_32 : decode cX4_isFieldType 32 = .ok (.iconst 1, 1) := by decide +kernel
theorem dX4_isFieldType_33 : decode cX4_isFieldType 33 = .ok (.goto 4, 3) := by decide +kernel
theorem dX4_isFieldType_36 : decode cX4_isFieldType 36 = .ok (.iconst 0, 1) := by decide +kernel
theorem dX4_isFieldType_37 : decode cX4_isFieldType 37 = .ok (.ireturn, 1) := by decide +kernel
theorem dX4_isMethodType_0 : decode cX4_isMethodType 0 = .ok (.aload_n 0, 1) := by decide +kernel
theorem dX4_isMethodType_1 : decode cX4_isMethodType 1 = .ok (.iload_n 1, 1) := by decide +kernel
theorem dX4_isMethodType_2 : decode cX4_isMethodType 2 = .ok (.invokevirtual 77, 3) := by decide +kernel
theorem dX4_isMethodType_5 : decode cX4_isMethodType 5 = .ok (.iconst 1, 1) := by decide +kernel
theorem dX4_isMethodType_6 : decode cX4_isMethodType 6 = .ok (.if_icmp .ne 30, 3) := by decide +kernel
theorem dX4_isMethodType_9 : decode cX4_isMethodType 9 = .ok (.aload_n 0, 1) := by decide +kernel
theorem dX4_isMethodType_10 : decode cX4_isMethodType 10 = .ok (.getfield 30, 3) := by decide +kernel
theorem dX4_isMethodType_13 : decode cX4_isMethodType 13 = .ok (.getfield 53, 3) := by decide +kernel
theorem dX4_isMethodType_16 : decode cX4_isMethodType 16 = .ok (.aload_n 0, 1) := by decide +kernel
theorem dX4_isMethodType_17 : decode cX4_isMethodType 17 = .ok (.iload_n 1, 1) := by decide +kernel
theorem dX4_isMethodType_18 : decode cX4_isMethodType 18 = .ok (.invokevirtual 86, 3) := by decide +kernel
theorem dX4_isMethodType_21 : decode cX4_isMethodType 21 = .ok (.aload_n 0, 1) := by decide +kernel
theorem dX4_isMethodType_22 : decode cX4_isMethodType 22 = .ok (.iload_n 1, 1) := by decide +kernel
theorem dX4_isMethodType_23 : decode cX4_isMethodType 23 = .ok (.invokevirtual 89, 3) := by decide +kernel
theorem dX4_isMethodType_26 : decode cX4_isMethodType 26 = .ok (.invokestatic 110, 3) := by decide +kernel
theorem dX4_isMethodType_29 : decode cX4_isMethodType 29 = .ok (.ifCond .eq 7, 3) := by decide +kernel
theorem dX4_isMethodType_32 : decode cX4_isMethodType 32 = .ok (.iconst 1, 1) := by decide +kernel
theorem dX4_isMethodType_33 : decode cX4_isMethodType 33 = .ok (.goto 4, 3) := by decide +kernel
theorem dX4_isMethodType_36 : decode cX4_isMethodType 36 = .ok (.iconst 0, 1) := by decide +kernel
theorem dX4_isMethodType_37 : decode cX4_isMethodType 37 = .ok (.ireturn, 1) := by decide +kernel
theorem dX4_isWord_0 : decode cX4_isWord 0 = .ok (.aload_n 0, 1) := by decide +kernel
theorem dX4_isWord_1 : decode cX4_isWord 1 = .ok (.getfield 30, 3) := by decide +kernel
theorem dX4_isWord_4 : decode cX4_isWord 4 = .ok (.getfield 53, 3) := by decide +kernel
theorem dX4_isWord_7 : decode cX4_isWord 7 = .ok (.aload_n 0, 1) := by decide +kernel
theorem dX4_isWord_8 : decode cX4_isWord 8 = .ok (.iload_n 1, 1) := by decide +kernel
theorem dX4_isWord_9 : decode cX4_isWord 9 = .ok (.invokevirtual 86, 3) := by decide +kernel
theorem dX4_isWord_12 : decode cX4_isWord 12 = .ok (.aload_n 0, 1) := by decide +kernel
theorem dX4_isWord_13 : decode cX4_isWord 13 = .ok (.iload_n 1, 1) := by decide +kernel
theorem dX4_isWord_14 : decode cX4_isWord 14 = .ok (.invokevirtual 89, 3) := by decide +kernel
theorem dX4_isWord_17 : decode cX4_isWord 17 = .ok (.aload_n 2, 1) := by decide +kernel
theorem dX4_isWord_18 : decode cX4_isWord 18 = .ok (.invokestatic 112, 3) := by decide +kernel
theorem dX4_isWord_21 : decode cX4_isWord 21 = .ok (.ireturn, 1) := by decide +kernel
theorem dX4_sameTexts_0 : decode cX4_sameTexts 0 = .ok (.aload_n 0, 1) := by decide +kernel
theorem dX4_sameTexts_1 : decode cX4_sameTexts 1 = .ok (.iload_n 1, 1) := by decide +kernel
theorem dX4_sameTexts_2 : decode cX4_sameTexts 2 = .ok (.invokevirtual 74, 3) := by decide +kernel
theorem dX4_sameTexts_5 : decode cX4_sameTexts 5 = .ok (.istore_n 3, 1) := by decide +kernel
theorem dX4_sameTexts_6 : decode cX4_sameTexts 6 = .ok (.iload_n 3, 1) := by decide +kernel
theorem dX4_sameTexts_7 : decode cX4_sameTexts 7 = .ok (.aload_n 0, 1) := by decide +kernel
theorem dX4_sameTexts_8 : decode cX4_sameTexts 8 = .ok (.iload_n 2, 1) := by decide +kernel
theorem dX4_sameTexts_9 : decode cX4_sameTexts 9 = .ok (.invokevirtual 74, 3) := by decide +kernel
theorem dX4_sameTexts_12 : decode cX4_sameTexts 12 = .ok (.if_icmp .eq 5, 3) := by decide +kernel
theorem dX4_sameTexts_15 : decode cX4_sameTexts 15 = .ok (.iconst 0, 1) := by decide +kernel
theorem dX4_sameTexts_16 : decode cX4_sameTexts 16 = .ok (.ireturn, 1) := by decide +kernel
theorem dX4_sameTexts_17 : decode cX4_sameTexts 17 = .ok (.iconst 0, 1) := by decide +kernel
theorem dX4_sameTexts_18 : decode cX4_sameTexts 18 = .ok (.istore 4, 2) := by decide +kernel
theorem dX4_sameTexts_20 : decode cX4_sameTexts 20 = .ok (.iload 4, 2) := by decide +kernel
theorem dX4_sameTexts_22 : decode cX4_sameTexts 22 = .ok (.iload_n 3, 1) := by decide +kernel
theorem dX4_sameTexts_23 : decode cX4_sameTexts 23 = .ok (.if_icmp .ge 46, 3) := by decide +kernel
theorem dX4_sameTexts_26 : decode cX4_sameTexts 26 = .ok (.aload_n 0, 1) := by decide +kernel
theorem dX4_sameTexts_27 : decode cX4_sameTexts 27 = .ok (.getfield 30, 3) := by decide +kernel
theorem dX4_sameTexts_30 : decode cX4_sameTexts 30 = .ok (.getfield 53, 3) := by decide +kernel
theorem dX4_sameTexts_33 : decode cX4_sameTexts 33 = .ok (.aload_n 0, 1) := by decide +kernel
theorem dX4_sameTexts_34 : decode cX4_sameTexts 34 = .ok (.iload_n 1, 1) := by decide +kernel
theorem dX4_sameTexts_35 : decode cX4_sameTexts 35 = .ok (.invokevirtual 86, 3) := by decide +kernel
theorem dX4_sameTexts_38 : decode cX4_sameTexts 38 = .ok (.iload 4, 2) := by decide +kernel
theorem dX4_sameTexts_40 : decode cX4_sameTexts 40 = .ok (.iadd, 1) := by decide +kernel
theorem dX4_sameTexts_41 : decode cX4_sameTexts 41 = .ok (.iaload, 1) := by decide +kernel
theorem dX4_sameTexts_42 : decode cX4_sameTexts 42 = .ok (.aload_n 0, 1) := by decide +kernel
theorem dX4_sameTexts_43 : decode cX4_sameTexts 43 = .ok (.getfield 30, 3) := by decide +kernel
theorem dX4_sameTexts_46 : decode cX4_sameTexts 46 = .ok (.getfield 53, 3) := by decide +kernel
theorem dX4_sameTexts_49 : decode cX4_sameTexts 49 = .ok (.aload_n 0, 1) := by decide +kernel
theorem dX4_sameTexts_50 : decode cX4_sameTexts 50 = .ok (.iload_n 2, 1) := by decide +kernel
theorem dX4_sameTexts_51 : decode cX4_sameTexts 51 = .ok (.invokevirtual 86, 3) := by decide +kernel
theorem dX4_sameTexts_54 : decode cX4_sameTexts 54 = .ok (.iload 4, 2) := by decide +kernel
theorem dX4_sameTexts_56 : decode cX4_sameTexts 56 = .ok (.iadd, 1) := by decide +kernel
theorem dX4_sameTexts_57 : decode cX4_sameTexts 57 = .ok (.iaload, 1) := by decide +kernel
theorem dX4_sameTexts_58 : decode cX4_sameTexts 58 = .ok (.if_icmp .eq 5, 3) := by decide +kernel
theorem dX4_sameTexts_61 : decode cX4_sameTexts 61 = .ok (.iconst 0, 1) := by decide +kernel
theorem dX4_sameTexts_62 : decode cX4_sameTexts 62 = .ok (.ireturn, 1) := by decide +kernel
theorem dX4_sameTexts_63 : decode cX4_sameTexts 63 = .ok (.iinc 4 1, 3) := by decide +kernel
theorem dX4_sameTexts_66 : decode cX4_sameTexts 66 = .ok (.goto (-46), 3) := by decide +kernel
theorem dX4_sameTexts_69 : decode cX4_sameTexts 69 = .ok (.iconst 1, 1) := by decide +kernel
theorem dX4_sameTexts_70 : decode cX4_sameTexts 70 = .ok (.ireturn, 1) := by decide +kernel
theorem dX5_init_0 : decode cX5_init 0 = .ok (.aload_n 0, 1) := by decide +kernel
theorem dX5_init_1 : decode cX5_init 1 = .ok (.invokespecial 1, 3) := by decide +kernel
theorem dX5_init_4 : decode cX5_init 4 = .ok (.aload_n 0, 1) := by decide +kernel
theorem dX5_init_5 : decode cX5_init 5 = .ok (.aload_n 1, 1) := by decide +kernel
theorem dX5_init_6 : decode cX5_init 6 = .ok (.putfield 7, 3) := by decide +kernel
theorem dX5_init_9 : decode cX5_init 9 = .ok (.return_, 1) := by decide +kernel
theorem dX5_restart_0 : decode cX5_restart 0 = .ok (.aload_n 0, 1) := by decide +kernel
theorem dX5_restart_1 : decode cX5_restart 1 = .ok (.iconst 0, 1) := by decide +kernel
theorem dX5_restart_2 : decode cX5_restart 2 = .ok (.putfield 13, 3) := by decide +kernel
theorem dX5_restart_5 : decode cX5_restart 5 = .ok (.aload_n 0, 1) := by decide +kernel
theorem dX5_restart_6 : decode cX5_restart 6 = .ok (.iconst 0, 1) := by decide +kernel
theorem dX5_restart_7 : decode cX5_restart 7 = .ok (.putfield 17, 3) := by decide +kernel
theorem dX5_restart_10 : decode cX5_restart 10 = .ok (.aload_n 0, 1) := by decide +kernel
theorem dX5_restart_11 : decode cX5_restart 11 = .ok (.iconst 0, 1) := by decide +kernel
theorem dX5_restart_12 : decode cX5_restart 12 = .ok (.putfield 20, 3) := by decide +kernel
theorem dX5_restart_15 : decode cX5_restart 15 = .ok (.aload_n 0, 1) := by decide +kernel
theorem dX5_restart_16 : decode cX5_restart 16 = .ok (.invokevirtual 23, 3) := by decide +kernel
theorem dX5_restart_19 : decode cX5_restart 19 = .ok (.return_, 1) := by decide +kernel
theorem dX5_confine_0 : decode cX5_confine 0 = .ok (.aload_n 0, 1) := by decide +kernel
theorem dX5_confine_1 : decode cX5_confine 1 = .ok (.iload_n 1, 1) := by decide +kernel
theorem dX5_confine_2 : decode cX5_confine 2 = .ok (.putfield 26, 3) := by decide +kernel
theorem dX5_confine_5 : decode cX5_confine 5 = .ok (.aload_n 0, 1) := by decide +kernel
theorem dX5_confine_6 : decode cX5_confine 6 = .ok (.iload_n 2, 1) := by decide +kernel
theorem dX5_confine_7 : decode cX5_confine 7 = .ok (.putfield 29, 3) := by decide +kernel
theorem dX5_confine_10 : decode cX5_confine 10 = .ok (.aload_n 0, 1) := by decide +kernel
theorem dX5_confine_11 : decode cX5_confine 11 = .ok (.iload_n 3, 1) := by decide +kernel
theorem dX5_confine_12 : decode cX5_confine 12 = .ok (.putfield 32, 3) := by decide +kernel
theorem dX5_confine_15 : decode cX5_confine 15 = .ok (.return_, 1) := by decide +kernel
theorem dX5_release_0 : decode cX5_release 0 = .ok (.aload_n 0, 1) := by decide +kernel
theorem dX5_release_1 : decode cX5_release 1 = .ok (.aload_n 0, 1) := by decide +kernel
theorem dX5_release_2 : decode cX5_release 2 = .ok (.getfield 7, 3) := by decide +kernel
theorem dX5_release_5 : decode cX5_release 5 = .ok (.getfield 35, 3) := by decide +kernel
theorem dX5_release_8 : decode cX5_release 8 = .ok (.putfield 26, 3) := by decide +kernel
theorem dX5_release_11 : decode cX5_release 11 = .ok (.aload_n 0, 1) := by decide +kernel
theorem dX5_release_12 : decode cX5_release 12 = .ok (.iconst 1, 1) := by decide +kernel
theorem dX5_release_13 : decode cX5_release 13 = .ok (.putfield 29, 3) := by decide +kernel
theorem dX5_release_16 : decode cX5_release 16 = .ok (.aload_n 0, 1) := by decide +kernel
theorem dX5_release_17 : decode cX5_release 17 = .ok (.aload_n 0, 1) := by decide +kernel
theorem dX5_release_18 : decode cX5_release 18 = .ok (.getfield 7, 3) := by decide +kernel
theorem dX5_release_21 : decode cX5_release 21 = .ok (.getfield 35, 3) := by decide +kernel
theorem dX5_release_24 : decode cX5_release 24 = .ok (.putfield 32, 3) := by decide +kernel
theorem dX5_release_27 : decode cX5_release 27 = .ok (.return_, 1) := by decide +kernel
theorem dX5_step_0 : decode cX5_step 0 = .ok (.iload_n 1, 1) := by decide +kernel
theorem dX5_step_1 : decode cX5_step 1 = .ok (.ifCond .lt 16, 3) := by decide +kernel
theorem dX5_step_4 : decode cX5_step 4 = .ok (.iload_n 1, 1) := by decide +kernel
theorem dX5_step_5 : decode cX5_step 5 = .ok (.aload_n 0, 1) := by decide +kernel
theorem dX5_step_6 : decode cX5_step 6 = .ok (.getfield 26, 3) := by decide +kernel
theorem dX5_step_9 : decode cX5_step 9 = .ok (.aload_n 0, 1) := by decide +kernel
theorem dX5_step_10 : decode cX5_step 10 = .ok (.getfield 20, 3) := by decide +kernel
theorem dX5_step_13 : decode cX5_step 13 = .ok (.isub, 1) := by decide +kernel
theorem dX5_step_14 : decode cX5_step 14 = .ok (.if_icmp .le 21, 3) := by decide +kernel
theorem dX5_step_17 : decode cX5_step 17 = .ok (.aload_n 0, 1) := by decide +kernel
theorem dX5_step_18 : decode cX5_step 18 = .ok (.aload_n 0, 1) := by decide +kernel
theorem dX5_step_19 : decode cX5_step 19 = .ok (.getfield 29, 3) := by decide +kernel
theorem dX5_step_22 : decode cX5_step 22 = .ok (.putfield 13, 3) := by decide +kernel
theorem dX5_step_25 : decode cX5_step 25 = .ok (.aload_n 0, 1) := by decide +kernel
theorem dX5_step_26 : decode cX5_step 26 = .ok (.aload_n 0, 1) := by decide +kernel
theorem dX5_step_27 : decode cX5_step 27 = .ok (.getfield 32, 3) := by decide +kernel
theorem dX5_step_30 : decode cX5_step 30 = .ok (.putfield 17, 3) := by decide +kernel
theorem dX5_step_33 : decode cX5_step 33 = .ok (.iconst 0, 1) := by decide +kernel
theorem dX5_step_34 : decode cX5_step 34 = .ok (.ireturn, 1) := by decide +kernel
theorem dX5_step_35 : decode cX5_step 35 = .ok (.aload_n 0, 1) := by decide +kernel
theorem dX5_step_36 : decode cX5_step 36 = .ok (.dup, 1) := by decide +kernel
theorem dX5_step_37 : decode cX5_step 37 = .ok (.getfield 20, 3) := by decide +kernel
theorem dX5_step_40 : decode cX5_step 40 = .ok (.iload_n 1, 1) := by decide +kernel
theorem dX5_step_41 : decode cX5_step 41 = .ok (.iadd, 1) := by decide +kernel
theorem dX5_step_42 : decode cX5_step 42 = .ok (.putfield 20, 3) := by decide +kernel
theorem dX5_step_45 : decode cX5_step 45 = .ok (.iconst 1, 1) := by decide +kernel
theorem dX5_step_46 : decode cX5_step 46 = .ok (.ireturn, 1) := by decide +kernel
theorem dX5_broken_0 : decode cX5_broken 0 = .ok (.aload_n 0, 1) := by decide +kernel
theorem dX5_broken_1 : decode cX5_broken 1 = .ok (.iload_n 1, 1) := by decide +kernel
theorem dX5_broken_2 : decode cX5_broken 2 = .ok (.putfield 13, 3) := by decide +kernel
theorem dX5_broken_5 : decode cX5_broken 5 = .ok (.aload_n 0, 1) := by decide +kernel
theorem dX5_broken_6 : decode cX5_broken 6 = .ok (.iload_n 2, 1) := by decide +kernel
theorem dX5_broken_7 : decode cX5_broken 7 = .ok (.putfield 17, 3) := by decide +kernel
theorem dX5_broken_10 : decode cX5_broken 10 = .ok (.iconst 0, 1) := by decide +kernel
theorem dX5_broken_11 : decode cX5_broken 11 = .ok (.ireturn, 1) := by decide +kernel
theorem dX6_init_0 : decode cX6_init 0 = .ok (.aload_n 0, 1) := by decide +kernel
theorem dX6_init_1 : decode cX6_init 1 = .ok (.invokespecial 1, 3) := by decide +kernel
theorem dX6_init_4 : decode cX6_init 4 = .ok (.aload_n 0, 1) := by decide +kernel
theorem dX6_init_5 : decode cX6_init 5 = .ok (.new 7, 3) := by decide +kernel
theorem dX6_init_8 : decode cX6_init 8 = .ok (.dup, 1) := by decide +kernel
theorem dX6_init_9 : decode cX6_init 9 = .ok (.invokespecial 9, 3) := by decide +kernel
theorem dX6_init_12 : decode cX6_init 12 = .ok (.putfield 10, 3) := by decide +kernel
theorem dX6_init_15 : decode cX6_init 15 = .ok (.aload_n 0, 1) := by decide +kernel
theorem dX6_init_16 : decode cX6_init 16 = .ok (.new 16, 3) := by decide +kernel
theorem dX6_init_19 : decode cX6_init 19 = .ok (.dup, 1) := by decide +kernel
theorem dX6_init_20 : decode cX6_init 20 = .ok (.aload_n 0, 1) := by decide +kernel
theorem dX6_init_21 : decode cX6_init 21 = .ok (.getfield 10, 3) := by decide +kernel
theorem dX6_init_24 : decode cX6_init 24 = .ok (.invokespecial 18, 3) := by decide +kernel
theorem dX6_init_27 : decode cX6_init 27 = .ok (.putfield 21, 3) := by decide +kernel
theorem dX6_init_30 : decode cX6_init 30 = .ok (.aload_n 0, 1) := by decide +kernel
theorem dX6_init_31 : decode cX6_init 31 = .ok (.bipush 29, 2) := by decide +kernel
theorem dX6_init_33 : decode cX6_init 33 = .ok (.newarray .int, 2) := by decide +kernel
theorem dX6_init_35 : decode cX6_init 35 = .ok (.putfield 25, 3) := by decide +kernel
theorem dX6_init_38 : decode cX6_init 38 = .ok (.aload_n 0, 1) := by decide +kernel
theorem dX6_init_39 : decode cX6_init 39 = .ok (.bipush 32, 2) := by decide +kernel
theorem dX6_init_41 : decode cX6_init 41 = .ok (.newarray .int, 2) := by decide +kernel
theorem dX6_init_43 : decode cX6_init 43 = .ok (.putfield 29, 3) := by decide +kernel
theorem dX6_init_46 : decode cX6_init 46 = .ok (.return_, 1) := by decide +kernel
theorem dX6_put_0 : decode cX6_put 0 = .ok (.iload_n 1, 1) := by decide +kernel
theorem dX6_put_1 : decode cX6_put 1 = .ok (.iconst 1, 1) := by decide +kernel
theorem dX6_put_2 : decode cX6_put 2 = .ok (.if_icmp .eq 15, 3) := by decide +kernel
theorem dX6_put_5 : decode cX6_put 5 = .ok (.iload_n 1, 1) := by decide +kernel
theorem dX6_put_6 : decode cX6_put 6 = .ok (.iconst 2, 1) := by decide +kernel
theorem dX6_put_7 : decode cX6_put 7 = .ok (.if_icmp .eq 10, 3) := by decide +kernel
theorem dX6_put_10 : decode cX6_put 10 = .ok (.iload_n 1, 1) := by decide +kernel
theorem dX6_put_11 : decode cX6_put 11 = .ok (.iconst 4, 1) := by decide +kernel
theorem dX6_put_12 : decode cX6_put 12 = .ok (.if_icmp .eq 5, 3) := by decide +kernel
theorem dX6_put_15 : decode cX6_put 15 = .ok (.iconst (-1), 1) := by decide +kernel
theorem dX6_put_16 : decode cX6_put 16 = .ok (.ireturn, 1) := by decide +kernel
theorem dX6_put_17 : decode cX6_put 17 = .ok (.aload_n 0, 1) := by decide +kernel
theorem dX6_put_18 : decode cX6_put 18 = .ok (.getfield 10, 3) := by decide +kernel
theorem dX6_put_21 : decode cX6_put 21 = .ok (.iload_n 1, 1) := by decide +kernel
theorem dX6_put_22 : decode cX6_put 22 = .ok (.invokevirtual 32, 3) := by decide +kernel
theorem dX6_put_25 : decode cX6_put 25 = .ok (.ifCond .ne 6, 3) := by decide +kernel
theorem dX6_put_28 : decode cX6_put 28 = .ok (.bipush (-2), 2) := by decide +kernel
theorem dX6_put_30 : decode cX6_put 30 = .ok (.ireturn, 1) := by decide +kernel
theorem dX6_put_31 : decode cX6_put 31 = .ok (.aload_n 0, 1) := by decide +kernel
theorem dX6_put_32 : decode cX6_put 32 = .ok (.getfield 10, 3) := by decide +kernel
theorem dX6_put_35 : decode cX6_put 35 = .ok (.iload_n 1, 1) := by decide +kernel
theorem dX6_put_36 : decode cX6_put 36 = .ok (.iload_n 2, 1) := by decide +kernel
theorem dX6_put_37 : decode cX6_put 37 = .ok (.invokevirtual 36, 3) := by decide +kernel
theorem dX6_put_40 : decode cX6_put 40 = .ok (.aload_n 0, 1) := by decide +kernel
theorem dX6_put_41 : decode cX6_put 41 = .ok (.getfield 10, 3) := by decide +kernel
theorem dX6_put_44 : decode cX6_put 44 = .ok (.getfield 40, 3) := by decide +kernel
theorem dX6_put_47 : decode cX6_put 47 = .ok (.ireturn, 1) := by decide +kernel
theorem dX6_text_0 : decode cX6_text 0 = .ok (.iload_n 1, 1) := by decide +kernel
theorem dX6_text_1 : decode cX6_text 1 = .ok (.ifCond .lt 9, 3) := by decide +kernel
theorem dX6_text_4 : decode cX6_text 4 = .ok (.iload_n 1, 1) := by decide +kernel
theorem dX6_text_5 : decode cX6_text 5 = .ok (.bipush 8, 2) := by decide +kernel
theorem dX6_text_7 : decode cX6_text 7 = .ok (.if_icmp .le 5, 3) := by decide +kernel
theorem dX6_text_10 : decode cX6_text 10 = .ok (.iconst (-1), 1) := by decide +kernel
theorem dX6_text_11 : decode cX6_text 11 = .ok (.ireturn, 1) := by decide +kernel
theorem dX6_text_12 : decode cX6_text 12 = .ok (.aload_n 0, 1) := by decide +kernel
theorem dX6_text_13 : decode cX6_text 13 = .ok (.getfield 10, 3) := by decide +kernel
theorem dX6_text_16 : decode cX6_text 16 = .ok (.iconst 3, 1) := by decide +kernel
theorem dX6_text_17 : decode cX6_text 17 = .ok (.iload_n 1, 1) := by decide +kernel
theorem dX6_text_18 : decode cX6_text 18 = .ok (.iadd, 1) := by decide +kernel
theorem dX6_text_19 : decode cX6_text 19 = .ok (.invokevirtual 32, 3) := by decide +kernel
theorem dX6_text_22 : decode cX6_text 22 = .ok (.ifCond .ne 6, 3) := by decide +kernel
theorem dX6_text_25 : decode cX6_text 25 = .ok (.bipush (-2), 2) := by decide +kernel
theorem dX6_text_27 : decode cX6_text 27 = .ok (.ireturn, 1) := by decide +kernel
theorem dX6_text_28 : decode cX6_text 28 = .ok (.aload_n 0, 1) := by decide +kernel
theorem dX6_text_29 : decode cX6_text 29 = .ok (.getfield 10, 3) := by decide +kernel
theorem dX6_text_32 : decode cX6_text 32 = .ok (.iconst 1, 1) := by decide +kernel
theorem dX6_text_33 : decode cX6_text 33 = .ok (.iconst 1, 1) := by decide +kernel
theorem dX6_text_34 : decode cX6_text 34 = .ok (.invokevirtual 36, 3) := by decide +kernel
theorem dX6_text_37 : decode cX6_text 37 = .ok (.aload_n 0, 1) := by decide +kernel
theorem dX6_text_38 : decode cX6_text 38 = .ok (.getfield 10, 3) := by decide +kernel
theorem dX6_text_41 : decode cX6_text 41 = .ok (.iconst 2, 1) := by decide +kernel
theorem dX6_text_42 : decode cX6_text 42 = .ok (.iload_n 1, 1) := by decide +kernel
theorem dX6_text_43 : decode cX6_text 43 = .ok (.invokevirtual 36, 3) := by decide +kernel
theorem dX6_text_46 : decode cX6_text 46 = .ok (.iconst 0, 1) := by decide +kernel
theorem dX6_text_47 : decode cX6_text 47 = .ok (.istore 4, 2) := by decide +kernel
theorem dX6_text_49 : decode cX6_text 49 = .ok (.iload 4, 2) := by decide +kernel
theorem dX6_text_51 : decode cX6_text 51 = .ok (.iload_n 1, 1) := by decide +kernel
theorem dX6_text_52 : decode cX6_text 52 = .ok (.if_icmp .ge 25, 3) := by decide +kernel
theorem dX6_text_55 : decode cX6_text 55 = .ok (.aload_n 0, 1) := by decide +kernel
theorem dX6_text_56 : decode cX6_text 56 = .ok (.getfield 10, 3) := by decide +kernel
theorem dX6_text_59 : decode cX6_text 59 = .ok (.iconst 1, 1) := by decide +kernel
theorem dX6_text_60 : decode cX6_text 60 = .ok (.lload_n 2, 1) := by decide +kernel
theorem dX6_text_61 : decode cX6_text 61 = .ok (.bipush 8, 2) := by decide +kernel
theorem dX6_text_63 : decode cX6_text 63 = .ok (.iload 4, 2) := by decide +kernel
theorem dX6_text_65 : decode cX6_text 65 = .ok (.imul, 1) := by decide +kernel
theorem dX6_text_66 : decode cX6_text 66 = .ok (.lushr, 1) := by decide +kernel
theorem dX6_text_67 : decode cX6_text 67 = .ok (.l2i, 1) := by decide +kernel
theorem dX6_text_68 : decode cX6_text 68 = .ok (.invokevirtual 36, 3) := by decide +kernel
theorem dX6_text_71 : decode cX6_text 71 = .ok (.iinc 4 1, 3) := by decide +kernel
theorem dX6_text_74 : decode cX6_text 74 = .ok (.goto (-25), 3) := by decide +kernel
theorem dX6_text_77 : decode cX6_text 77 = .ok (.aload_n 0, 1) := by decide +kernel
theorem dX6_text_78 : decode cX6_text 78 = .ok (.getfield 10, 3) := by decide +kernel
theorem dX6_text_81 : decode cX6_text 81 = .ok (.getfield 40, 3) := by decide +kernel
theorem dX6_text_84 : decode cX6_text 84 = .ok (.ireturn, 1) := by decide +kernel
theorem dX6_patch_0 : decode cX6_patch 0 = .ok (.aload_n 0, 1) := by decide +kernel
theorem dX6_patch_1 : decode cX6_patch 1 = .ok (.getfield 10, 3) := by decide +kernel
theorem dX6_patch_4 : decode cX6_patch 4 = .ok (.iload_n 1, 1) := by decide +kernel
theorem dX6_patch_5 : decode cX6_patch 5 = .ok (.iconst 1, 1) := by decide +kernel
theorem dX6_patch_6 : decode cX6_patch 6 = .ok (.invokevirtual 46, 3) := by decide +kernel
theorem dX6_patch_9 : decode cX6_patch 9 = .ok (.ifCond .ne 5, 3) := by decide +kernel
theorem dX6_patch_12 : decode cX6_patch 12 = .ok (.iconst (-1), 1) := by decide +kernel
theorem dX6_patch_13 : decode cX6_patch 13 = .ok (.ireturn, 1) := by decide +kernel
theorem dX6_patch_14 : decode cX6_patch 14 = .ok (.aload_n 0, 1) := by decide +kernel
theorem dX6_patch_15 : decode cX6_patch 15 = .ok (.getfield 10, 3) := by decide +kernel
theorem dX6_patch_18 : decode cX6_patch 18 = .ok (.getfield 50, 3) := by decide +kernel
theorem dX6_patch_21 : decode cX6_patch 21 = .ok (.iload_n 1, 1) := by decide +kernel
theorem dX6_patch_22 : decode cX6_patch 22 = .ok (.iaload, 1) := by decide +kernel
theorem dX6_patch_23 : decode cX6_patch 23 = .ok (.istore_n 3, 1) := by decide +kernel
theorem dX6_patch_24 : decode cX6_patch 24 = .ok (.aload_n 0, 1) := by decide +kernel
theorem dX6_patch_25 : decode cX6_patch 25 = .ok (.getfield 10, 3) := by decide +kernel
theorem dX6_patch_28 : decode cX6_patch 28 = .ok (.getfield 50, 3) := by decide +kernel
theorem dX6_patch_31 : decode cX6_patch 31 = .ok (.iload_n 1, 1) := by decide +kernel
theorem dX6_patch_32 : decode cX6_patch 32 = .ok (.iload_n 2, 1) := by decide +kernel
theorem dX6_patch_33 : decode cX6_patch 33 = .ok (.sipush 255, 3) := by decide +kernel
theorem dX6_patch_36 : decode cX6_patch 36 = .ok (.iand, 1) := by decide +kernel
theorem dX6_patch_37 : decode cX6_patch 37 = .ok (.iastore, 1) := by decide +kernel
theorem dX6_patch_38 : decode cX6_patch 38 = .ok (.iload_n 3, 1) := by decide +kernel
theorem dX6_patch_39 : decode cX6_patch 39 = .ok (.ireturn, 1) := by decide +kernel
theorem dX6_cut_0 : decode cX6_cut 0 = .ok (.iload_n 2, 1) := by decide +kernel
theorem dX6_cut_1 : decode cX6_cut 1 = .ok (.iconst 1, 1) := by decide +kernel
theorem dX6_cut_2 : decode cX6_cut 2 = .ok (.if_icmp .lt 15, 3) := by decide +kernel
theorem dX6_cut_5 : decode cX6_cut 5 = .ok (.aload_n 0, 1) := by decide +kernel
theorem dX6_cut_6 : decode cX6_cut 6 = .ok (.getfield 10, 3) := by decide +kernel
theorem dX6_cut_9 : decode cX6_cut 9 = .ok (.iload_n 1, 1) := by decide +kernel
theorem dX6_cut_10 : decode cX6_cut 10 = .ok (.iload_n 2, 1) := by decide +kernel
theorem dX6_cut_11 : decode cX6_cut 11 = .ok (.invokevirtual 46, 3) := by decide +kernel
theorem dX6_cut_14 : decode cX6_cut 14 = .ok (.ifCond .ne 5, 3) := by decide +kernel
theorem dX6_cut_17 : decode cX6_cut 17 = .ok (.iconst (-1), 1) := by decide +kernel
theorem dX6_cut_18 : decode cX6_cut 18 = .ok (.ireturn, 1) := by decide +kernel
theorem dX6_cut_19 : decode cX6_cut 19 = .ok (.aload_n 0, 1) := by decide +kernel
theorem dX6_cut_20 : decode cX6_cut 20 = .ok (.getfield 10, 3) := by decide +kernel
theorem dX6_cut_23 : decode cX6_cut 23 = .ok (.iload_n 1, 1) := by decide +kernel
theorem dX6_cut_24 : decode cX6_cut 24 = .ok (.iload_n 2, 1) := by decide +kernel
theorem dX6_cut_25 : decode cX6_cut 25 = .ok (.invokevirtual 53, 3) := by decide +kernel
theorem dX6_cut_28 : decode cX6_cut 28 = .ok (.aload_n 0, 1) := by decide +kernel
theorem dX6_cut_29 : decode cX6_cut 29 = .ok (.getfield 10, 3) := by decide +kernel
theorem dX6_cut_32 : decode cX6_cut 32 = .ok (.getfield 40, 3) := by decide +kernel
theorem dX6_cut_35 : decode cX6_cut 35 = .ok (.ireturn, 1) := by decide +kernel
theorem dX6_twice_0 : decode cX6_twice 0 = .ok (.iload_n 2, 1) := by decide +kernel
theorem dX6_twice_1 : decode cX6_twice 1 = .ok (.iconst 1, 1) := by decide +kernel
theorem dX6_twice_2 : decode cX6_twice 2 = .ok (.if_icmp .lt 15, 3) := by decide +kernel
theorem dX6_twice_5 : decode cX6_twice 5 = .ok (.aload_n 0, 1) := by decide +kernel
theorem dX6_twice_6 : decode cX6_twice 6 = .ok (.getfield 10, 3) := by decide +kernel
theorem dX6_twice_9 : decode cX6_twice 9 = .ok (.iload_n 1, 1) := by decide +kernel
theorem dX6_twice_10 : decode cX6_twice 10 = .ok (.iload_n 2, 1) := by decide +kernel
theorem dX6_twice_11 : decode cX6_twice 11 = .ok (.invokevirtual 46, 3) := by decide +kernel
theorem dX6_twice_14 : decode cX6_twice 14 = .ok (.ifCond .ne 5, 3) := by decide +kernel
theorem dX6_twice_17 : decode cX6_twice 17 = .ok (.iconst (-1), 1) := by decide +kernel
theorem dX6_twice_18 : decode cX6_twice 18 = .ok (.ireturn, 1) := by decide +kernel
theorem dX6_twice_19 : decode cX6_twice 19 = .ok (.aload_n 0, 1) := by decide +kernel
theorem dX6_twice_20 : decode cX6_twice 20 = .ok (.getfield 10, 3) := by decide +kernel
theorem dX6_twice_23 : decode cX6_twice 23 = .ok (.iload_n 2, 1) := by decide +kernel
theorem dX6_twice_24 : decode cX6_twice 24 = .ok (.invokevirtual 32, 3) := by decide +kernel
theorem dX6_twice_27 : decode cX6_twice 27 = .ok (.ifCond .ne 6, 3) := by decide +kernel
theorem dX6_twice_30 : decode cX6_twice 30 = .ok (.bipush (-2), 2) := by decide +kernel
theorem dX6_twice_32 : decode cX6_twice 32 = .ok (.ireturn, 1) := by decide +kernel
theorem dX6_twice_33 : decode cX6_twice 33 = .ok (.aload_n 0, 1) := by decide +kernel
theorem dX6_twice_34 : decode cX6_twice 34 = .ok (.getfield 10, 3) := by decide +kernel
theorem dX6_twice_37 : decode cX6_twice 37 = .ok (.iload_n 1, 1) := by decide +kernel
theorem dX6_twice_38 : decode cX6_twice 38 = .ok (.iload_n 2, 1) := by decide +kernel
theorem dX6_twice_39 : decode cX6_twice 39 = .ok (.invokevirtual 56, 3) := by decide +kernel
theorem dX6_twice_42 : decode cX6_twice 42 = .ok (.aload_n 0, 1) := by decide +kernel
theorem dX6_twice_43 : decode cX6_twice 43 = .ok (.getfield 10, 3) := by decide +kernel
theorem dX6_twice_46 : decode cX6_twice 46 = .ok (.getfield 40, 3) := by decide +kernel
theorem dX6_twice_49 : decode cX6_twice 49 = .ok (.ireturn, 1) := by decide +kernel
theorem dX6_clear_0 : decode cX6_clear 0 = .ok (.aload_n 0, 1) := by decide +kernel
theorem dX6_clear_1 : decode cX6_clear 1 = .ok (.getfield 10, 3) := by decide +kernel
theorem dX6_clear_4 : decode cX6_clear 4 = .ok (.getfield 40, 3) := by decide +kernel
theorem dX6_clear_7 : decode cX6_clear 7 = .ok (.istore_n 1, 1) := by decide +kernel
theorem dX6_clear_8 : decode cX6_clear 8 = .ok (.aload_n 0, 1) := by decide +kernel
theorem dX6_clear_9 : decode cX6_clear 9 = .ok (.getfield 10, 3) := by decide +kernel
theorem dX6_clear_12 : decode cX6_clear 12 = .ok (.iconst 0, 1) := by decide +kernel
theorem dX6_clear_13 : decode cX6_clear 13 = .ok (.putfield 40, 3) := by decide +kernel
theorem dX6_clear_16 : decode cX6_clear 16 = .ok (.iload_n 1, 1) := by decide +kernel
theorem dX6_clear_17 : decode cX6_clear 17 = .ok (.ireturn, 1) := by decide +kernel
theorem dX6_judge_0 : decode cX6_judge 0 = .ok (.aload_n 0, 1) := by decide +kernel
theorem dX6_judge_1 : decode cX6_judge 1 = .ok (.getfield 21, 3) := by decide +kernel
theorem dX6_judge_4 : decode cX6_judge 4 = .ok (.invokevirtual 59, 3) := by decide +kernel
theorem dX6_judge_7 : decode cX6_judge 7 = .ok (.istore_n 1, 1) := by decide +kernel
theorem dX6_judge_8 : decode cX6_judge 8 = .ok (.aload_n 0, 1) := by decide +kernel
theorem dX6_judge_9 : decode cX6_judge 9 = .ok (.getfield 25, 3) := by decide +kernel
theorem dX6_judge_12 : decode cX6_judge 12 = .ok (.iload_n 1, 1) := by decide +kernel
theorem dX6_judge_13 : decode cX6_judge 13 = .ok (.dup2, 1) := by decide +kernel
theorem dX6_judge_14 : decode cX6_judge 14 = .ok (.iaload, 1) := by decide +kernel
theorem dX6_judge_15 : decode cX6_judge 15 = .ok (.iconst 1, 1) := by decide +kernel
theorem dX6_judge_16 : decode cX6_judge 16 = .ok (.iadd, 1) := by decide +kernel
theorem dX6_judge_17 : decode cX6_judge 17 = .ok (.iastore, 1) := by decide +kernel
theorem dX6_judge_18 : decode cX6_judge 18 = .ok (.aload_n 0, 1) := by decide +kernel
theorem dX6_judge_19 : decode cX6_judge 19 = .ok (.dup, 1) := by decide +kernel
theorem dX6_judge_20 : decode cX6_judge 20 = .ok (.getfield 63, 3) := by decide +kernel
theorem dX6_judge_23 : decode cX6_judge 23 = .ok (.iconst 1, 1) := by decide +kernel
theorem dX6_judge_24 : decode cX6_judge 24 = .ok (.iadd, 1) := by decide +kernel
theorem dX6_judge_25 : decode cX6_judge 25 = .ok (.putfield 63, 3) := by decide +kernel
theorem dX6_judge_28 : decode cX6_judge 28 = .ok (.iload_n 1, 1) := by decide +kernel
theorem dX6_judge_29 : decode cX6_judge 29 = .ok (.ireturn, 1) := by decide +kernel
theorem dX6_place_0 : decode cX6_place 0 = .ok (.aload_n 0, 1) := by decide +kernel
theorem dX6_place_1 : decode cX6_place 1 = .ok (.getfield 21, 3) := by decide +kernel
theorem dX6_place_4 : decode cX6_place 4 = .ok (.getfield 66, 3) := by decide +kernel
theorem dX6_place_7 : decode cX6_place 7 = .ok (.getfield 70, 3) := by decide +kernel
theorem dX6_place_10 : decode cX6_place 10 = .ok (.ifCond .ne 7, 3) := by decide +kernel
theorem dX6_place_13 : decode cX6_place 13 = .ok (.iconst (-1), 1) := by decide +kernel
theorem dX6_place_14 : decode cX6_place 14 = .ok (.goto 13, 3) := by decide +kernel
theorem dX6_place_17 : decode cX6_place 17 = .ok (.aload_n 0, 1) := by decide +kernel
theorem dX6_place_18 : decode cX6_place 18 = .ok (.getfield 21, 3) := by decide +kernel
theorem dX6_place_21 : decode cX6_place 21 = .ok (.getfield 66, 3) := by decide +kernel
theorem dX6_place_24 : decode cX6_place 24 = .ok (.getfield 75, 3) := by decide +kernel
theorem dX6_place_27 : decode cX6_place 27 = .ok (.ireturn, 1) := by decide +kernel
theorem dX6_shrink_0 : decode cX6_shrink 0 = .ok (.aload_n 0, 1) := by decide +kernel
theorem dX6_shrink_1 : decode cX6_shrink 1 = .ok (.getfield 10, 3) := by decide +kernel
theorem dX6_shrink_4 : decode cX6_shrink 4 = .ok (.getfield 40, 3) := by decide +kernel
theorem dX6_shrink_7 : decode cX6_shrink 7 = .ok (.istore_n 1, 1) := by decide +kernel
theorem dX6_shrink_8 : decode cX6_shrink 8 = .ok (.aload_n 0, 1) := by decide +kernel
theorem dX6_shrink_9 : decode cX6_shrink 9 = .ok (.getfield 21, 3) := by decide +kernel
theorem dX6_shrink_12 : decode cX6_shrink 12 = .ok (.invokevirtual 59, 3) := by decide +kernel
theorem dX6_shrink_15 : decode cX6_shrink 15 = .ok (.istore_n 2, 1) := by decide +kernel
theorem dX6_shrink_16 : decode cX6_shrink 16 = .ok (.iload_n 2, 1) := by decide +kernel
theorem dX6_shrink_17 : decode cX6_shrink 17 = .ok (.ifCond .ne 5, 3) := by decide +kernel
theorem dX6_shrink_20 : decode cX6_shrink 20 = .ok (.iconst 0, 1) := by decide +kernel
theorem dX6_shrink_21 : decode cX6_shrink 21 = .ok (.ireturn, 1) := by decide +kernel
theorem dX6_shrink_22 : decode cX6_shrink 22 = .ok (.bipush 32, 2) := by decide +kernel
theorem dX6_shrink_24 : decode cX6_shrink 24 = .ok (.istore_n 3, 1) := by decide +kernel
theorem dX6_shrink_25 : decode cX6_shrink 25 = .ok (.iload_n 3, 1) := by decide +kernel
theorem dX6_shrink_26 : decode cX6_shrink 26 = .ok (.iconst 1, 1) := by decide +kernel
theorem dX6_shrink_27 : decode cX6_shrink 27 = .ok (.if_icmp .lt 115, 3) := by decide +kernel
theorem dX6_shrink_30 : decode cX6_shrink 30 = .ok (.aload_n 0, 1) := by decide +kernel
theorem dX6_shrink_31 : decode cX6_shrink 31 = .ok (.getfield 10, 3) := by decide +kernel
theorem dX6_shrink_34 : decode cX6_shrink 34 = .ok (.getfield 40, 3) := by decide +kernel
theorem dX6_shrink_37 : decode cX6_shrink 37 = .ok (.iload_n 3, 1) := by decide +kernel
theorem dX6_shrink_38 : decode cX6_shrink 38 = .ok (.isub, 1) := by decide +kernel
theorem dX6_shrink_39 : decode cX6_shrink 39 = .ok (.istore 4, 2) := by decide +kernel
theorem dX6_shrink_41 : decode cX6_shrink 41 = .ok (.iload 4, 2) := by decide +kernel
theorem dX6_shrink_43 : decode cX6_shrink 43 = .ok (.ifCond .lt 92, 3) := by decide +kernel
theorem dX6_shrink_46 : decode cX6_shrink 46 = .ok (.aload_n 0, 1) := by decide +kernel
theorem dX6_shrink_47 : decode cX6_shrink 47 = .ok (.getfield 10, 3) := by decide +kernel
theorem dX6_shrink_50 : decode cX6_shrink 50 = .ok (.iload 4, 2) := by decide +kernel
theorem dX6_shrink_52 : decode cX6_shrink 52 = .ok (.iload_n 3, 1) := by decide +kernel
theorem dX6_shrink_53 : decode cX6_shrink 53 = .ok (.invokevirtual 46, 3) := by decide +kernel
theorem dX6_shrink_56 : decode cX6_shrink 56 = .ok (.ifCond .ne 6, 3) := by decide +kernel
theorem dX6_shrink_59 : decode cX6_shrink 59 = .ok (.goto 70, 3) := by decide +kernel
theorem dX6_shrink_62 : decode cX6_shrink 62 = .ok (.aload_n 0, 1) := by decide +kernel
theorem dX6_shrink_63 : decode cX6_shrink 63 = .ok (.getfield 10, 3) := by decide +kernel
theorem dX6_shrink_66 : decode cX6_shrink 66 = .ok (.getfield 50, 3) := by decide +kernel
theorem dX6_shrink_69 : decode cX6_shrink 69 = .ok (.iload 4, 2) := by decide +kernel
theorem dX6_shrink_71 : decode cX6_shrink 71 = .ok (.aload_n 0, 1) := by decide +kernel
theorem dX6_shrink_72 : decode cX6_shrink 72 = .ok (.getfield 29, 3) := by decide +kernel
theorem dX6_shrink_75 : decode cX6_shrink 75 = .ok (.iconst 0, 1) := by decide +kernel
theorem dX6_shrink_76 : decode cX6_shrink 76 = .ok (.iload_n 3, 1) := by decide +kernel
theorem dX6_shrink_77 : decode cX6_shrink 77 = .ok (.invokestatic 78, 3) := by decide +kernel
theorem dX6_shrink_80 : decode cX6_shrink 80 = .ok (.aload_n 0, 1) := by decide +kernel
theorem dX6_shrink_81 : decode cX6_shrink 81 = .ok (.getfield 10, 3) := by decide +kernel
theorem dX6_shrink_84 : decode cX6_shrink 84 = .ok (.iload 4, 2) := by decide +kernel
theorem dX6_shrink_86 : decode cX6_shrink 86 = .ok (.iload_n 3, 1) := by decide +kernel
theorem dX6_shrink_87 : decode cX6_shrink 87 = .ok (.invokevirtual 53, 3) := by decide +kernel
theorem dX6_shrink_90 : decode cX6_shrink 90 = .ok (.aload_n 0, 1) := by decide +kernel
theorem dX6_shrink_91 : decode cX6_shrink 91 = .ok (.getfield 21, 3) := by decide +kernel
theorem dX6_shrink_94 : decode cX6_shrink 94 = .ok (.invokevirtual 59, 3) := by decide +kernel
theorem dX6_shrink_97 : decode cX6_shrink 97 = .ok (.iload_n 2, 1) := by decide +kernel
theorem dX6_shrink_98 : decode cX6_shrink 98 = .ok (.if_icmp .eq 31, 3) := by decide +kernel
theorem dX6_shrink_101 : decode cX6_shrink 101 = .ok (.aload_n 0, 1) := by decide +kernel
theorem dX6_shrink_102 : decode cX6_shrink 102 = .ok (.getfield 10, 3) := by decide +kernel
theorem dX6_shrink_105 : decode cX6_shrink 105 = .ok (.iload 4, 2) := by decide +kernel
theorem dX6_shrink_107 : decode cX6_shrink 107 = .ok (.iload_n 3, 1) := by decide +kernel
theorem dX6_shrink_108 : decode cX6_shrink 108 = .ok (.invokevirtual 56, 3) := by decide +kernel
theorem dX6_shrink_111 : decode cX6_shrink 111 = .ok (.aload_n 0, 1) := by decide +kernel
theorem dX6_shrink_112 : decode cX6_shrink 112 = .ok (.getfield 29, 3) := by decide +kernel
theorem dX6_shrink_115 : decode cX6_shrink 115 = .ok (.iconst 0, 1) := by decide +kernel
theorem dX6_shrink_116 : decode cX6_shrink 116 = .ok (.aload_n 0, 1) := by decide +kernel
theorem dX6_shrink_117 : decode cX6_shrink 117 = .ok (.getfield 10, 3) := by decide +kernel
theorem dX6_shrink_120 : decode cX6_shrink 120 = .ok (.getfield 50, 3) := by decide +kernel
theorem dX6_shrink_123 : decode cX6_shrink 123 = .ok (.iload 4, 2) := by decide +kernel
theorem dX6_shrink_125 : decode cX6_shrink 125 = .ok (.iload_n 3, 1) := by decide +kernel
theorem dX6_shrink_126 : decode cX6_shrink 126 = .ok (.invokestatic 78, 3) := by decide +kernel
theorem dX6_shrink_129 : decode cX6_shrink 129 = .ok (.iinc 4 (-1), 3) := by decide +kernel
theorem dX6_shrink_132 : decode cX6_shrink 132 = .ok (.goto (-91), 3) := by decide +kernel
theorem dX6_shrink_135 : decode cX6_shrink 135 = .ok (.iload_n 3, 1) := by decide +kernel
theorem dX6_shrink_136 : decode cX6_shrink 136 = .ok (.iconst 2, 1) := by decide +kernel
theorem dX6_shrink_137 : decode cX6_shrink 137 = .ok (.idiv, 1) := by decide +kernel
theorem dX6_shrink_138 : decode cX6_shrink 138 = .ok (.istore_n 3, 1) := by decide +kernel
theorem dX6_shrink_139 : decode cX6_shrink 139 = .ok (.goto (-114), 3) := by decide +kernel
theorem dX6_shrink_142 : decode cX6_shrink 142 = .ok (.aload_n 0, 1) := by decide +kernel
theorem dX6_shrink_143 : decode cX6_shrink 143 = .ok (.getfield 21, 3) := by decide +kernel
theorem dX6_shrink_146 : decode cX6_shrink 146 = .ok (.invokevirtual 59, 3) := by decide +kernel
theorem dX6_shrink_149 : decode cX6_shrink 149 = .ok (.pop, 1) := by decide +kernel
theorem dX6_shrink_150 : decode cX6_shrink 150 = .ok (.iload_n 1, 1) := by decide +kernel
theorem dX6_shrink_151 : decode cX6_shrink 151 = .ok (.aload_n 0, 1) := by decide +kernel
theorem dX6_shrink_152 : decode cX6_shrink 152 = .ok (.getfield 10, 3) := by decide +kernel
theorem dX6_shrink_155 : decode cX6_shrink 155 = .ok (.getfield 40, 3) := by decide +kernel
theorem dX6_shrink_158 : decode cX6_shrink 158 = .ok (.isub, 1) := by decide +kernel
theorem dX6_shrink_159 : decode cX6_shrink 159 = .ok (.ireturn, 1) := by decide +kernel
theorem dX6_at_0 : decode cX6_at 0 = .ok (.aload_n 0, 1) := by decide +kernel
theorem dX6_at_1 : decode cX6_at 1 = .ok (.getfield 10, 3) := by decide +kernel
theorem dX6_at_4 : decode cX6_at 4 = .ok (.iload_n 1, 1) := by decide +kernel
theorem dX6_at_5 : decode cX6_at 5 = .ok (.iconst 1, 1) := by decide +kernel
theorem dX6_at_6 : decode cX6_at 6 = .ok (.invokevirtual 46, 3) := by decide +kernel
theorem dX6_at_9 : decode cX6_at 9 = .ok (.ifCond .eq 15, 3) := by decide +kernel
theorem dX6_at_12 : decode cX6_at 12 = .ok (.aload_n 0, 1) := by decide +kernel
theorem dX6_at_13 : decode cX6_at 13 = .ok (.getfield 10, 3) := by decide +kernel
theorem dX6_at_16 : decode cX6_at 16 = .ok (.getfield 50, 3) := by decide +kernel
theorem dX6_at_19 : decode cX6_at 19 = .ok (.iload_n 1, 1) := by decide +kernel
theorem dX6_at_20 : decode cX6_at 20 = .ok (.iaload, 1) := by decide +kernel
theorem dX6_at_21 : decode cX6_at 21 = .ok (.goto 4, 3) := by decide +kernel
theorem dX6_at_24 : decode cX6_at 24 = .ok (.iconst (-1), 1) := by decide +kernel
theorem dX6_at_25 : decode cX6_at 25 = .ok (.ireturn, 1) := by decide +kernel
theorem dX6_read_0 : decode cX6_read 0 = .ok (.iload_n 1, 1) := by decide +kernel
theorem dX6_read_1 : decode cX6_read 1 = .ok (.ifCond .lt 9, 3) := by decide +kernel
theorem dX6_read_4 : decode cX6_read 4 = .ok (.iload_n 1, 1) := by decide +kernel
theorem dX6_read_5 : decode cX6_read 5 = .ok (.bipush 7, 2) := by decide +kernel
theorem dX6_read_7 : decode cX6_read 7 = .ok (.if_icmp .lt 5, 3) := by decide +kernel
theorem dX6_read_10 : decode cX6_read 10 = .ok (.iconst (-1), 1) := by decide +kernel
theorem dX6_read_11 : decode cX6_read 11 = .ok (.ireturn, 1) := by decide +kernel
theorem dX6_read_12 : decode cX6_read 12 = .ok (.aload_n 0, 1) := by decide +kernel
theorem dX6_read_13 : decode cX6_read 13 = .ok (.getfield 21, 3) := by decide +kernel
theorem dX6_read_16 : decode cX6_read 16 = .ok (.getfield 84, 3) := by decide +kernel
theorem dX6_read_19 : decode cX6_read 19 = .ok (.iload_n 1, 1) := by decide +kernel
theorem dX6_read_20 : decode cX6_read 20 = .ok (.iaload, 1) := by decide +kernel
theorem dX6_read_21 : decode cX6_read 21 = .ok (.ireturn, 1) := by decide +kernel
theorem dX6_found_0 : decode cX6_found 0 = .ok (.iload_n 1, 1) := by decide +kernel
theorem dX6_found_1 : decode cX6_found 1 = .ok (.ifCond .lt 9, 3) := by decide +kernel
theorem dX6_found_4 : decode cX6_found 4 = .ok (.iload_n 1, 1) := by decide +kernel
theorem dX6_found_5 : decode cX6_found 5 = .ok (.bipush 28, 2) := by decide +kernel
theorem dX6_found_7 : decode cX6_found 7 = .ok (.if_icmp .le 7, 3) := by decide +kernel
theorem dX6_found_10 : decode cX6_found 10 = .ok (.iconst (-1), 1) := by decide +kernel
theorem dX6_found_11 : decode cX6_found 11 = .ok (.goto 9, 3) := by decide +kernel
theorem dX6_found_14 : decode cX6_found 14 = .ok (.aload_n 0, 1) := by decide +kernel
theorem dX6_found_15 : decode cX6_found 15 = .ok (.getfield 25, 3) := by decide +kernel
theorem dX6_found_18 : decode cX6_found 18 = .ok (.iload_n 1, 1) := by decide +kernel
theorem dX6_found_19 : decode cX6_found 19 = .ok (.iaload, 1) := by decide +kernel
theorem dX6_found_20 : decode cX6_found 20 = .ok (.ireturn, 1) := by decide +kernel
theorem dX6_count_0 : decode cX6_count 0 = .ok (.iload_n 1, 1) := by decide +kernel
theorem dX6_count_1 : decode cX6_count 1 = .ok (.tableswitch 45 0 2 #[27, 35, 40], 27) := by decide +kernel
theorem dX6_count_28 : decode cX6_count 28 = .ok (.aload_n 0, 1) := by decide +kernel
theorem dX6_count_29 : decode cX6_count 29 = .ok (.getfield 10, 3) := by decide +kernel
theorem dX6_count_32 : decode cX6_count 32 = .ok (.getfield 40, 3) := by decide +kernel
theorem dX6_count_35 : decode cX6_count 35 = .ok (.ireturn, 1) := by decide +kernel
theorem dX6_count_36 : decode cX6_count 36 = .ok (.aload_n 0, 1) := by decide +kernel
theorem dX6_count_37 : decode cX6_count 37 = .ok (.invokevirtual 87, 3) := by decide +kernel
theorem dX6_count_40 : decode cX6_count 40 = .ok (.ireturn, 1) := by decide +kernel
theorem dX6_count_41 : decode cX6_count 41 = .ok (.aload_n 0, 1) := by decide +kernel
theorem dX6_count_42 : decode cX6_count 42 = .ok (.getfield 63, 3) := by decide +kernel
theorem dX6_count_45 : decode cX6_count 45 = .ok (.ireturn, 1) := by decide +kernel
theorem dX6_count_46 : decode cX6_count 46 = .ok (.iconst (-1), 1) := by decide +kernel
theorem dX6_count_47 : decode cX6_count 47 = .ok (.ireturn, 1) := by decide +kernel
theorem dX6_rulesFound_0 : decode cX6_rulesFound 0 = .ok (.iconst 0, 1) := by decide +kernel
theorem dX6_rulesFound_1 : decode cX6_rulesFound 1 = .ok (.istore_n 1, 1) := by decide +kernel
theorem dX6_rulesFound_2 : decode cX6_rulesFound 2 = .ok (.iconst 1, 1) := by decide +kernel
theorem dX6_rulesFound_3 : decode cX6_rulesFound 3 = .ok (.istore_n 2, 1) := by decide +kernel
theorem dX6_rulesFound_4 : decode cX6_rulesFound 4 = .ok (.iload_n 2, 1) := by decide +kernel
theorem dX6_rulesFound_5 : decode cX6_rulesFound 5 = .ok (.bipush 28, 2) := by decide +kernel
theorem dX6_rulesFound_7 : decode cX6_rulesFound 7 = .ok (.if_icmp .gt 21, 3) := by decide +kernel
theorem dX6_rulesFound_10 : decode cX6_rulesFound 10 = .ok (.aload_n 0, 1) := by decide +kernel
theorem dX6_rulesFound_11 : decode cX6_rulesFound 11 = .ok (.getfield 25, 3) := by decide +kernel
theorem dX6_rulesFound_14 : decode cX6_rulesFound 14 = .ok (.iload_n 2, 1) := by decide +kernel
theorem dX6_rulesFound_15 : decode cX6_rulesFound 15 = .ok (.iaload, 1) := by decide +kernel
theorem dX6_rulesFound_16 : decode cX6_rulesFound 16 = .ok (.ifCond .le 6, 3) := by decide +kernel
theorem dX6_rulesFound_19 : decode cX6_rulesFound 19 = .ok (.iinc 1 1, 3) := by decide +kernel
theorem dX6_rulesFound_22 : decode cX6_rulesFound 22 = .ok (.iinc 2 1, 3) := by decide +kernel
theorem dX6_rulesFound_25 : decode cX6_rulesFound 25 = .ok (.goto (-21), 3) := by decide +kernel
theorem dX6_rulesFound_28 : decode cX6_rulesFound 28 = .ok (.iload_n 1, 1) := by decide +kernel
theorem dX6_rulesFound_29 : decode cX6_rulesFound 29 = .ok (.ireturn, 1) := by decide +kernel
theorem dX7_init_0 : decode cX7_init 0 = .ok (.aload_n 0, 1) := by decide +kernel
theorem dX7_init_1 : decode cX7_init 1 = .ok (.invokespecial 1, 3) := by decide +kernel
theorem dX7_init_4 : decode cX7_init 4 = .ok (.aload_n 0, 1) := by decide +kernel
theorem dX7_init_5 : decode cX7_init 5 = .ok (.sipush 400, 3) := by decide +kernel
theorem dX7_init_8 : decode cX7_init 8 = .ok (.newarray .int, 2) := by decide +kernel
theorem dX7_init_10 : decode cX7_init 10 = .ok (.putfield 7, 3) := by decide +kernel
theorem dX7_init_13 : decode cX7_init 13 = .ok (.aload_n 0, 1) := by decide +kernel
theorem dX7_init_14 : decode cX7_init 14 = .ok (.bipush 29, 2) := by decide +kernel
theorem dX7_init_16 : decode cX7_init 16 = .ok (.newarray .int, 2) := by decide +kernel
theorem dX7_init_18 : decode cX7_init 18 = .ok (.putfield 13, 3) := by decide +kernel
theorem dX7_init_21 : decode cX7_init 21 = .ok (.aload_n 0, 1) := by decide +kernel
theorem dX7_init_22 : decode cX7_init 22 = .ok (.bipush 7, 2) := by decide +kernel
