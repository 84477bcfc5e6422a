theorem dX7_brackets_4 : decode cX7_brackets 4 = .ok (.getfield 28, 3) := by decide +kernel
theorem dX7_brackets_7 : decode cX7_brackets 7 = .ok (.iload_n 1, 1) := by decide +kernel
theorem dX7_brackets_8 : decode cX7_brackets 8 = .ok (.iaload, 1) := by decide +kernel
theorem dX7_brackets_9 : decode cX7_brackets 9 = .ok (.if_icmp .ge 20, 3) := by decide +kernel
theorem dX7_brackets_12 : decode cX7_brackets 12 = .ok (.aload_n 0, 1) := by decide +kernel
theorem dX7_brackets_13 : decode cX7_brackets 13 = .ok (.iload_n 1, 1) := by decide +kernel
theorem dX7_brackets_14 : decode cX7_brackets 14 = .ok (.iload_n 3, 1) := by decide +kernel
theorem dX7_brackets_15 : decode cX7_brackets 15 = .ok (.invokevirtual 101, 3) := by decide +kernel
theorem dX7_brackets_18 : decode cX7_brackets 18 = .ok (.bipush 91, 2) := by decide +kernel
theorem dX7_brackets_20 : decode cX7_brackets 20 = .ok (.if_icmp .ne 9, 3) := by decide +kernel
theorem dX7_brackets_23 : decode cX7_brackets 23 = .ok (.iinc 3 1, 3) := by decide +kernel
theorem dX7_brackets_26 : decode cX7_brackets 26 = .ok (.goto (-24), 3) := by decide +kernel
theorem dX7_brackets_29 : decode cX7_brackets 29 = .ok (.iload_n 3, 1) := by decide +kernel
theorem dX7_brackets_30 : decode cX7_brackets 30 = .ok (.iload_n 2, 1) := by decide +kernel
theorem dX7_brackets_31 : decode cX7_brackets 31 = .ok (.isub, 1) := by decide +kernel
theorem dX7_brackets_32 : decode cX7_brackets 32 = .ok (.ireturn, 1) := by decide +kernel
theorem dX7_typeEnd_0 : decode cX7_typeEnd 0 = .ok (.aload_n 0, 1) := by decide +kernel
theorem dX7_typeEnd_1 : decode cX7_typeEnd 1 = .ok (.getfield 28, 3) := by decide +kernel
theorem dX7_typeEnd_4 : decode cX7_typeEnd 4 = .ok (.iload_n 1, 1) := by decide +kernel
theorem dX7_typeEnd_5 : decode cX7_typeEnd 5 = .ok (.iaload, 1) := by decide +kernel
theorem dX7_typeEnd_6 : decode cX7_typeEnd 6 = .ok (.istore_n 3, 1) := by decide +kernel
theorem dX7_typeEnd_7 : decode cX7_typeEnd 7 = .ok (.aload_n 0, 1) := by decide +kernel
theorem dX7_typeEnd_8 : decode cX7_typeEnd 8 = .ok (.iload_n 1, 1) := by decide +kernel
theorem dX7_typeEnd_9 : decode cX7_typeEnd 9 = .ok (.iload_n 2, 1) := by decide +kernel
theorem dX7_typeEnd_10 : decode cX7_typeEnd 10 = .ok (.invokevirtual 113, 3) := by decide +kernel
theorem dX7_typeEnd_13 : decode cX7_typeEnd 13 = .ok (.istore 4, 2) := by decide +kernel
theorem dX7_typeEnd_15 : decode cX7_typeEnd 15 = .ok (.iload_n 2, 1) := by decide +kernel
theorem dX7_typeEnd_16 : decode cX7_typeEnd 16 = .ok (.iload 4, 2) := by decide +kernel
theorem dX7_typeEnd_18 : decode cX7_typeEnd 18 = .ok (.iadd, 1) := by decide +kernel
theorem dX7_typeEnd_19 : decode cX7_typeEnd 19 = .ok (.istore 5, 2) := by decide +kernel
theorem dX7_typeEnd_21 : decode cX7_typeEnd 21 = .ok (.iload 4, 2) := by decide +kernel
theorem dX7_typeEnd_23 : decode cX7_typeEnd 23 = .ok (.sipush 255, 3) := by decide +kernel
theorem dX7_typeEnd_26 : decode cX7_typeEnd 26 = .ok (.if_icmp .gt 9, 3) := by decide +kernel
theorem dX7_typeEnd_29 : decode cX7_typeEnd 29 = .ok (.iload 5, 2) := by decide +kernel
theorem dX7_typeEnd_31 : decode cX7_typeEnd 31 = .ok (.iload_n 3, 1) := by decide +kernel
theorem dX7_typeEnd_32 : decode cX7_typeEnd 32 = .ok (.if_icmp .lt 5, 3) := by decide +kernel
theorem dX7_typeEnd_35 : decode cX7_typeEnd 35 = .ok (.iconst (-1), 1) := by decide +kernel
theorem dX7_typeEnd_36 : decode cX7_typeEnd 36 = .ok (.ireturn, 1) := by decide +kernel
theorem dX7_typeEnd_37 : decode cX7_typeEnd 37 = .ok (.aload_n 0, 1) := by decide +kernel
theorem dX7_typeEnd_38 : decode cX7_typeEnd 38 = .ok (.iload_n 1, 1) := by decide +kernel
theorem dX7_typeEnd_39 : decode cX7_typeEnd 39 = .ok (.iload 5, 2) := by decide +kernel
theorem dX7_typeEnd_41 : decode cX7_typeEnd 41 = .ok (.invokevirtual 101, 3) := by decide +kernel
theorem dX7_typeEnd_44 : decode cX7_typeEnd 44 = .ok (.invokestatic 116, 3) := by decide +kernel
theorem dX7_typeEnd_47 : decode cX7_typeEnd 47 = .ok (.ifCond .eq 8, 3) := by decide +kernel
theorem dX7_typeEnd_50 : decode cX7_typeEnd 50 = .ok (.iload 5, 2) := by decide +kernel
theorem dX7_typeEnd_52 : decode cX7_typeEnd 52 = .ok (.iconst 1, 1) := by decide +kernel
theorem dX7_typeEnd_53 : decode cX7_typeEnd 53 = .ok (.iadd, 1) := by decide +kernel
theorem dX7_typeEnd_54 : decode cX7_typeEnd 54 = .ok (.ireturn, 1) := by decide +kernel
theorem dX7_typeEnd_55 : decode cX7_typeEnd 55 = .ok (.aload_n 0, 1) := by decide +kernel
theorem dX7_typeEnd_56 : decode cX7_typeEnd 56 = .ok (.iload_n 1, 1) := by decide +kernel
theorem dX7_typeEnd_57 : decode cX7_typeEnd 57 = .ok (.iload 5, 2) := by decide +kernel
theorem dX7_typeEnd_59 : decode cX7_typeEnd 59 = .ok (.invokevirtual 101, 3) := by decide +kernel
theorem dX7_typeEnd_62 : decode cX7_typeEnd 62 = .ok (.bipush 76, 2) := by decide +kernel
theorem dX7_typeEnd_64 : decode cX7_typeEnd 64 = .ok (.if_icmp .eq 5, 3) := by decide +kernel
theorem dX7_typeEnd_67 : decode cX7_typeEnd 67 = .ok (.iconst (-1), 1) := by decide +kernel
theorem dX7_typeEnd_68 : decode cX7_typeEnd 68 = .ok (.ireturn, 1) := by decide +kernel
theorem dX7_typeEnd_69 : decode cX7_typeEnd 69 = .ok (.iload 5, 2) := by decide +kernel
theorem dX7_typeEnd_71 : decode cX7_typeEnd 71 = .ok (.iconst 1, 1) := by decide +kernel
theorem dX7_typeEnd_72 : decode cX7_typeEnd 72 = .ok (.iadd, 1) := by decide +kernel
theorem dX7_typeEnd_73 : decode cX7_typeEnd 73 = .ok (.istore 6, 2) := by decide +kernel
theorem dX7_typeEnd_75 : decode cX7_typeEnd 75 = .ok (.iload 6, 2) := by decide +kernel
theorem dX7_typeEnd_77 : decode cX7_typeEnd 77 = .ok (.iload_n 3, 1) := by decide +kernel
theorem dX7_typeEnd_78 : decode cX7_typeEnd 78 = .ok (.if_icmp .ge 21, 3) := by decide +kernel
theorem dX7_typeEnd_81 : decode cX7_typeEnd 81 = .ok (.aload_n 0, 1) := by decide +kernel
theorem dX7_typeEnd_82 : decode cX7_typeEnd 82 = .ok (.iload_n 1, 1) := by decide +kernel
theorem dX7_typeEnd_83 : decode cX7_typeEnd 83 = .ok (.iload 6, 2) := by decide +kernel
theorem dX7_typeEnd_85 : decode cX7_typeEnd 85 = .ok (.invokevirtual 101, 3) := by decide +kernel
theorem dX7_typeEnd_88 : decode cX7_typeEnd 88 = .ok (.bipush 59, 2) := by decide +kernel
theorem dX7_typeEnd_90 : decode cX7_typeEnd 90 = .ok (.if_icmp .eq 9, 3) := by decide +kernel
theorem dX7_typeEnd_93 : decode cX7_typeEnd 93 = .ok (.iinc 6 1, 3) := by decide +kernel
theorem dX7_typeEnd_96 : decode cX7_typeEnd 96 = .ok (.goto (-21), 3) := by decide +kernel
theorem dX7_typeEnd_99 : decode cX7_typeEnd 99 = .ok (.iload 6, 2) := by decide +kernel
theorem dX7_typeEnd_101 : decode cX7_typeEnd 101 = .ok (.iload_n 3, 1) := by decide +kernel
theorem dX7_typeEnd_102 : decode cX7_typeEnd 102 = .ok (.if_icmp .ge 24, 3) := by decide +kernel
theorem dX7_typeEnd_105 : decode cX7_typeEnd 105 = .ok (.aload_n 0, 1) := by decide +kernel
theorem dX7_typeEnd_106 : decode cX7_typeEnd 106 = .ok (.iload_n 1, 1) := by decide +kernel
theorem dX7_typeEnd_107 : decode cX7_typeEnd 107 = .ok (.iload 5, 2) := by decide +kernel
theorem dX7_typeEnd_109 : decode cX7_typeEnd 109 = .ok (.iconst 1, 1) := by decide +kernel
theorem dX7_typeEnd_110 : decode cX7_typeEnd 110 = .ok (.iadd, 1) := by decide +kernel
theorem dX7_typeEnd_111 : decode cX7_typeEnd 111 = .ok (.iload 6, 2) := by decide +kernel
theorem dX7_typeEnd_113 : decode cX7_typeEnd 113 = .ok (.invokevirtual 119, 3) := by decide +kernel
theorem dX7_typeEnd_116 : decode cX7_typeEnd 116 = .ok (.ifCond .eq 10, 3) := by decide +kernel
theorem dX7_typeEnd_119 : decode cX7_typeEnd 119 = .ok (.iload 6, 2) := by decide +kernel
theorem dX7_typeEnd_121 : decode cX7_typeEnd 121 = .ok (.iconst 1, 1) := by decide +kernel
theorem dX7_typeEnd_122 : decode cX7_typeEnd 122 = .ok (.iadd, 1) := by decide +kernel
theorem dX7_typeEnd_123 : decode cX7_typeEnd 123 = .ok (.goto 4, 3) := by decide +kernel
theorem dX7_typeEnd_126 : decode cX7_typeEnd 126 = .ok (.iconst (-1), 1) := by decide +kernel
theorem dX7_typeEnd_127 : decode cX7_typeEnd 127 = .ok (.ireturn, 1) := by decide +kernel
theorem dX7_fieldType_0 : decode cX7_fieldType 0 = .ok (.aload_n 0, 1) := by decide +kernel
theorem dX7_fieldType_1 : decode cX7_fieldType 1 = .ok (.iload_n 1, 1) := by decide +kernel
theorem dX7_fieldType_2 : decode cX7_fieldType 2 = .ok (.iconst 0, 1) := by decide +kernel
theorem dX7_fieldType_3 : decode cX7_fieldType 3 = .ok (.invokevirtual 123, 3) := by decide +kernel
theorem dX7_fieldType_6 : decode cX7_fieldType 6 = .ok (.aload_n 0, 1) := by decide +kernel
theorem dX7_fieldType_7 : decode cX7_fieldType 7 = .ok (.getfield 28, 3) := by decide +kernel
theorem dX7_fieldType_10 : decode cX7_fieldType 10 = .ok (.iload_n 1, 1) := by decide +kernel
theorem dX7_fieldType_11 : decode cX7_fieldType 11 = .ok (.iaload, 1) := by decide +kernel
theorem dX7_fieldType_12 : decode cX7_fieldType 12 = .ok (.if_icmp .ne 7, 3) := by decide +kernel
theorem dX7_fieldType_15 : decode cX7_fieldType 15 = .ok (.iconst 1, 1) := by decide +kernel
theorem dX7_fieldType_16 : decode cX7_fieldType 16 = .ok (.goto 4, 3) := by decide +kernel
theorem dX7_fieldType_19 : decode cX7_fieldType 19 = .ok (.iconst 0, 1) := by decide +kernel
theorem dX7_fieldType_20 : decode cX7_fieldType 20 = .ok (.ireturn, 1) := by decide +kernel
theorem dX7_methodType_0 : decode cX7_methodType 0 = .ok (.aload_n 0, 1) := by decide +kernel
theorem dX7_methodType_1 : decode cX7_methodType 1 = .ok (.getfield 28, 3) := by decide +kernel
theorem dX7_methodType_4 : decode cX7_methodType 4 = .ok (.iload_n 1, 1) := by decide +kernel
theorem dX7_methodType_5 : decode cX7_methodType 5 = .ok (.iaload, 1) := by decide +kernel
theorem dX7_methodType_6 : decode cX7_methodType 6 = .ok (.istore_n 2, 1) := by decide +kernel
theorem dX7_methodType_7 : decode cX7_methodType 7 = .ok (.iload_n 2, 1) := by decide +kernel
theorem dX7_methodType_8 : decode cX7_methodType 8 = .ok (.ifCond .eq 14, 3) := by decide +kernel
theorem dX7_methodType_11 : decode cX7_methodType 11 = .ok (.aload_n 0, 1) := by decide +kernel
theorem dX7_methodType_12 : decode cX7_methodType 12 = .ok (.iload_n 1, 1) := by decide +kernel
theorem dX7_methodType_13 : decode cX7_methodType 13 = .ok (.iconst 0, 1) := by decide +kernel
theorem dX7_methodType_14 : decode cX7_methodType 14 = .ok (.invokevirtual 101, 3) := by decide +kernel
theorem dX7_methodType_17 : decode cX7_methodType 17 = .ok (.bipush 40, 2) := by decide +kernel
theorem dX7_methodType_19 : decode cX7_methodType 19 = .ok (.if_icmp .eq 5, 3) := by decide +kernel
theorem dX7_methodType_22 : decode cX7_methodType 22 = .ok (.iconst 0, 1) := by decide +kernel
theorem dX7_methodType_23 : decode cX7_methodType 23 = .ok (.ireturn, 1) := by decide +kernel
theorem dX7_methodType_24 : decode cX7_methodType 24 = .ok (.iconst 1, 1) := by decide +kernel
theorem dX7_methodType_25 : decode cX7_methodType 25 = .ok (.istore_n 3, 1) := by decide +kernel
theorem dX7_methodType_26 : decode cX7_methodType 26 = .ok (.iload_n 3, 1) := by decide +kernel
theorem dX7_methodType_27 : decode cX7_methodType 27 = .ok (.ifCond .lt 29, 3) := by decide +kernel
theorem dX7_methodType_30 : decode cX7_methodType 30 = .ok (.iload_n 3, 1) := by decide +kernel
theorem dX7_methodType_31 : decode cX7_methodType 31 = .ok (.iload_n 2, 1) := by decide +kernel
theorem dX7_methodType_32 : decode cX7_methodType 32 = .ok (.if_icmp .ge 24, 3) := by decide +kernel
theorem dX7_methodType_35 : decode cX7_methodType 35 = .ok (.aload_n 0, 1) := by decide +kernel
theorem dX7_methodType_36 : decode cX7_methodType 36 = .ok (.iload_n 1, 1) := by decide +kernel
theorem dX7_methodType_37 : decode cX7_methodType 37 = .ok (.iload_n 3, 1) := by decide +kernel
theorem dX7_methodType_38 : decode cX7_methodType 38 = .ok (.invokevirtual 101, 3) := by decide +kernel
theorem dX7_methodType_41 : decode cX7_methodType 41 = .ok (.bipush 41, 2) := by decide +kernel
theorem dX7_methodType_43 : decode cX7_methodType 43 = .ok (.if_icmp .eq 13, 3) := by decide +kernel
theorem dX7_methodType_46 : decode cX7_methodType 46 = .ok (.aload_n 0, 1) := by decide +kernel
theorem dX7_methodType_47 : decode cX7_methodType 47 = .ok (.iload_n 1, 1) := by decide +kernel
theorem dX7_methodType_48 : decode cX7_methodType 48 = .ok (.iload_n 3, 1) := by decide +kernel
theorem dX7_methodType_49 : decode cX7_methodType 49 = .ok (.invokevirtual 123, 3) := by decide +kernel
theorem dX7_methodType_52 : decode cX7_methodType 52 = .ok (.istore_n 3, 1) := by decide +kernel
theorem dX7_methodType_53 : decode cX7_methodType 53 = .ok (.goto (-27), 3) := by decide +kernel
theorem dX7_methodType_56 : decode cX7_methodType 56 = .ok (.iload_n 3, 1) := by decide +kernel
theorem dX7_methodType_57 : decode cX7_methodType 57 = .ok (.ifCond .lt 8, 3) := by decide +kernel
theorem dX7_methodType_60 : decode cX7_methodType 60 = .ok (.iload_n 3, 1) := by decide +kernel
theorem dX7_methodType_61 : decode cX7_methodType 61 = .ok (.iload_n 2, 1) := by decide +kernel
theorem dX7_methodType_62 : decode cX7_methodType 62 = .ok (.if_icmp .lt 5, 3) := by decide +kernel
theorem dX7_methodType_65 : decode cX7_methodType 65 = .ok (.iconst 0, 1) := by decide +kernel
theorem dX7_methodType_66 : decode cX7_methodType 66 = .ok (.ireturn, 1) := by decide +kernel
theorem dX7_methodType_67 : decode cX7_methodType 67 = .ok (.iinc 3 1, 3) := by decide +kernel
theorem dX7_methodType_70 : decode cX7_methodType 70 = .ok (.iload_n 3, 1) := by decide +kernel
theorem dX7_methodType_71 : decode cX7_methodType 71 = .ok (.iload_n 2, 1) := by decide +kernel
theorem dX7_methodType_72 : decode cX7_methodType 72 = .ok (.iconst 1, 1) := by decide +kernel
theorem dX7_methodType_73 : decode cX7_methodType 73 = .ok (.isub, 1) := by decide +kernel
theorem dX7_methodType_74 : decode cX7_methodType 74 = .ok (.if_icmp .ne 16, 3) := by decide +kernel
theorem dX7_methodType_77 : decode cX7_methodType 77 = .ok (.aload_n 0, 1) := by decide +kernel
theorem dX7_methodType_78 : decode cX7_methodType 78 = .ok (.iload_n 1, 1) := by decide +kernel
theorem dX7_methodType_79 : decode cX7_methodType 79 = .ok (.iload_n 3, 1) := by decide +kernel
theorem dX7_methodType_80 : decode cX7_methodType 80 = .ok (.invokevirtual 101, 3) := by decide +kernel
theorem dX7_methodType_83 : decode cX7_methodType 83 = .ok (.bipush 86, 2) := by decide +kernel
theorem dX7_methodType_85 : decode cX7_methodType 85 = .ok (.if_icmp .ne 5, 3) := by decide +kernel
theorem dX7_methodType_88 : decode cX7_methodType 88 = .ok (.iconst 1, 1) := by decide +kernel
theorem dX7_methodType_89 : decode cX7_methodType 89 = .ok (.ireturn, 1) := by decide +kernel
theorem dX7_methodType_90 : decode cX7_methodType 90 = .ok (.aload_n 0, 1) := by decide +kernel
theorem dX7_methodType_91 : decode cX7_methodType 91 = .ok (.iload_n 1, 1) := by decide +kernel
theorem dX7_methodType_92 : decode cX7_methodType 92 = .ok (.iload_n 3, 1) := by decide +kernel
theorem dX7_methodType_93 : decode cX7_methodType 93 = .ok (.invokevirtual 123, 3) := by decide +kernel
theorem dX7_methodType_96 : decode cX7_methodType 96 = .ok (.iload_n 2, 1) := by decide +kernel
theorem dX7_methodType_97 : decode cX7_methodType 97 = .ok (.if_icmp .ne 7, 3) := by decide +kernel
theorem dX7_methodType_100 : decode cX7_methodType 100 = .ok (.iconst 1, 1) := by decide +kernel
theorem dX7_methodType_101 : decode cX7_methodType 101 = .ok (.goto 4, 3) := by decide +kernel
theorem dX7_methodType_104 : decode cX7_methodType 104 = .ok (.iconst 0, 1) := by decide +kernel
theorem dX7_methodType_105 : decode cX7_methodType 105 = .ok (.ireturn, 1) := by decide +kernel
theorem dX7_characters_0 : decode cX7_characters 0 = .ok (.iload_n 1, 1) := by decide +kernel
theorem dX7_characters_1 : decode cX7_characters 1 = .ok (.istore_n 3, 1) := by decide +kernel
theorem dX7_characters_2 : decode cX7_characters 2 = .ok (.iload_n 3, 1) := by decide +kernel
theorem dX7_characters_3 : decode cX7_characters 3 = .ok (.iload_n 1, 1) := by decide +kernel
theorem dX7_characters_4 : decode cX7_characters 4 = .ok (.iload_n 2, 1) := by decide +kernel
theorem dX7_characters_5 : decode cX7_characters 5 = .ok (.iadd, 1) := by decide +kernel
theorem dX7_characters_6 : decode cX7_characters 6 = .ok (.if_icmp .ge 179, 3) := by decide +kernel
theorem dX7_characters_9 : decode cX7_characters 9 = .ok (.aload_n 0, 1) := by decide +kernel
theorem dX7_characters_10 : decode cX7_characters 10 = .ok (.getfield 7, 3) := by decide +kernel
theorem dX7_characters_13 : decode cX7_characters 13 = .ok (.iload_n 3, 1) := by decide +kernel
theorem dX7_characters_14 : decode cX7_characters 14 = .ok (.iaload, 1) := by decide +kernel
theorem dX7_characters_15 : decode cX7_characters 15 = .ok (.istore 4, 2) := by decide +kernel
theorem dX7_characters_17 : decode cX7_characters 17 = .ok (.iload 4, 2) := by decide +kernel
theorem dX7_characters_19 : decode cX7_characters 19 = .ok (.iconst 1, 1) := by decide +kernel
theorem dX7_characters_20 : decode cX7_characters 20 = .ok (.if_icmp .lt 15, 3) := by decide +kernel
theorem dX7_characters_23 : decode cX7_characters 23 = .ok (.iload 4, 2) := by decide +kernel
theorem dX7_characters_25 : decode cX7_characters 25 = .ok (.sipush 128, 3) := by decide +kernel
theorem dX7_characters_28 : decode cX7_characters 28 = .ok (.if_icmp .ge 7, 3) := by decide +kernel
theorem dX7_characters_31 : decode cX7_characters 31 = .ok (.iconst 0, 1) := by decide +kernel
theorem dX7_characters_32 : decode cX7_characters 32 = .ok (.goto 45, 3) := by decide +kernel
theorem dX7_characters_35 : decode cX7_characters 35 = .ok (.iload 4, 2) := by decide +kernel
theorem dX7_characters_37 : decode cX7_characters 37 = .ok (.sipush 192, 3) := by decide +kernel
theorem dX7_characters_40 : decode cX7_characters 40 = .ok (.if_icmp .lt 15, 3) := by decide +kernel
theorem dX7_characters_43 : decode cX7_characters 43 = .ok (.iload 4, 2) := by decide +kernel
theorem dX7_characters_45 : decode cX7_characters 45 = .ok (.sipush 224, 3) := by decide +kernel
theorem dX7_characters_48 : decode cX7_characters 48 = .ok (.if_icmp .ge 7, 3) := by decide +kernel
theorem dX7_characters_51 : decode cX7_characters 51 = .ok (.iconst 1, 1) := by decide +kernel
theorem dX7_characters_52 : decode cX7_characters 52 = .ok (.goto 25, 3) := by decide +kernel
theorem dX7_characters_55 : decode cX7_characters 55 = .ok (.iload 4, 2) := by decide +kernel
theorem dX7_characters_57 : decode cX7_characters 57 = .ok (.sipush 224, 3) := by decide +kernel
theorem dX7_characters_60 : decode cX7_characters 60 = .ok (.if_icmp .lt 15, 3) := by decide +kernel
theorem dX7_characters_63 : decode cX7_characters 63 = .ok (.iload 4, 2) := by decide +kernel
theorem dX7_characters_65 : decode cX7_characters 65 = .ok (.sipush 240, 3) := by decide +kernel
theorem dX7_characters_68 : decode cX7_characters 68 = .ok (.if_icmp .ge 7, 3) := by decide +kernel
theorem dX7_characters_71 : decode cX7_characters 71 = .ok (.iconst 2, 1) := by decide +kernel
theorem dX7_characters_72 : decode cX7_characters 72 = .ok (.goto 5, 3) := by decide +kernel
theorem dX7_characters_75 : decode cX7_characters 75 = .ok (.bipush 9, 2) := by decide +kernel
theorem dX7_characters_77 : decode cX7_characters 77 = .ok (.istore 5, 2) := by decide +kernel
theorem dX7_characters_79 : decode cX7_characters 79 = .ok (.iload 5, 2) := by decide +kernel
theorem dX7_characters_81 : decode cX7_characters 81 = .ok (.bipush 9, 2) := by decide +kernel
theorem dX7_characters_83 : decode cX7_characters 83 = .ok (.if_icmp .ge 17, 3) := by decide +kernel
theorem dX7_characters_86 : decode cX7_characters 86 = .ok (.iload_n 3, 1) := by decide +kernel
theorem dX7_characters_87 : decode cX7_characters 87 = .ok (.iload 5, 2) := by decide +kernel
theorem dX7_characters_89 : decode cX7_characters 89 = .ok (.iadd, 1) := by decide +kernel
theorem dX7_characters_90 : decode cX7_characters 90 = .ok (.iload_n 1, 1) := by decide +kernel
theorem dX7_characters_91 : decode cX7_characters 91 = .ok (.iload_n 2, 1) := by decide +kernel
theorem dX7_characters_92 : decode cX7_characters 92 = .ok (.iadd, 1) := by decide +kernel
theorem dX7_characters_93 : decode cX7_characters 93 = .ok (.if_icmp .ge 7, 3) := by decide +kernel
theorem dX7_characters_96 : decode cX7_characters 96 = .ok (.iconst 1, 1) := by decide +kernel
theorem dX7_characters_97 : decode cX7_characters 97 = .ok (.goto 4, 3) := by decide +kernel
theorem dX7_characters_100 : decode cX7_characters 100 = .ok (.iconst 0, 1) := by decide +kernel
theorem dX7_characters_101 : decode cX7_characters 101 = .ok (.istore 6, 2) := by decide +kernel
theorem dX7_characters_103 : decode cX7_characters 103 = .ok (.iconst 1, 1) := by decide +kernel
theorem dX7_characters_104 : decode cX7_characters 104 = .ok (.istore 7, 2) := by decide +kernel
theorem dX7_characters_106 : decode cX7_characters 106 = .ok (.iload 7, 2) := by decide +kernel
theorem dX7_characters_108 : decode cX7_characters 108 = .ok (.iload 5, 2) := by decide +kernel
theorem dX7_characters_110 : decode cX7_characters 110 = .ok (.if_icmp .gt 51, 3) := by decide +kernel
theorem dX7_characters_113 : decode cX7_characters 113 = .ok (.iload 6, 2) := by decide +kernel
theorem dX7_characters_115 : decode cX7_characters 115 = .ok (.ifCond .eq 46, 3) := by decide +kernel
theorem dX7_characters_118 : decode cX7_characters 118 = .ok (.aload_n 0, 1) := by decide +kernel
theorem dX7_characters_119 : decode cX7_characters 119 = .ok (.getfield 7, 3) := by decide +kernel
theorem dX7_characters_122 : decode cX7_characters 122 = .ok (.iload_n 3, 1) := by decide +kernel
theorem dX7_characters_123 : decode cX7_characters 123 = .ok (.iload 7, 2) := by decide +kernel
theorem dX7_characters_125 : decode cX7_characters 125 = .ok (.iadd, 1) := by decide +kernel
theorem dX7_characters_126 : decode cX7_characters 126 = .ok (.iaload, 1) := by decide +kernel
theorem dX7_characters_127 : decode cX7_characters 127 = .ok (.sipush 128, 3) := by decide +kernel
theorem dX7_characters_130 : decode cX7_characters 130 = .ok (.if_icmp .lt 22, 3) := by decide +kernel
theorem dX7_characters_133 : decode cX7_characters 133 = .ok (.aload_n 0, 1) := by decide +kernel
theorem dX7_characters_134 : decode cX7_characters 134 = .ok (.getfield 7, 3) := by decide +kernel
theorem dX7_characters_137 : decode cX7_characters 137 = .ok (.iload_n 3, 1) := by decide +kernel
theorem dX7_characters_138 : decode cX7_characters 138 = .ok (.iload 7, 2) := by decide +kernel
theorem dX7_characters_140 : decode cX7_characters 140 = .ok (.iadd, 1) := by decide +kernel
theorem dX7_characters_141 : decode cX7_characters 141 = .ok (.iaload, 1) := by decide +kernel
theorem dX7_characters_142 : decode cX7_characters 142 = .ok (.sipush 192, 3) := by decide +kernel
theorem dX7_characters_145 : decode cX7_characters 145 = .ok (.if_icmp .ge 7, 3) := by decide +kernel
theorem dX7_characters_148 : decode cX7_characters 148 = .ok (.iconst 1, 1) := by decide +kernel
theorem dX7_characters_149 : decode cX7_characters 149 = .ok (.goto 4, 3) := by decide +kernel
theorem dX7_characters_152 : decode cX7_characters 152 = .ok (.iconst 0, 1) := by decide +kernel
theorem dX7_characters_153 : decode cX7_characters 153 = .ok (.istore 6, 2) := by decide +kernel
theorem dX7_characters_155 : decode cX7_characters 155 = .ok (.iinc 7 1, 3) := by decide +kernel
theorem dX7_characters_158 : decode cX7_characters 158 = .ok (.goto (-52), 3) := by decide +kernel
theorem dX7_characters_161 : decode cX7_characters 161 = .ok (.iload 6, 2) := by decide +kernel
theorem dX7_characters_163 : decode cX7_characters 163 = .ok (.ifCond .ne 12, 3) := by decide +kernel
theorem dX7_characters_166 : decode cX7_characters 166 = .ok (.aload_n 0, 1) := by decide +kernel
theorem dX7_characters_167 : decode cX7_characters 167 = .ok (.bipush 6, 2) := by decide +kernel
theorem dX7_characters_169 : decode cX7_characters 169 = .ok (.iload_n 3, 1) := by decide +kernel
theorem dX7_characters_170 : decode cX7_characters 170 = .ok (.invokevirtual 89, 3) := by decide +kernel
theorem dX7_characters_173 : decode cX7_characters 173 = .ok (.pop, 1) := by decide +kernel
theorem dX7_characters_174 : decode cX7_characters 174 = .ok (.return_, 1) := by decide +kernel
theorem dX7_characters_175 : decode cX7_characters 175 = .ok (.iload_n 3, 1) := by decide +kernel
theorem dX7_characters_176 : decode cX7_characters 176 = .ok (.iconst 1, 1) := by decide +kernel
theorem dX7_characters_177 : decode cX7_characters 177 = .ok (.iload 5, 2) := by decide +kernel
theorem dX7_characters_179 : decode cX7_characters 179 = .ok (.iadd, 1) := by decide +kernel
theorem dX7_characters_180 : decode cX7_characters 180 = .ok (.iadd, 1) := by decide +kernel
theorem dX7_characters_181 : decode cX7_characters 181 = .ok (.istore_n 3, 1) := by decide +kernel
theorem dX7_characters_182 : decode cX7_characters 182 = .ok (.goto (-180), 3) := by decide +kernel
theorem dX7_characters_185 : decode cX7_characters 185 = .ok (.return_, 1) := by decide +kernel
theorem dX7_entry_0 : decode cX7_entry 0 = .ok (.aload_n 0, 1) := by decide +kernel
theorem dX7_entry_1 : decode cX7_entry 1 = .ok (.getfield 77, 3) := by decide +kernel
theorem dX7_entry_4 : decode cX7_entry 4 = .ok (.istore_n 3, 1) := by decide +kernel
theorem dX7_entry_5 : decode cX7_entry 5 = .ok (.aload_n 0, 1) := by decide +kernel
theorem dX7_entry_6 : decode cX7_entry 6 = .ok (.invokevirtual 126, 3) := by decide +kernel
theorem dX7_entry_9 : decode cX7_entry 9 = .ok (.istore 4, 2) := by decide +kernel
theorem dX7_entry_11 : decode cX7_entry 11 = .ok (.aload_n 0, 1) := by decide +kernel
theorem dX7_entry_12 : decode cX7_entry 12 = .ok (.getfield 71, 3) := by decide +kernel
theorem dX7_entry_15 : decode cX7_entry 15 = .ok (.ifCond .eq 5, 3) := by decide +kernel
theorem dX7_entry_18 : decode cX7_entry 18 = .ok (.iconst 1, 1) := by decide +kernel
theorem dX7_entry_19 : decode cX7_entry 19 = .ok (.ireturn, 1) := by decide +kernel
theorem dX7_entry_20 : decode cX7_entry 20 = .ok (.aload_n 0, 1) := by decide +kernel
theorem dX7_entry_21 : decode cX7_entry 21 = .ok (.getfield 19, 3) := by decide +kernel
theorem dX7_entry_24 : decode cX7_entry 24 = .ok (.iload_n 1, 1) := by decide +kernel
theorem dX7_entry_25 : decode cX7_entry 25 = .ok (.iload 4, 2) := by decide +kernel
theorem dX7_entry_27 : decode cX7_entry 27 = .ok (.iastore, 1) := by decide +kernel
theorem dX7_entry_28 : decode cX7_entry 28 = .ok (.aload_n 0, 1) := by decide +kernel
theorem dX7_entry_29 : decode cX7_entry 29 = .ok (.getfield 22, 3) := by decide +kernel
theorem dX7_entry_32 : decode cX7_entry 32 = .ok (.iload_n 1, 1) := by decide +kernel
theorem dX7_entry_33 : decode cX7_entry 33 = .ok (.iload_n 3, 1) := by decide +kernel
theorem dX7_entry_34 : decode cX7_entry 34 = .ok (.iastore, 1) := by decide +kernel
theorem dX7_entry_35 : decode cX7_entry 35 = .ok (.iload 4, 2) := by decide +kernel
theorem dX7_entry_37 : decode cX7_entry 37 = .ok (.tableswitch 209 1 12 #[63, 209, 115, 209, 123, 209, 175, 175, 209, 187, 209, 187], 63) := by decide +kernel
theorem dX7_entry_100 : decode cX7_entry 100 = .ok (.aload_n 0, 1) := by decide +kernel
theorem dX7_entry_101 : decode cX7_entry 101 = .ok (.invokevirtual 130, 3) := by decide +kernel
theorem dX7_entry_104 : decode cX7_entry 104 = .ok (.istore 5, 2) := by decide +kernel
theorem dX7_entry_106 : decode cX7_entry 106 = .ok (.aload_n 0, 1) := by decide +kernel
theorem dX7_entry_107 : decode cX7_entry 107 = .ok (.getfield 25, 3) := by decide +kernel
theorem dX7_entry_110 : decode cX7_entry 110 = .ok (.iload_n 1, 1) := by decide +kernel
theorem dX7_entry_111 : decode cX7_entry 111 = .ok (.aload_n 0, 1) := by decide +kernel
theorem dX7_entry_112 : decode cX7_entry 112 = .ok (.getfield 77, 3) := by decide +kernel
theorem dX7_entry_115 : decode cX7_entry 115 = .ok (.iastore, 1) := by decide +kernel
theorem dX7_entry_116 : decode cX7_entry 116 = .ok (.aload_n 0, 1) := by decide +kernel
theorem dX7_entry_117 : decode cX7_entry 117 = .ok (.getfield 28, 3) := by decide +kernel
theorem dX7_entry_120 : decode cX7_entry 120 = .ok (.iload_n 1, 1) := by decide +kernel
theorem dX7_entry_121 : decode cX7_entry 121 = .ok (.iload 5, 2) := by decide +kernel
theorem dX7_entry_123 : decode cX7_entry 123 = .ok (.iastore, 1) := by decide +kernel
theorem dX7_entry_124 : decode cX7_entry 124 = .ok (.aload_n 0, 1) := by decide +kernel
theorem dX7_entry_125 : decode cX7_entry 125 = .ok (.iload 5, 2) := by decide +kernel
theorem dX7_entry_127 : decode cX7_entry 127 = .ok (.i2l, 1) := by decide +kernel
theorem dX7_entry_128 : decode cX7_entry 128 = .ok (.invokevirtual 133, 3) := by decide +kernel
theorem dX7_entry_131 : decode cX7_entry 131 = .ok (.aload_n 0, 1) := by decide +kernel
theorem dX7_entry_132 : decode cX7_entry 132 = .ok (.getfield 71, 3) := by decide +kernel
theorem dX7_entry_135 : decode cX7_entry 135 = .ok (.ifCond .ne 15, 3) := by decide +kernel
theorem dX7_entry_138 : decode cX7_entry 138 = .ok (.aload_n 0, 1) := by decide +kernel
theorem dX7_entry_139 : decode cX7_entry 139 = .ok (.aload_n 0, 1) := by decide +kernel
theorem dX7_entry_140 : decode cX7_entry 140 = .ok (.getfield 25, 3) := by decide +kernel
theorem dX7_entry_143 : decode cX7_entry 143 = .ok (.iload_n 1, 1) := by decide +kernel
theorem dX7_entry_144 : decode cX7_entry 144 = .ok (.iaload, 1) := by decide +kernel
theorem dX7_entry_145 : decode cX7_entry 145 = .ok (.iload 5, 2) := by decide +kernel
theorem dX7_entry_147 : decode cX7_entry 147 = .ok (.invokevirtual 137, 3) := by decide +kernel
theorem dX7_entry_150 : decode cX7_entry 150 = .ok (.iconst 1, 1) := by decide +kernel
theorem dX7_entry_151 : decode cX7_entry 151 = .ok (.ireturn, 1) := by decide +kernel
theorem dX7_entry_152 : decode cX7_entry 152 = .ok (.aload_n 0, 1) := by decide +kernel
theorem dX7_entry_153 : decode cX7_entry 153 = .ok (.iconst 4, 1) := by decide +kernel
theorem dX7_entry_154 : decode cX7_entry 154 = .ok (.invokevirtual 94, 3) := by decide +kernel
theorem dX7_entry_157 : decode cX7_entry 157 = .ok (.pop2, 1) := by decide +kernel
theorem dX7_entry_158 : decode cX7_entry 158 = .ok (.iconst 1, 1) := by decide +kernel
theorem dX7_entry_159 : decode cX7_entry 159 = .ok (.ireturn, 1) := by decide +kernel
theorem dX7_entry_160 : decode cX7_entry 160 = .ok (.aload_n 0, 1) := by decide +kernel
theorem dX7_entry_161 : decode cX7_entry 161 = .ok (.iconst 4, 1) := by decide +kernel
theorem dX7_entry_162 : decode cX7_entry 162 = .ok (.invokevirtual 94, 3) := by decide +kernel
theorem dX7_entry_165 : decode cX7_entry 165 = .ok (.pop2, 1) := by decide +kernel
theorem dX7_entry_166 : decode cX7_entry 166 = .ok (.aload_n 0, 1) := by decide +kernel
theorem dX7_entry_167 : decode cX7_entry 167 = .ok (.iconst 4, 1) := by decide +kernel
theorem dX7_entry_168 : decode cX7_entry 168 = .ok (.invokevirtual 94, 3) := by decide +kernel
theorem dX7_entry_171 : decode cX7_entry 171 = .ok (.pop2, 1) := by decide +kernel
theorem dX7_entry_172 : decode cX7_entry 172 = .ok (.aload_n 0, 1) := by decide +kernel
theorem dX7_entry_173 : decode cX7_entry 173 = .ok (.getfield 71, 3) := by decide +kernel
theorem dX7_entry_176 : decode cX7_entry 176 = .ok (.ifCond .ne 18, 3) := by decide +kernel
theorem dX7_entry_179 : decode cX7_entry 179 = .ok (.iload_n 1, 1) := by decide +kernel
theorem dX7_entry_180 : decode cX7_entry 180 = .ok (.iconst 1, 1) := by decide +kernel
theorem dX7_entry_181 : decode cX7_entry 181 = .ok (.iadd, 1) := by decide +kernel
theorem dX7_entry_182 : decode cX7_entry 182 = .ok (.iload_n 2, 1) := by decide +kernel
theorem dX7_entry_183 : decode cX7_entry 183 = .ok (.if_icmp .lt 11, 3) := by decide +kernel
theorem dX7_entry_186 : decode cX7_entry 186 = .ok (.aload_n 0, 1) := by decide +kernel
theorem dX7_entry_187 : decode cX7_entry 187 = .ok (.bipush 7, 2) := by decide +kernel
theorem dX7_entry_189 : decode cX7_entry 189 = .ok (.iload_n 3, 1) := by decide +kernel
theorem dX7_entry_190 : decode cX7_entry 190 = .ok (.invokevirtual 89, 3) := by decide +kernel
theorem dX7_entry_193 : decode cX7_entry 193 = .ok (.pop, 1) := by decide +kernel
theorem dX7_entry_194 : decode cX7_entry 194 = .ok (.aload_n 0, 1) := by decide +kernel
theorem dX7_entry_195 : decode cX7_entry 195 = .ok (.getfield 71, 3) := by decide +kernel
theorem dX7_entry_198 : decode cX7_entry 198 = .ok (.ifCond .ne 12, 3) := by decide +kernel
theorem dX7_entry_201 : decode cX7_entry 201 = .ok (.aload_n 0, 1) := by decide +kernel
theorem dX7_entry_202 : decode cX7_entry 202 = .ok (.getfield 19, 3) := by decide +kernel
theorem dX7_entry_205 : decode cX7_entry 205 = .ok (.iload_n 1, 1) := by decide +kernel
theorem dX7_entry_206 : decode cX7_entry 206 = .ok (.iconst 1, 1) := by decide +kernel
theorem dX7_entry_207 : decode cX7_entry 207 = .ok (.iadd, 1) := by decide +kernel
theorem dX7_entry_208 : decode cX7_entry 208 = .ok (.iconst 0, 1) := by decide +kernel
theorem dX7_entry_209 : decode cX7_entry 209 = .ok (.iastore, 1) := by decide +kernel
theorem dX7_entry_210 : decode cX7_entry 210 = .ok (.iconst 2, 1) := by decide +kernel
theorem dX7_entry_211 : decode cX7_entry 211 = .ok (.ireturn, 1) := by decide +kernel
theorem dX7_entry_212 : decode cX7_entry 212 = .ok (.aload_n 0, 1) := by decide +kernel
theorem dX7_entry_213 : decode cX7_entry 213 = .ok (.getfield 25, 3) := by decide +kernel
theorem dX7_entry_216 : decode cX7_entry 216 = .ok (.iload_n 1, 1) := by decide +kernel
theorem dX7_entry_217 : decode cX7_entry 217 = .ok (.aload_n 0, 1) := by decide +kernel
theorem dX7_entry_218 : decode cX7_entry 218 = .ok (.invokevirtual 130, 3) := by decide +kernel
theorem dX7_entry_221 : decode cX7_entry 221 = .ok (.iastore, 1) := by decide +kernel
theorem dX7_entry_222 : decode cX7_entry 222 = .ok (.iconst 1, 1) := by decide +kernel
theorem dX7_entry_223 : decode cX7_entry 223 = .ok (.ireturn, 1) := by decide +kernel
theorem dX7_entry_224 : decode cX7_entry 224 = .ok (.aload_n 0, 1) := by decide +kernel
theorem dX7_entry_225 : decode cX7_entry 225 = .ok (.getfield 25, 3) := by decide +kernel
theorem dX7_entry_228 : decode cX7_entry 228 = .ok (.iload_n 1, 1) := by decide +kernel
theorem dX7_entry_229 : decode cX7_entry 229 = .ok (.aload_n 0, 1) := by decide +kernel
theorem dX7_entry_230 : decode cX7_entry 230 = .ok (.invokevirtual 130, 3) := by decide +kernel
theorem dX7_entry_233 : decode cX7_entry 233 = .ok (.iastore, 1) := by decide +kernel
theorem dX7_entry_234 : decode cX7_entry 234 = .ok (.aload_n 0, 1) := by decide +kernel
theorem dX7_entry_235 : decode cX7_entry 235 = .ok (.getfield 28, 3) := by decide +kernel
theorem dX7_entry_238 : decode cX7_entry 238 = .ok (.iload_n 1, 1) := by decide +kernel
theorem dX7_entry_239 : decode cX7_entry 239 = .ok (.aload_n 0, 1) := by decide +kernel
theorem dX7_entry_240 : decode cX7_entry 240 = .ok (.invokevirtual 130, 3) := by decide +kernel
theorem dX7_entry_243 : decode cX7_entry 243 = .ok (.iastore, 1) := by decide +kernel
theorem dX7_entry_244 : decode cX7_entry 244 = .ok (.iconst 1, 1) := by decide +kernel
theorem dX7_entry_245 : decode cX7_entry 245 = .ok (.ireturn, 1) := by decide +kernel
theorem dX7_entry_246 : decode cX7_entry 246 = .ok (.aload_n 0, 1) := by decide +kernel
theorem dX7_entry_247 : decode cX7_entry 247 = .ok (.iconst 5, 1) := by decide +kernel
theorem dX7_entry_248 : decode cX7_entry 248 = .ok (.iload_n 3, 1) := by decide +kernel
theorem dX7_entry_249 : decode cX7_entry 249 = .ok (.invokevirtual 89, 3) := by decide +kernel
theorem dX7_entry_252 : decode cX7_entry 252 = .ok (.pop, 1) := by decide +kernel
theorem dX7_entry_253 : decode cX7_entry 253 = .ok (.iconst 1, 1) := by decide +kernel
theorem dX7_entry_254 : decode cX7_entry 254 = .ok (.ireturn, 1) := by decide +kernel
theorem dX7_readPool_0 : decode cX7_readPool 0 = .ok (.aload_n 0, 1) := by decide +kernel
theorem dX7_readPool_1 : decode cX7_readPool 1 = .ok (.invokevirtual 130, 3) := by decide +kernel
theorem dX7_readPool_4 : decode cX7_readPool 4 = .ok (.istore_n 1, 1) := by decide +kernel
theorem dX7_readPool_5 : decode cX7_readPool 5 = .ok (.aload_n 0, 1) := by decide +kernel
theorem dX7_readPool_6 : decode cX7_readPool 6 = .ok (.getfield 71, 3) := by decide +kernel
theorem dX7_readPool_9 : decode cX7_readPool 9 = .ok (.ifCond .ne 15, 3) := by decide +kernel
theorem dX7_readPool_12 : decode cX7_readPool 12 = .ok (.iload_n 1, 1) := by decide +kernel
theorem dX7_readPool_13 : decode cX7_readPool 13 = .ok (.ifCond .ne 11, 3) := by decide +kernel
theorem dX7_readPool_16 : decode cX7_readPool 16 = .ok (.aload_n 0, 1) := by decide +kernel
theorem dX7_readPool_17 : decode cX7_readPool 17 = .ok (.iconst 4, 1) := by decide +kernel
theorem dX7_readPool_18 : decode cX7_readPool 18 = .ok (.bipush 8, 2) := by decide +kernel
theorem dX7_readPool_20 : decode cX7_readPool 20 = .ok (.invokevirtual 89, 3) := by decide +kernel
theorem dX7_readPool_23 : decode cX7_readPool 23 = .ok (.pop, 1) := by decide +kernel
theorem dX7_readPool_24 : decode cX7_readPool 24 = .ok (.iconst 1, 1) := by decide +kernel
theorem dX7_readPool_25 : decode cX7_readPool 25 = .ok (.istore_n 2, 1) := by decide +kernel
theorem dX7_readPool_26 : decode cX7_readPool 26 = .ok (.iload_n 2, 1) := by decide +kernel
theorem dX7_readPool_27 : decode cX7_readPool 27 = .ok (.iload_n 1, 1) := by decide +kernel
theorem dX7_readPool_28 : decode cX7_readPool 28 = .ok (.if_icmp .ge 31, 3) := by decide +kernel
theorem dX7_readPool_31 : decode cX7_readPool 31 = .ok (.aload_n 0, 1) := by decide +kernel
theorem dX7_readPool_32 : decode cX7_readPool 32 = .ok (.getfield 71, 3) := by decide +kernel
theorem dX7_readPool_35 : decode cX7_readPool 35 = .ok (.ifCond .ne 24, 3) := by decide +kernel
theorem dX7_readPool_38 : decode cX7_readPool 38 = .ok (.aload_n 0, 1) := by decide +kernel
theorem dX7_readPool_39 : decode cX7_readPool 39 = .ok (.iload_n 2, 1) := by decide +kernel
theorem dX7_readPool_40 : decode cX7_readPool 40 = .ok (.iload_n 1, 1) := by decide +kernel
theorem dX7_readPool_41 : decode cX7_readPool 41 = .ok (.invokevirtual 140, 3) := by decide +kernel
theorem dX7_readPool_44 : decode cX7_readPool 44 = .ok (.istore_n 3, 1) := by decide +kernel
theorem dX7_readPool_45 : decode cX7_readPool 45 = .ok (.aload_n 0, 1) := by decide +kernel
theorem dX7_readPool_46 : decode cX7_readPool 46 = .ok (.getfield 71, 3) := by decide +kernel
theorem dX7_readPool_49 : decode cX7_readPool 49 = .ok (.ifCond .ne 7, 3) := by decide +kernel
theorem dX7_readPool_52 : decode cX7_readPool 52 = .ok (.iload_n 2, 1) := by decide +kernel
theorem dX7_readPool_53 : decode cX7_readPool 53 = .ok (.iload_n 3, 1) := by decide +kernel
theorem dX7_readPool_54 : decode cX7_readPool 54 = .ok (.iadd, 1) := by decide +kernel
theorem dX7_readPool_55 : decode cX7_readPool 55 = .ok (.istore_n 2, 1) := by decide +kernel
theorem dX7_readPool_56 : decode cX7_readPool 56 = .ok (.goto (-30), 3) := by decide +kernel
theorem dX7_readPool_59 : decode cX7_readPool 59 = .ok (.iload_n 1, 1) := by decide +kernel
theorem dX7_readPool_60 : decode cX7_readPool 60 = .ok (.ifCond .le 25, 3) := by decide +kernel
theorem dX7_readPool_63 : decode cX7_readPool 63 = .ok (.aload_n 0, 1) := by decide +kernel
theorem dX7_readPool_64 : decode cX7_readPool 64 = .ok (.getfield 16, 3) := by decide +kernel
theorem dX7_readPool_67 : decode cX7_readPool 67 = .ok (.iconst 0, 1) := by decide +kernel
theorem dX7_readPool_68 : decode cX7_readPool 68 = .ok (.aload_n 0, 1) := by decide +kernel
theorem dX7_readPool_69 : decode cX7_readPool 69 = .ok (.getfield 71, 3) := by decide +kernel
theorem dX7_readPool_72 : decode cX7_readPool 72 = .ok (.bipush 7, 2) := by decide +kernel
theorem dX7_readPool_74 : decode cX7_readPool 74 = .ok (.if_icmp .ne 7, 3) := by decide +kernel
theorem dX7_readPool_77 : decode cX7_readPool 77 = .ok (.iload_n 2, 1) := by decide +kernel
theorem dX7_readPool_78 : decode cX7_readPool 78 = .ok (.goto 6, 3) := by decide +kernel
theorem dX7_readPool_81 : decode cX7_readPool 81 = .ok (.iload_n 2, 1) := by decide +kernel
theorem dX7_readPool_82 : decode cX7_readPool 82 = .ok (.iconst 1, 1) := by decide +kernel
theorem dX7_readPool_83 : decode cX7_readPool 83 = .ok (.isub, 1) := by decide +kernel
theorem dX7_readPool_84 : decode cX7_readPool 84 = .ok (.iastore, 1) := by decide +kernel
theorem dX7_readPool_85 : decode cX7_readPool 85 = .ok (.aload_n 0, 1) := by decide +kernel
theorem dX7_readPool_86 : decode cX7_readPool 86 = .ok (.iload_n 2, 1) := by decide +kernel
theorem dX7_readPool_87 : decode cX7_readPool 87 = .ok (.putfield 98, 3) := by decide +kernel
theorem dX7_readPool_90 : decode cX7_readPool 90 = .ok (.return_, 1) := by decide +kernel
theorem dX7_names_0 : decode cX7_names 0 = .ok (.aload_n 0, 1) := by decide +kernel
theorem dX7_names_1 : decode cX7_names 1 = .ok (.getfield 19, 3) := by decide +kernel
theorem dX7_names_4 : decode cX7_names 4 = .ok (.iload_n 1, 1) := by decide +kernel
theorem dX7_names_5 : decode cX7_names 5 = .ok (.iaload, 1) := by decide +kernel
theorem dX7_names_6 : decode cX7_names 6 = .ok (.bipush 7, 2) := by decide +kernel
theorem dX7_names_8 : decode cX7_names 8 = .ok (.if_icmp .eq 14, 3) := by decide +kernel
theorem dX7_names_11 : decode cX7_names 11 = .ok (.aload_n 0, 1) := by decide +kernel
theorem dX7_names_12 : decode cX7_names 12 = .ok (.getfield 19, 3) := by decide +kernel
theorem dX7_names_15 : decode cX7_names 15 = .ok (.iload_n 1, 1) := by decide +kernel
theorem dX7_names_16 : decode cX7_names 16 = .ok (.iaload, 1) := by decide +kernel
theorem dX7_names_17 : decode cX7_names 17 = .ok (.bipush 8, 2) := by decide +kernel
theorem dX7_names_19 : decode cX7_names 19 = .ok (.if_icmp .ne 15, 3) := by decide +kernel
theorem dX7_names_22 : decode cX7_names 22 = .ok (.aload_n 0, 1) := by decide +kernel
theorem dX7_names_23 : decode cX7_names 23 = .ok (.aload_n 0, 1) := by decide +kernel
theorem dX7_names_24 : decode cX7_names 24 = .ok (.getfield 25, 3) := by decide +kernel
theorem dX7_names_27 : decode cX7_names 27 = .ok (.iload_n 1, 1) := by decide +kernel
theorem dX7_names_28 : decode cX7_names 28 = .ok (.iaload, 1) := by decide +kernel
theorem dX7_names_29 : decode cX7_names 29 = .ok (.iconst 1, 1) := by decide +kernel
theorem dX7_names_30 : decode cX7_names 30 = .ok (.invokevirtual 143, 3) := by decide +kernel
theorem dX7_names_33 : decode cX7_names 33 = .ok (.ireturn, 1) := by decide +kernel
theorem dX7_names_34 : decode cX7_names 34 = .ok (.aload_n 0, 1) := by decide +kernel
theorem dX7_names_35 : decode cX7_names 35 = .ok (.getfield 19, 3) := by decide +kernel
theorem dX7_names_38 : decode cX7_names 38 = .ok (.iload_n 1, 1) := by decide +kernel
theorem dX7_names_39 : decode cX7_names 39 = .ok (.iaload, 1) := by decide +kernel
theorem dX7_names_40 : decode cX7_names 40 = .ok (.bipush 10, 2) := by decide +kernel
theorem dX7_names_42 : decode cX7_names 42 = .ok (.if_icmp .ne 39, 3) := by decide +kernel
theorem dX7_names_45 : decode cX7_names 45 = .ok (.aload_n 0, 1) := by decide +kernel
theorem dX7_names_46 : decode cX7_names 46 = .ok (.aload_n 0, 1) := by decide +kernel
theorem dX7_names_47 : decode cX7_names 47 = .ok (.getfield 25, 3) := by decide +kernel
theorem dX7_names_50 : decode cX7_names 50 = .ok (.iload_n 1, 1) := by decide +kernel
theorem dX7_names_51 : decode cX7_names 51 = .ok (.iaload, 1) := by decide +kernel
theorem dX7_names_52 : decode cX7_names 52 = .ok (.bipush 7, 2) := by decide +kernel
theorem dX7_names_54 : decode cX7_names 54 = .ok (.invokevirtual 143, 3) := by decide +kernel
theorem dX7_names_57 : decode cX7_names 57 = .ok (.ifCond .eq 22, 3) := by decide +kernel
theorem dX7_names_60 : decode cX7_names 60 = .ok (.aload_n 0, 1) := by decide +kernel
theorem dX7_names_61 : decode cX7_names 61 = .ok (.aload_n 0, 1) := by decide +kernel
theorem dX7_names_62 : decode cX7_names 62 = .ok (.getfield 28, 3) := by decide +kernel
theorem dX7_names_65 : decode cX7_names 65 = .ok (.iload_n 1, 1) := by decide +kernel
theorem dX7_names_66 : decode cX7_names 66 = .ok (.iaload, 1) := by decide +kernel
theorem dX7_names_67 : decode cX7_names 67 = .ok (.bipush 12, 2) := by decide +kernel
theorem dX7_names_69 : decode cX7_names 69 = .ok (.invokevirtual 143, 3) := by decide +kernel
theorem dX7_names_72 : decode cX7_names 72 = .ok (.ifCond .eq 7, 3) := by decide +kernel
theorem dX7_names_75 : decode cX7_names 75 = .ok (.iconst 1, 1) := by decide +kernel
theorem dX7_names_76 : decode cX7_names 76 = .ok (.goto 4, 3) := by decide +kernel
theorem dX7_names_79 : decode cX7_names 79 = .ok (.iconst 0, 1) := by decide +kernel
theorem dX7_names_80 : decode cX7_names 80 = .ok (.ireturn, 1) := by decide +kernel
theorem dX7_names_81 : decode cX7_names 81 = .ok (.aload_n 0, 1) := by decide +kernel
theorem dX7_names_82 : decode cX7_names 82 = .ok (.getfield 19, 3) := by decide +kernel
theorem dX7_names_85 : decode cX7_names 85 = .ok (.iload_n 1, 1) := by decide +kernel
theorem dX7_names_86 : decode cX7_names 86 = .ok (.iaload, 1) := by decide +kernel
theorem dX7_names_87 : decode cX7_names 87 = .ok (.bipush 12, 2) := by decide +kernel
theorem dX7_names_89 : decode cX7_names 89 = .ok (.if_icmp .ne 31, 3) := by decide +kernel
theorem dX7_names_92 : decode cX7_names 92 = .ok (.aload_n 0, 1) := by decide +kernel
theorem dX7_names_93 : decode cX7_names 93 = .ok (.aload_n 0, 1) := by decide +kernel
theorem dX7_names_94 : decode cX7_names 94 = .ok (.getfield 25, 3) := by decide +kernel
theorem dX7_names_97 : decode cX7_names 97 = .ok (.iload_n 1, 1) := by decide +kernel
theorem dX7_names_98 : decode cX7_names 98 = .ok (.iaload, 1) := by decide +kernel
theorem dX7_names_99 : decode cX7_names 99 = .ok (.iconst 1, 1) := by decide +kernel
theorem dX7_names_100 : decode cX7_names 100 = .ok (.invokevirtual 143, 3) := by decide +kernel
theorem dX7_names_103 : decode cX7_names 103 = .ok (.ifCond .eq 21, 3) := by decide +kernel
theorem dX7_names_106 : decode cX7_names 106 = .ok (.aload_n 0, 1) := by decide +kernel
theorem dX7_names_107 : decode cX7_names 107 = .ok (.aload_n 0, 1) := by decide +kernel
theorem dX7_names_108 : decode cX7_names 108 = .ok (.getfield 28, 3) := by decide +kernel
theorem dX7_names_111 : decode cX7_names 111 = .ok (.iload_n 1, 1) := by decide +kernel
theorem dX7_names_112 : decode cX7_names 112 = .ok (.iaload, 1) := by decide +kernel
theorem dX7_names_113 : decode cX7_names 113 = .ok (.iconst 1, 1) := by decide +kernel
theorem dX7_names_114 : decode cX7_names 114 = .ok (.invokevirtual 143, 3) := by decide +kernel
theorem dX7_names_117 : decode cX7_names 117 = .ok (.ifCond .eq 7, 3) := by decide +kernel
theorem dX7_names_120 : decode cX7_names 120 = .ok (.iconst 1, 1) := by decide +kernel
theorem dX7_names_121 : decode cX7_names 121 = .ok (.goto 4, 3) := by decide +kernel
theorem dX7_names_124 : decode cX7_names 124 = .ok (.iconst 0, 1) := by decide +kernel
theorem dX7_names_125 : decode cX7_names 125 = .ok (.ireturn, 1) := by decide +kernel
theorem dX7_checkPool_0 : decode cX7_checkPool 0 = .ok (.iconst 1, 1) := by decide +kernel
theorem dX7_checkPool_1 : decode cX7_checkPool 1 = .ok (.istore_n 1, 1) := by decide +kernel
theorem dX7_checkPool_2 : decode cX7_checkPool 2 = .ok (.iload_n 1, 1) := by decide +kernel
theorem dX7_checkPool_3 : decode cX7_checkPool 3 = .ok (.aload_n 0, 1) := by decide +kernel
theorem dX7_checkPool_4 : decode cX7_checkPool 4 = .ok (.getfield 98, 3) := by decide +kernel
theorem dX7_checkPool_7 : decode cX7_checkPool 7 = .ok (.if_icmp .ge 30, 3) := by decide +kernel
theorem dX7_checkPool_10 : decode cX7_checkPool 10 = .ok (.aload_n 0, 1) := by decide +kernel
theorem dX7_checkPool_11 : decode cX7_checkPool 11 = .ok (.iload_n 1, 1) := by decide +kernel
theorem dX7_checkPool_12 : decode cX7_checkPool 12 = .ok (.invokevirtual 146, 3) := by decide +kernel
theorem dX7_checkPool_15 : decode cX7_checkPool 15 = .ok (.ifCond .ne 16, 3) := by decide +kernel
theorem dX7_checkPool_18 : decode cX7_checkPool 18 = .ok (.aload_n 0, 1) := by decide +kernel
theorem dX7_checkPool_19 : decode cX7_checkPool 19 = .ok (.bipush 8, 2) := by decide +kernel
theorem dX7_checkPool_21 : decode cX7_checkPool 21 = .ok (.aload_n 0, 1) := by decide +kernel
theorem dX7_checkPool_22 : decode cX7_checkPool 22 = .ok (.getfield 22, 3) := by decide +kernel
theorem dX7_checkPool_25 : decode cX7_checkPool 25 = .ok (.iload_n 1, 1) := by decide +kernel
theorem dX7_checkPool_26 : decode cX7_checkPool 26 = .ok (.iaload, 1) := by decide +kernel
theorem dX7_checkPool_27 : decode cX7_checkPool 27 = .ok (.invokevirtual 89, 3) := by decide +kernel
theorem dX7_checkPool_30 : decode cX7_checkPool 30 = .ok (.pop, 1) := by decide +kernel
theorem dX7_checkPool_31 : decode cX7_checkPool 31 = .ok (.iinc 1 1, 3) := by decide +kernel
theorem dX7_checkPool_34 : decode cX7_checkPool 34 = .ok (.goto (-32), 3) := by decide +kernel
theorem dX7_checkPool_37 : decode cX7_checkPool 37 = .ok (.iconst 1, 1) := by decide +kernel
theorem dX7_checkPool_38 : decode cX7_checkPool 38 = .ok (.istore_n 1, 1) := by decide +kernel
theorem dX7_checkPool_39 : decode cX7_checkPool 39 = .ok (.iload_n 1, 1) := by decide +kernel
theorem dX7_checkPool_40 : decode cX7_checkPool 40 = .ok (.aload_n 0, 1) := by decide +kernel
theorem dX7_checkPool_41 : decode cX7_checkPool 41 = .ok (.getfield 98, 3) := by decide +kernel
theorem dX7_checkPool_44 : decode cX7_checkPool 44 = .ok (.if_icmp .ge 139, 3) := by decide +kernel
theorem dX7_checkPool_47 : decode cX7_checkPool 47 = .ok (.aload_n 0, 1) := by decide +kernel
theorem dX7_checkPool_48 : decode cX7_checkPool 48 = .ok (.getfield 71, 3) := by decide +kernel
theorem dX7_checkPool_51 : decode cX7_checkPool 51 = .ok (.ifCond .ne 132, 3) := by decide +kernel
theorem dX7_checkPool_54 : decode cX7_checkPool 54 = .ok (.aload_n 0, 1) := by decide +kernel
theorem dX7_checkPool_55 : decode cX7_checkPool 55 = .ok (.getfield 19, 3) := by decide +kernel
theorem dX7_checkPool_58 : decode cX7_checkPool 58 = .ok (.iload_n 1, 1) := by decide +kernel
theorem dX7_checkPool_59 : decode cX7_checkPool 59 = .ok (.iaload, 1) := by decide +kernel
theorem dX7_checkPool_60 : decode cX7_checkPool 60 = .ok (.bipush 7, 2) := by decide +kernel
theorem dX7_checkPool_62 : decode cX7_checkPool 62 = .ok (.if_icmp .ne 41, 3) := by decide +kernel
theorem dX7_checkPool_65 : decode cX7_checkPool 65 = .ok (.aload_n 0, 1) := by decide +kernel
theorem dX7_checkPool_66 : decode cX7_checkPool 66 = .ok (.aload_n 0, 1) := by decide +kernel
theorem dX7_checkPool_67 : decode cX7_checkPool 67 = .ok (.getfield 25, 3) := by decide +kernel
theorem dX7_checkPool_70 : decode cX7_checkPool 70 = .ok (.iload_n 1, 1) := by decide +kernel
theorem dX7_checkPool_71 : decode cX7_checkPool 71 = .ok (.iaload, 1) := by decide +kernel
theorem dX7_checkPool_72 : decode cX7_checkPool 72 = .ok (.iconst 0, 1) := by decide +kernel
theorem dX7_checkPool_73 : decode cX7_checkPool 73 = .ok (.aload_n 0, 1) := by decide +kernel
theorem dX7_checkPool_74 : decode cX7_checkPool 74 = .ok (.getfield 28, 3) := by decide +kernel
theorem dX7_checkPool_77 : decode cX7_checkPool 77 = .ok (.aload_n 0, 1) := by decide +kernel
theorem dX7_checkPool_78 : decode cX7_checkPool 78 = .ok (.getfield 25, 3) := by decide +kernel
theorem dX7_checkPool_81 : decode cX7_checkPool 81 = .ok (.iload_n 1, 1) := by decide +kernel
theorem dX7_checkPool_82 : decode cX7_checkPool 82 = .ok (.iaload, 1) := by decide +kernel
theorem dX7_checkPool_83 : decode cX7_checkPool 83 = .ok (.iaload, 1) := by decide +kernel
theorem dX7_checkPool_84 : decode cX7_checkPool 84 = .ok (.invokevirtual 119, 3) := by decide +kernel
theorem dX7_checkPool_87 : decode cX7_checkPool 87 = .ok (.ifCond .ne 16, 3) := by decide +kernel
theorem dX7_checkPool_90 : decode cX7_checkPool 90 = .ok (.aload_n 0, 1) := by decide +kernel
theorem dX7_checkPool_91 : decode cX7_checkPool 91 = .ok (.bipush 9, 2) := by decide +kernel
theorem dX7_checkPool_93 : decode cX7_checkPool 93 = .ok (.aload_n 0, 1) := by decide +kernel
theorem dX7_checkPool_94 : decode cX7_checkPool 94 = .ok (.getfield 22, 3) := by decide +kernel
theorem dX7_checkPool_97 : decode cX7_checkPool 97 = .ok (.iload_n 1, 1) := by decide +kernel
theorem dX7_checkPool_98 : decode cX7_checkPool 98 = .ok (.iaload, 1) := by decide +kernel
theorem dX7_checkPool_99 : decode cX7_checkPool 99 = .ok (.invokevirtual 89, 3) := by decide +kernel
theorem dX7_checkPool_102 : decode cX7_checkPool 102 = .ok (.pop, 1) := by decide +kernel
theorem dX7_checkPool_103 : decode cX7_checkPool 103 = .ok (.aload_n 0, 1) := by decide +kernel
theorem dX7_checkPool_104 : decode cX7_checkPool 104 = .ok (.getfield 19, 3) := by decide +kernel
theorem dX7_checkPool_107 : decode cX7_checkPool 107 = .ok (.iload_n 1, 1) := by decide +kernel
theorem dX7_checkPool_108 : decode cX7_checkPool 108 = .ok (.iaload, 1) := by decide +kernel
theorem dX7_checkPool_109 : decode cX7_checkPool 109 = .ok (.bipush 12, 2) := by decide +kernel
theorem dX7_checkPool_111 : decode cX7_checkPool 111 = .ok (.if_icmp .ne 29, 3) := by decide +kernel
theorem dX7_checkPool_114 : decode cX7_checkPool 114 = .ok (.aload_n 0, 1) := by decide +kernel
theorem dX7_checkPool_115 : decode cX7_checkPool 115 = .ok (.aload_n 0, 1) := by decide +kernel
theorem dX7_checkPool_116 : decode cX7_checkPool 116 = .ok (.getfield 25, 3) := by decide +kernel
theorem dX7_checkPool_119 : decode cX7_checkPool 119 = .ok (.iload_n 1, 1) := by decide +kernel
theorem dX7_checkPool_120 : decode cX7_checkPool 120 = .ok (.iaload, 1) := by decide +kernel
theorem dX7_checkPool_121 : decode cX7_checkPool 121 = .ok (.invokevirtual 148, 3) := by decide +kernel
theorem dX7_checkPool_124 : decode cX7_checkPool 124 = .ok (.ifCond .ne 16, 3) := by decide +kernel
theorem dX7_checkPool_127 : decode cX7_checkPool 127 = .ok (.aload_n 0, 1) := by decide +kernel
theorem dX7_checkPool_128 : decode cX7_checkPool 128 = .ok (.bipush 9, 2) := by decide +kernel
theorem dX7_checkPool_130 : decode cX7_checkPool 130 = .ok (.aload_n 0, 1) := by decide +kernel
theorem dX7_checkPool_131 : decode cX7_checkPool 131 = .ok (.getfield 22, 3) := by decide +kernel
theorem dX7_checkPool_134 : decode cX7_checkPool 134 = .ok (.iload_n 1, 1) := by decide +kernel
theorem dX7_checkPool_135 : decode cX7_checkPool 135 = .ok (.iaload, 1) := by decide +kernel
theorem dX7_checkPool_136 : decode cX7_checkPool 136 = .ok (.invokevirtual 89, 3) := by decide +kernel
theorem dX7_checkPool_139 : decode cX7_checkPool 139 = .ok (.pop, 1) := by decide +kernel
theorem dX7_checkPool_140 : decode cX7_checkPool 140 = .ok (.aload_n 0, 1) := by decide +kernel
theorem dX7_checkPool_141 : decode cX7_checkPool 141 = .ok (.getfield 19, 3) := by decide +kernel
theorem dX7_checkPool_144 : decode cX7_checkPool 144 = .ok (.iload_n 1, 1) := by decide +kernel
theorem dX7_checkPool_145 : decode cX7_checkPool 145 = .ok (.iaload, 1) := by decide +kernel
theorem dX7_checkPool_146 : decode cX7_checkPool 146 = .ok (.bipush 12, 2) := by decide +kernel
theorem dX7_checkPool_148 : decode cX7_checkPool 148 = .ok (.if_icmp .ne 29, 3) := by decide +kernel
theorem dX7_checkPool_151 : decode cX7_checkPool 151 = .ok (.aload_n 0, 1) := by decide +kernel
theorem dX7_checkPool_152 : decode cX7_checkPool 152 = .ok (.aload_n 0, 1) := by decide +kernel
theorem dX7_checkPool_153 : decode cX7_checkPool 153 = .ok (.getfield 28, 3) := by decide +kernel
theorem dX7_checkPool_156 : decode cX7_checkPool 156 = .ok (.iload_n 1, 1) := by decide +kernel
theorem dX7_checkPool_157 : decode cX7_checkPool 157 = .ok (.iaload, 1) := by decide +kernel
theorem dX7_checkPool_158 : decode cX7_checkPool 158 = .ok (.invokevirtual 151, 3) := by decide +kernel
theorem dX7_checkPool_161 : decode cX7_checkPool 161 = .ok (.ifCond .ne 16, 3) := by decide +kernel
theorem dX7_checkPool_164 : decode cX7_checkPool 164 = .ok (.aload_n 0, 1) := by decide +kernel
theorem dX7_checkPool_165 : decode cX7_checkPool 165 = .ok (.bipush 10, 2) := by decide +kernel
theorem dX7_checkPool_167 : decode cX7_checkPool 167 = .ok (.aload_n 0, 1) := by decide +kernel
theorem dX7_checkPool_168 : decode cX7_checkPool 168 = .ok (.getfield 22, 3) := by decide +kernel
theorem dX7_checkPool_171 : decode cX7_checkPool 171 = .ok (.iload_n 1, 1) := by decide +kernel
theorem dX7_checkPool_172 : decode cX7_checkPool 172 = .ok (.iaload, 1) := by decide +kernel
theorem dX7_checkPool_173 : decode cX7_checkPool 173 = .ok (.invokevirtual 89, 3) := by decide +kernel
theorem dX7_checkPool_176 : decode cX7_checkPool 176 = .ok (.pop, 1) := by decide +kernel
theorem dX7_checkPool_177 : decode cX7_checkPool 177 = .ok (.iinc 1 1, 3) := by decide +kernel
theorem dX7_checkPool_180 : decode cX7_checkPool 180 = .ok (.goto (-141), 3) := by decide +kernel
theorem dX7_checkPool_183 : decode cX7_checkPool 183 = .ok (.return_, 1) := by decide +kernel
theorem dX7_classAt_0 : decode cX7_classAt 0 = .ok (.aload_n 0, 1) := by decide +kernel
theorem dX7_classAt_1 : decode cX7_classAt 1 = .ok (.getfield 77, 3) := by decide +kernel
theorem dX7_classAt_4 : decode cX7_classAt 4 = .ok (.istore_n 1, 1) := by decide +kernel
theorem dX7_classAt_5 : decode cX7_classAt 5 = .ok (.aload_n 0, 1) := by decide +kernel
theorem dX7_classAt_6 : decode cX7_classAt 6 = .ok (.invokevirtual 130, 3) := by decide +kernel
theorem dX7_classAt_9 : decode cX7_classAt 9 = .ok (.istore_n 2, 1) := by decide +kernel
theorem dX7_classAt_10 : decode cX7_classAt 10 = .ok (.aload_n 0, 1) := by decide +kernel
theorem dX7_classAt_11 : decode cX7_classAt 11 = .ok (.getfield 71, 3) := by decide +kernel
theorem dX7_classAt_14 : decode cX7_classAt 14 = .ok (.ifCond .ne 21, 3) := by decide +kernel
theorem dX7_classAt_17 : decode cX7_classAt 17 = .ok (.aload_n 0, 1) := by decide +kernel
theorem dX7_classAt_18 : decode cX7_classAt 18 = .ok (.iload_n 2, 1) := by decide +kernel
theorem dX7_classAt_19 : decode cX7_classAt 19 = .ok (.bipush 7, 2) := by decide +kernel
theorem dX7_classAt_21 : decode cX7_classAt 21 = .ok (.invokevirtual 143, 3) := by decide +kernel
theorem dX7_classAt_24 : decode cX7_classAt 24 = .ok (.ifCond .ne 11, 3) := by decide +kernel
theorem dX7_classAt_27 : decode cX7_classAt 27 = .ok (.aload_n 0, 1) := by decide +kernel
theorem dX7_classAt_28 : decode cX7_classAt 28 = .ok (.bipush 12, 2) := by decide +kernel
theorem dX7_classAt_30 : decode cX7_classAt 30 = .ok (.iload_n 1, 1) := by decide +kernel
theorem dX7_classAt_31 : decode cX7_classAt 31 = .ok (.invokevirtual 89, 3) := by decide +kernel
theorem dX7_classAt_34 : decode cX7_classAt 34 = .ok (.pop, 1) := by decide +kernel
theorem dX7_classAt_35 : decode cX7_classAt 35 = .ok (.return_, 1) := by decide +kernel
theorem dX7_interfaces_0 : decode cX7_interfaces 0 = .ok (.aload_n 0, 1) := by decide +kernel
theorem dX7_interfaces_1 : decode cX7_interfaces 1 = .ok (.invokevirtual 130, 3) := by decide +kernel
theorem dX7_interfaces_4 : decode cX7_interfaces 4 = .ok (.istore_n 1, 1) := by decide +kernel
theorem dX7_interfaces_5 : decode cX7_interfaces 5 = .ok (.iconst 0, 1) := by decide +kernel
theorem dX7_interfaces_6 : decode cX7_interfaces 6 = .ok (.istore_n 2, 1) := by decide +kernel
theorem dX7_interfaces_7 : decode cX7_interfaces 7 = .ok (.iload_n 2, 1) := by decide +kernel
theorem dX7_interfaces_8 : decode cX7_interfaces 8 = .ok (.iload_n 1, 1) := by decide +kernel
theorem dX7_interfaces_9 : decode cX7_interfaces 9 = .ok (.if_icmp .ge 110, 3) := by decide +kernel
theorem dX7_interfaces_12 : decode cX7_interfaces 12 = .ok (.aload_n 0, 1) := by decide +kernel
theorem dX7_interfaces_13 : decode cX7_interfaces 13 = .ok (.getfield 71, 3) := by decide +kernel
theorem dX7_interfaces_16 : decode cX7_interfaces 16 = .ok (.ifCond .ne 103, 3) := by decide +kernel
theorem dX7_interfaces_19 : decode cX7_interfaces 19 = .ok (.aload_n 0, 1) := by decide +kernel
theorem dX7_interfaces_20 : decode cX7_interfaces 20 = .ok (.getfield 77, 3) := by decide +kernel
theorem dX7_interfaces_23 : decode cX7_interfaces 23 = .ok (.istore_n 3, 1) := by decide +kernel
theorem dX7_interfaces_24 : decode cX7_interfaces 24 = .ok (.aload_n 0, 1) := by decide +kernel
theorem dX7_interfaces_25 : decode cX7_interfaces 25 = .ok (.invokevirtual 130, 3) := by decide +kernel
theorem dX7_interfaces_28 : decode cX7_interfaces 28 = .ok (.istore 4, 2) := by decide +kernel
theorem dX7_interfaces_30 : decode cX7_interfaces 30 = .ok (.aload_n 0, 1) := by decide +kernel
theorem dX7_interfaces_31 : decode cX7_interfaces 31 = .ok (.getfield 71, 3) := by decide +kernel
theorem dX7_interfaces_34 : decode cX7_interfaces 34 = .ok (.ifCond .ne 22, 3) := by decide +kernel
theorem dX7_interfaces_37 : decode cX7_interfaces 37 = .ok (.aload_n 0, 1) := by decide +kernel
theorem dX7_interfaces_38 : decode cX7_interfaces 38 = .ok (.iload 4, 2) := by decide +kernel
theorem dX7_interfaces_40 : decode cX7_interfaces 40 = .ok (.bipush 7, 2) := by decide +kernel
theorem dX7_interfaces_42 : decode cX7_interfaces 42 = .ok (.invokevirtual 143, 3) := by decide +kernel
theorem dX7_interfaces_45 : decode cX7_interfaces 45 = .ok (.ifCond .ne 11, 3) := by decide +kernel
theorem dX7_interfaces_48 : decode cX7_interfaces 48 = .ok (.aload_n 0, 1) := by decide +kernel
theorem dX7_interfaces_49 : decode cX7_interfaces 49 = .ok (.bipush 12, 2) := by decide +kernel
theorem dX7_interfaces_51 : decode cX7_interfaces 51 = .ok (.iload_n 3, 1) := by decide +kernel
theorem dX7_interfaces_52 : decode cX7_interfaces 52 = .ok (.invokevirtual 89, 3) := by decide +kernel
theorem dX7_interfaces_55 : decode cX7_interfaces 55 = .ok (.pop, 1) := by decide +kernel
theorem dX7_interfaces_56 : decode cX7_interfaces 56 = .ok (.iconst 0, 1) := by decide +kernel
theorem dX7_interfaces_57 : decode cX7_interfaces 57 = .ok (.istore 5, 2) := by decide +kernel
theorem dX7_interfaces_59 : decode cX7_interfaces 59 = .ok (.iload 5, 2) := by decide +kernel
theorem dX7_interfaces_61 : decode cX7_interfaces 61 = .ok (.iload_n 2, 1) := by decide +kernel
theorem dX7_interfaces_62 : decode cX7_interfaces 62 = .ok (.if_icmp .ge 36, 3) := by decide +kernel
theorem dX7_interfaces_65 : decode cX7_interfaces 65 = .ok (.aload_n 0, 1) := by decide +kernel
theorem dX7_interfaces_66 : decode cX7_interfaces 66 = .ok (.getfield 71, 3) := by decide +kernel
theorem dX7_interfaces_69 : decode cX7_interfaces 69 = .ok (.ifCond .ne 29, 3) := by decide +kernel
theorem dX7_interfaces_72 : decode cX7_interfaces 72 = .ok (.aload_n 0, 1) := by decide +kernel
theorem dX7_interfaces_73 : decode cX7_interfaces 73 = .ok (.getfield 31, 3) := by decide +kernel
theorem dX7_interfaces_76 : decode cX7_interfaces 76 = .ok (.iload 5, 2) := by decide +kernel
theorem dX7_interfaces_78 : decode cX7_interfaces 78 = .ok (.iaload, 1) := by decide +kernel
theorem dX7_interfaces_79 : decode cX7_interfaces 79 = .ok (.iload 4, 2) := by decide +kernel
theorem dX7_interfaces_81 : decode cX7_interfaces 81 = .ok (.if_icmp .ne 11, 3) := by decide +kernel
theorem dX7_interfaces_84 : decode cX7_interfaces 84 = .ok (.aload_n 0, 1) := by decide +kernel
theorem dX7_interfaces_85 : decode cX7_interfaces 85 = .ok (.bipush 13, 2) := by decide +kernel
theorem dX7_interfaces_87 : decode cX7_interfaces 87 = .ok (.iload_n 3, 1) := by decide +kernel
theorem dX7_interfaces_88 : decode cX7_interfaces 88 = .ok (.invokevirtual 89, 3) := by decide +kernel
theorem dX7_interfaces_91 : decode cX7_interfaces 91 = .ok (.pop, 1) := by decide +kernel
theorem dX7_interfaces_92 : decode cX7_interfaces 92 = .ok (.iinc 5 1, 3) := by decide +kernel
theorem dX7_interfaces_95 : decode cX7_interfaces 95 = .ok (.goto (-36), 3) := by decide +kernel
theorem dX7_interfaces_98 : decode cX7_interfaces 98 = .ok (.iload_n 2, 1) := by decide +kernel
theorem dX7_interfaces_99 : decode cX7_interfaces 99 = .ok (.sipush 200, 3) := by decide +kernel
theorem dX7_interfaces_102 : decode cX7_interfaces 102 = .ok (.if_icmp .ge 11, 3) := by decide +kernel
theorem dX7_interfaces_105 : decode cX7_interfaces 105 = .ok (.aload_n 0, 1) := by decide +kernel
theorem dX7_interfaces_106 : decode cX7_interfaces 106 = .ok (.getfield 31, 3) := by decide +kernel
theorem dX7_interfaces_109 : decode cX7_interfaces 109 = .ok (.iload_n 2, 1) := by decide +kernel
theorem dX7_interfaces_110 : decode cX7_interfaces 110 = .ok (.iload 4, 2) := by decide +kernel
theorem dX7_interfaces_112 : decode cX7_interfaces 112 = .ok (.iastore, 1) := by decide +kernel
theorem dX7_interfaces_113 : decode cX7_interfaces 113 = .ok (.iinc 2 1, 3) := by decide +kernel
theorem dX7_interfaces_116 : decode cX7_interfaces 116 = .ok (.goto (-109), 3) := by decide +kernel
theorem dX7_interfaces_119 : decode cX7_interfaces 119 = .ok (.return_, 1) := by decide +kernel
theorem dX7_several_0 : decode cX7_several 0 = .ok (.iload_n 0, 1) := by decide +kernel
theorem dX7_several_1 : decode cX7_several 1 = .ok (.iconst 1, 1) := by decide +kernel
theorem dX7_several_2 : decode cX7_several 2 = .ok (.iand, 1) := by decide +kernel
theorem dX7_several_3 : decode cX7_several 3 = .ok (.iload_n 0, 1) := by decide +kernel
theorem dX7_several_4 : decode cX7_several 4 = .ok (.iconst 1, 1) := by decide +kernel
theorem dX7_several_5 : decode cX7_several 5 = .ok (.ishr, 1) := by decide +kernel
theorem dX7_several_6 : decode cX7_several 6 = .ok (.iconst 1, 1) := by decide +kernel
theorem dX7_several_7 : decode cX7_several 7 = .ok (.iand, 1) := by decide +kernel
theorem dX7_several_8 : decode cX7_several 8 = .ok (.iadd, 1) := by decide +kernel
theorem dX7_several_9 : decode cX7_several 9 = .ok (.iload_n 0, 1) := by decide +kernel
theorem dX7_several_10 : decode cX7_several 10 = .ok (.iconst 2, 1) := by decide +kernel
theorem dX7_several_11 : decode cX7_several 11 = .ok (.ishr, 1) := by decide +kernel
theorem dX7_several_12 : decode cX7_several 12 = .ok (.iconst 1, 1) := by decide +kernel
theorem dX7_several_13 : decode cX7_several 13 = .ok (.iand, 1) := by decide +kernel
theorem dX7_several_14 : decode cX7_several 14 = .ok (.iadd, 1) := by decide +kernel
theorem dX7_several_15 : decode cX7_several 15 = .ok (.istore_n 1, 1) := by decide +kernel
theorem dX7_several_16 : decode cX7_several 16 = .ok (.iload_n 1, 1) := by decide +kernel
theorem dX7_several_17 : decode cX7_several 17 = .ok (.iconst 1, 1) := by decide +kernel
theorem dX7_several_18 : decode cX7_several 18 = .ok (.if_icmp .le 7, 3) := by decide +kernel
theorem dX7_several_21 : decode cX7_several 21 = .ok (.iconst 1, 1) := by decide +kernel
theorem dX7_several_22 : decode cX7_several 22 = .ok (.goto 4, 3) := by decide +kernel
theorem dX7_several_25 : decode cX7_several 25 = .ok (.iconst 0, 1) := by decide +kernel
theorem dX7_several_26 : decode cX7_several 26 = .ok (.ireturn, 1) := by decide +kernel
theorem dX7_header_0 : decode cX7_header 0 = .ok (.aload_n 0, 1) := by decide +kernel
theorem dX7_header_1 : decode cX7_header 1 = .ok (.iconst 4, 1) := by decide +kernel
theorem dX7_header_2 : decode cX7_header 2 = .ok (.invokevirtual 94, 3) := by decide +kernel
theorem dX7_header_5 : decode cX7_header 5 = .ok (.ldc2_w 154, 3) := by decide +kernel
theorem dX7_header_8 : decode cX7_header 8 = .ok (.lcmp, 1) := by decide +kernel
theorem dX7_header_9 : decode cX7_header 9 = .ok (.ifCond .eq 10, 3) := by decide +kernel
theorem dX7_header_12 : decode cX7_header 12 = .ok (.aload_n 0, 1) := by decide +kernel
theorem dX7_header_13 : decode cX7_header 13 = .ok (.iconst 2, 1) := by decide +kernel
theorem dX7_header_14 : decode cX7_header 14 = .ok (.iconst 0, 1) := by decide +kernel
theorem dX7_header_15 : decode cX7_header 15 = .ok (.invokevirtual 89, 3) := by decide +kernel
theorem dX7_header_18 : decode cX7_header 18 = .ok (.pop, 1) := by decide +kernel
theorem dX7_header_19 : decode cX7_header 19 = .ok (.aload_n 0, 1) := by decide +kernel
theorem dX7_header_20 : decode cX7_header 20 = .ok (.invokevirtual 130, 3) := by decide +kernel
theorem dX7_header_23 : decode cX7_header 23 = .ok (.pop, 1) := by decide +kernel
theorem dX7_header_24 : decode cX7_header 24 = .ok (.aload_n 0, 1) := by decide +kernel
theorem dX7_header_25 : decode cX7_header 25 = .ok (.invokevirtual 130, 3) := by decide +kernel
theorem dX7_header_28 : decode cX7_header 28 = .ok (.istore_n 1, 1) := by decide +kernel
theorem dX7_header_29 : decode cX7_header 29 = .ok (.aload_n 0, 1) := by decide +kernel
theorem dX7_header_30 : decode cX7_header 30 = .ok (.getfield 71, 3) := by decide +kernel
theorem dX7_header_33 : decode cX7_header 33 = .ok (.ifCond .ne 23, 3) := by decide +kernel
theorem dX7_header_36 : decode cX7_header 36 = .ok (.iload_n 1, 1) := by decide +kernel
theorem dX7_header_37 : decode cX7_header 37 = .ok (.bipush 45, 2) := by decide +kernel
theorem dX7_header_39 : decode cX7_header 39 = .ok (.if_icmp .lt 9, 3) := by decide +kernel
theorem dX7_header_42 : decode cX7_header 42 = .ok (.iload_n 1, 1) := by decide +kernel
theorem dX7_header_43 : decode cX7_header 43 = .ok (.bipush 69, 2) := by decide +kernel
theorem dX7_header_45 : decode cX7_header 45 = .ok (.if_icmp .le 11, 3) := by decide +kernel
theorem dX7_header_48 : decode cX7_header 48 = .ok (.aload_n 0, 1) := by decide +kernel
theorem dX7_header_49 : decode cX7_header 49 = .ok (.iconst 3, 1) := by decide +kernel
theorem dX7_header_50 : decode cX7_header 50 = .ok (.bipush 6, 2) := by decide +kernel
theorem dX7_header_52 : decode cX7_header 52 = .ok (.invokevirtual 89, 3) := by decide +kernel
theorem dX7_header_55 : decode cX7_header 55 = .ok (.pop, 1) := by decide +kernel
theorem dX7_header_56 : decode cX7_header 56 = .ok (.return_, 1) := by decide +kernel
theorem dX7_top_0 : decode cX7_top 0 = .ok (.aload_n 0, 1) := by decide +kernel
theorem dX7_top_1 : decode cX7_top 1 = .ok (.getfield 77, 3) := by decide +kernel
theorem dX7_top_4 : decode cX7_top 4 = .ok (.istore_n 1, 1) := by decide +kernel
theorem dX7_top_5 : decode cX7_top 5 = .ok (.aload_n 0, 1) := by decide +kernel
theorem dX7_top_6 : decode cX7_top 6 = .ok (.invokevirtual 130, 3) := by decide +kernel
theorem dX7_top_9 : decode cX7_top 9 = .ok (.istore_n 2, 1) := by decide +kernel
theorem dX7_top_10 : decode cX7_top 10 = .ok (.iload_n 2, 1) := by decide +kernel
theorem dX7_top_11 : decode cX7_top 11 = .ok (.sipush 512, 3) := by decide +kernel
theorem dX7_top_14 : decode cX7_top 14 = .ok (.iand, 1) := by decide +kernel
theorem dX7_top_15 : decode cX7_top 15 = .ok (.ifCond .eq 18, 3) := by decide +kernel
theorem dX7_top_18 : decode cX7_top 18 = .ok (.iload_n 2, 1) := by decide +kernel
theorem dX7_top_19 : decode cX7_top 19 = .ok (.sipush 1024, 3) := by decide +kernel
theorem dX7_top_22 : decode cX7_top 22 = .ok (.iand, 1) := by decide +kernel
theorem dX7_top_23 : decode cX7_top 23 = .ok (.ifCond .eq 25, 3) := by decide +kernel
theorem dX7_top_26 : decode cX7_top 26 = .ok (.iload_n 2, 1) := by decide +kernel
theorem dX7_top_27 : decode cX7_top 27 = .ok (.bipush 16, 2) := by decide +kernel
theorem dX7_top_29 : decode cX7_top 29 = .ok (.iand, 1) := by decide +kernel
theorem dX7_top_30 : decode cX7_top 30 = .ok (.ifCond .ne 18, 3) := by decide +kernel
theorem dX7_top_33 : decode cX7_top 33 = .ok (.iload_n 2, 1) := by decide +kernel
theorem dX7_top_34 : decode cX7_top 34 = .ok (.sipush 1024, 3) := by decide +kernel
theorem dX7_top_37 : decode cX7_top 37 = .ok (.iand, 1) := by decide +kernel
theorem dX7_top_38 : decode cX7_top 38 = .ok (.ifCond .eq 14, 3) := by decide +kernel
theorem dX7_top_41 : decode cX7_top 41 = .ok (.iload_n 2, 1) := by decide +kernel
theorem dX7_top_42 : decode cX7_top 42 = .ok (.bipush 16, 2) := by decide +kernel
theorem dX7_top_44 : decode cX7_top 44 = .ok (.iand, 1) := by decide +kernel
theorem dX7_top_45 : decode cX7_top 45 = .ok (.ifCond .eq 7, 3) := by decide +kernel
theorem dX7_top_48 : decode cX7_top 48 = .ok (.iconst 1, 1) := by decide +kernel
theorem dX7_top_49 : decode cX7_top 49 = .ok (.goto 4, 3) := by decide +kernel
theorem dX7_top_52 : decode cX7_top 52 = .ok (.iconst 0, 1) := by decide +kernel
theorem dX7_top_53 : decode cX7_top 53 = .ok (.istore_n 3, 1) := by decide +kernel
theorem dX7_top_54 : decode cX7_top 54 = .ok (.aload_n 0, 1) := by decide +kernel
theorem dX7_top_55 : decode cX7_top 55 = .ok (.getfield 71, 3) := by decide +kernel
theorem dX7_top_58 : decode cX7_top 58 = .ok (.ifCond .ne 15, 3) := by decide +kernel
theorem dX7_top_61 : decode cX7_top 61 = .ok (.iload_n 3, 1) := by decide +kernel
theorem dX7_top_62 : decode cX7_top 62 = .ok (.ifCond .eq 11, 3) := by decide +kernel
theorem dX7_top_65 : decode cX7_top 65 = .ok (.aload_n 0, 1) := by decide +kernel
theorem dX7_top_66 : decode cX7_top 66 = .ok (.bipush 11, 2) := by decide +kernel
theorem dX7_top_68 : decode cX7_top 68 = .ok (.iload_n 1, 1) := by decide +kernel
theorem dX7_top_69 : decode cX7_top 69 = .ok (.invokevirtual 89, 3) := by decide +kernel
theorem dX7_top_72 : decode cX7_top 72 = .ok (.pop, 1) := by decide +kernel
theorem dX7_top_73 : decode cX7_top 73 = .ok (.aload_n 0, 1) := by decide +kernel
theorem dX7_top_74 : decode cX7_top 74 = .ok (.invokevirtual 156, 3) := by decide +kernel
theorem dX7_top_77 : decode cX7_top 77 = .ok (.aload_n 0, 1) := by decide +kernel
theorem dX7_top_78 : decode cX7_top 78 = .ok (.invokevirtual 156, 3) := by decide +kernel
theorem dX7_top_81 : decode cX7_top 81 = .ok (.aload_n 0, 1) := by decide +kernel
theorem dX7_top_82 : decode cX7_top 82 = .ok (.invokevirtual 159, 3) := by decide +kernel
theorem dX7_top_85 : decode cX7_top 85 = .ok (.return_, 1) := by decide +kernel
theorem dX7_member_0 : decode cX7_member 0 = .ok (.aload_n 0, 1) := by decide +kernel
theorem dX7_member_1 : decode cX7_member 1 = .ok (.getfield 77, 3) := by decide +kernel
theorem dX7_member_4 : decode cX7_member 4 = .ok (.istore_n 3, 1) := by decide +kernel
theorem dX7_member_5 : decode cX7_member 5 = .ok (.aload_n 0, 1) := by decide +kernel
