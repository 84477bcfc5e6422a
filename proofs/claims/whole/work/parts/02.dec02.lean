theorem dX2_readMethodAttribute_124 : decode cX2_readMethodAttribute 124 = .ok (.goto 4, 3) := by decide +kernel
theorem dX2_readMethodAttribute_127 : decode cX2_readMethodAttribute 127 = .ok (.iconst 0, 1) := by decide +kernel
theorem dX2_readMethodAttribute_128 : decode cX2_readMethodAttribute 128 = .ok (.istore_n 3, 1) := by decide +kernel
theorem dX2_readMethodAttribute_129 : decode cX2_readMethodAttribute 129 = .ok (.iload_n 3, 1) := by decide +kernel
theorem dX2_readMethodAttribute_130 : decode cX2_readMethodAttribute 130 = .ok (.ifCond .ne 5, 3) := by decide +kernel
theorem dX2_readMethodAttribute_133 : decode cX2_readMethodAttribute 133 = .ok (.iconst 0, 1) := by decide +kernel
theorem dX2_readMethodAttribute_134 : decode cX2_readMethodAttribute 134 = .ok (.ireturn, 1) := by decide +kernel
theorem dX2_readMethodAttribute_135 : decode cX2_readMethodAttribute 135 = .ok (.aload_n 0, 1) := by decide +kernel
theorem dX2_readMethodAttribute_136 : decode cX2_readMethodAttribute 136 = .ok (.getfield 11, 3) := by decide +kernel
theorem dX2_readMethodAttribute_139 : decode cX2_readMethodAttribute 139 = .ok (.iconst 3, 1) := by decide +kernel
theorem dX2_readMethodAttribute_140 : decode cX2_readMethodAttribute 140 = .ok (.dup2, 1) := by decide +kernel
theorem dX2_readMethodAttribute_141 : decode cX2_readMethodAttribute 141 = .ok (.iaload, 1) := by decide +kernel
theorem dX2_readMethodAttribute_142 : decode cX2_readMethodAttribute 142 = .ok (.aload_n 0, 1) := by decide +kernel
theorem dX2_readMethodAttribute_143 : decode cX2_readMethodAttribute 143 = .ok (.getfield 45, 3) := by decide +kernel
theorem dX2_readMethodAttribute_146 : decode cX2_readMethodAttribute 146 = .ok (.getfield 228, 3) := by decide +kernel
theorem dX2_readMethodAttribute_149 : decode cX2_readMethodAttribute 149 = .ok (.iadd, 1) := by decide +kernel
theorem dX2_readMethodAttribute_150 : decode cX2_readMethodAttribute 150 = .ok (.iastore, 1) := by decide +kernel
theorem dX2_readMethodAttribute_151 : decode cX2_readMethodAttribute 151 = .ok (.aload_n 0, 1) := by decide +kernel
theorem dX2_readMethodAttribute_152 : decode cX2_readMethodAttribute 152 = .ok (.getfield 11, 3) := by decide +kernel
theorem dX2_readMethodAttribute_155 : decode cX2_readMethodAttribute 155 = .ok (.iconst 4, 1) := by decide +kernel
theorem dX2_readMethodAttribute_156 : decode cX2_readMethodAttribute 156 = .ok (.dup2, 1) := by decide +kernel
theorem dX2_readMethodAttribute_157 : decode cX2_readMethodAttribute 157 = .ok (.iaload, 1) := by decide +kernel
theorem dX2_readMethodAttribute_158 : decode cX2_readMethodAttribute 158 = .ok (.aload_n 0, 1) := by decide +kernel
theorem dX2_readMethodAttribute_159 : decode cX2_readMethodAttribute 159 = .ok (.getfield 45, 3) := by decide +kernel
theorem dX2_readMethodAttribute_162 : decode cX2_readMethodAttribute 162 = .ok (.getfield 231, 3) := by decide +kernel
theorem dX2_readMethodAttribute_165 : decode cX2_readMethodAttribute 165 = .ok (.iadd, 1) := by decide +kernel
theorem dX2_readMethodAttribute_166 : decode cX2_readMethodAttribute 166 = .ok (.iastore, 1) := by decide +kernel
theorem dX2_readMethodAttribute_167 : decode cX2_readMethodAttribute 167 = .ok (.aload_n 0, 1) := by decide +kernel
theorem dX2_readMethodAttribute_168 : decode cX2_readMethodAttribute 168 = .ok (.getfield 11, 3) := by decide +kernel
theorem dX2_readMethodAttribute_171 : decode cX2_readMethodAttribute 171 = .ok (.iconst 5, 1) := by decide +kernel
theorem dX2_readMethodAttribute_172 : decode cX2_readMethodAttribute 172 = .ok (.dup2, 1) := by decide +kernel
theorem dX2_readMethodAttribute_173 : decode cX2_readMethodAttribute 173 = .ok (.iaload, 1) := by decide +kernel
theorem dX2_readMethodAttribute_174 : decode cX2_readMethodAttribute 174 = .ok (.iconst 1, 1) := by decide +kernel
theorem dX2_readMethodAttribute_175 : decode cX2_readMethodAttribute 175 = .ok (.iadd, 1) := by decide +kernel
theorem dX2_readMethodAttribute_176 : decode cX2_readMethodAttribute 176 = .ok (.iastore, 1) := by decide +kernel
theorem dX2_readMethodAttribute_177 : decode cX2_readMethodAttribute 177 = .ok (.iconst 1, 1) := by decide +kernel
theorem dX2_readMethodAttribute_178 : decode cX2_readMethodAttribute 178 = .ok (.ireturn, 1) := by decide +kernel
theorem dX2_readCode_0 : decode cX2_readCode 0 = .ok (.aload_n 0, 1) := by decide +kernel
theorem dX2_readCode_1 : decode cX2_readCode 1 = .ok (.getfield 27, 3) := by decide +kernel
theorem dX2_readCode_4 : decode cX2_readCode 4 = .ok (.getfield 87, 3) := by decide +kernel
theorem dX2_readCode_7 : decode cX2_readCode 7 = .ok (.istore_n 2, 1) := by decide +kernel
theorem dX2_readCode_8 : decode cX2_readCode 8 = .ok (.iload_n 1, 1) := by decide +kernel
theorem dX2_readCode_9 : decode cX2_readCode 9 = .ok (.bipush 6, 2) := by decide +kernel
theorem dX2_readCode_11 : decode cX2_readCode 11 = .ok (.iadd, 1) := by decide +kernel
theorem dX2_readCode_12 : decode cX2_readCode 12 = .ok (.istore_n 3, 1) := by decide +kernel
theorem dX2_readCode_13 : decode cX2_readCode 13 = .ok (.aload_n 0, 1) := by decide +kernel
theorem dX2_readCode_14 : decode cX2_readCode 14 = .ok (.getfield 27, 3) := by decide +kernel
theorem dX2_readCode_17 : decode cX2_readCode 17 = .ok (.iload_n 3, 1) := by decide +kernel
theorem dX2_readCode_18 : decode cX2_readCode 18 = .ok (.putfield 87, 3) := by decide +kernel
theorem dX2_readCode_21 : decode cX2_readCode 21 = .ok (.aload_n 0, 1) := by decide +kernel
theorem dX2_readCode_22 : decode cX2_readCode 22 = .ok (.getfield 27, 3) := by decide +kernel
theorem dX2_readCode_25 : decode cX2_readCode 25 = .ok (.iload_n 2, 1) := by decide +kernel
theorem dX2_readCode_26 : decode cX2_readCode 26 = .ok (.bipush 20, 2) := by decide +kernel
theorem dX2_readCode_28 : decode cX2_readCode 28 = .ok (.iload_n 1, 1) := by decide +kernel
theorem dX2_readCode_29 : decode cX2_readCode 29 = .ok (.invokevirtual 234, 3) := by decide +kernel
theorem dX2_readCode_32 : decode cX2_readCode 32 = .ok (.aload_n 0, 1) := by decide +kernel
theorem dX2_readCode_33 : decode cX2_readCode 33 = .ok (.iload_n 3, 1) := by decide +kernel
theorem dX2_readCode_34 : decode cX2_readCode 34 = .ok (.invokevirtual 238, 3) := by decide +kernel
theorem dX2_readCode_37 : decode cX2_readCode 37 = .ok (.ifCond .ne 5, 3) := by decide +kernel
theorem dX2_readCode_40 : decode cX2_readCode 40 = .ok (.iconst 0, 1) := by decide +kernel
theorem dX2_readCode_41 : decode cX2_readCode 41 = .ok (.ireturn, 1) := by decide +kernel
theorem dX2_readCode_42 : decode cX2_readCode 42 = .ok (.aload_n 0, 1) := by decide +kernel
theorem dX2_readCode_43 : decode cX2_readCode 43 = .ok (.invokevirtual 121, 3) := by decide +kernel
theorem dX2_readCode_46 : decode cX2_readCode 46 = .ok (.istore 4, 2) := by decide +kernel
theorem dX2_readCode_48 : decode cX2_readCode 48 = .ok (.iload 4, 2) := by decide +kernel
theorem dX2_readCode_50 : decode cX2_readCode 50 = .ok (.iconst (-1), 1) := by decide +kernel
theorem dX2_readCode_51 : decode cX2_readCode 51 = .ok (.if_icmp .eq 25, 3) := by decide +kernel
theorem dX2_readCode_54 : decode cX2_readCode 54 = .ok (.aload_n 0, 1) := by decide +kernel
theorem dX2_readCode_55 : decode cX2_readCode 55 = .ok (.getfield 27, 3) := by decide +kernel
theorem dX2_readCode_58 : decode cX2_readCode 58 = .ok (.iload 4, 2) := by decide +kernel
theorem dX2_readCode_60 : decode cX2_readCode 60 = .ok (.bipush 8, 2) := by decide +kernel
theorem dX2_readCode_62 : decode cX2_readCode 62 = .ok (.imul, 1) := by decide +kernel
theorem dX2_readCode_63 : decode cX2_readCode 63 = .ok (.invokevirtual 100, 3) := by decide +kernel
theorem dX2_readCode_66 : decode cX2_readCode 66 = .ok (.ifCond .eq 10, 3) := by decide +kernel
theorem dX2_readCode_69 : decode cX2_readCode 69 = .ok (.aload_n 0, 1) := by decide +kernel
theorem dX2_readCode_70 : decode cX2_readCode 70 = .ok (.invokevirtual 80, 3) := by decide +kernel
theorem dX2_readCode_73 : decode cX2_readCode 73 = .ok (.ifCond .ne 5, 3) := by decide +kernel
theorem dX2_readCode_76 : decode cX2_readCode 76 = .ok (.iconst 0, 1) := by decide +kernel
theorem dX2_readCode_77 : decode cX2_readCode 77 = .ok (.ireturn, 1) := by decide +kernel
theorem dX2_readCode_78 : decode cX2_readCode 78 = .ok (.aload_n 0, 1) := by decide +kernel
theorem dX2_readCode_79 : decode cX2_readCode 79 = .ok (.getfield 27, 3) := by decide +kernel
theorem dX2_readCode_82 : decode cX2_readCode 82 = .ok (.getfield 87, 3) := by decide +kernel
theorem dX2_readCode_85 : decode cX2_readCode 85 = .ok (.iload_n 2, 1) := by decide +kernel
theorem dX2_readCode_86 : decode cX2_readCode 86 = .ok (.if_icmp .eq 14, 3) := by decide +kernel
theorem dX2_readCode_89 : decode cX2_readCode 89 = .ok (.aload_n 0, 1) := by decide +kernel
theorem dX2_readCode_90 : decode cX2_readCode 90 = .ok (.getfield 27, 3) := by decide +kernel
theorem dX2_readCode_93 : decode cX2_readCode 93 = .ok (.bipush 20, 2) := by decide +kernel
theorem dX2_readCode_95 : decode cX2_readCode 95 = .ok (.iload_n 1, 1) := by decide +kernel
theorem dX2_readCode_96 : decode cX2_readCode 96 = .ok (.invokevirtual 93, 3) := by decide +kernel
theorem dX2_readCode_99 : decode cX2_readCode 99 = .ok (.ireturn, 1) := by decide +kernel
theorem dX2_readCode_100 : decode cX2_readCode 100 = .ok (.aload_n 0, 1) := by decide +kernel
theorem dX2_readCode_101 : decode cX2_readCode 101 = .ok (.getfield 27, 3) := by decide +kernel
theorem dX2_readCode_104 : decode cX2_readCode 104 = .ok (.invokevirtual 241, 3) := by decide +kernel
theorem dX2_readCode_107 : decode cX2_readCode 107 = .ok (.aload_n 0, 1) := by decide +kernel
theorem dX2_readCode_108 : decode cX2_readCode 108 = .ok (.getfield 45, 3) := by decide +kernel
theorem dX2_readCode_111 : decode cX2_readCode 111 = .ok (.iload_n 3, 1) := by decide +kernel
theorem dX2_readCode_112 : decode cX2_readCode 112 = .ok (.invokevirtual 244, 3) := by decide +kernel
theorem dX2_readCode_115 : decode cX2_readCode 115 = .ok (.iconst 1, 1) := by decide +kernel
theorem dX2_readCode_116 : decode cX2_readCode 116 = .ok (.ireturn, 1) := by decide +kernel
theorem dX2_stepInstructions_0 : decode cX2_stepInstructions 0 = .ok (.aload_n 0, 1) := by decide +kernel
theorem dX2_stepInstructions_1 : decode cX2_stepInstructions 1 = .ok (.getfield 27, 3) := by decide +kernel
theorem dX2_stepInstructions_4 : decode cX2_stepInstructions 4 = .ok (.bipush 8, 2) := by decide +kernel
theorem dX2_stepInstructions_6 : decode cX2_stepInstructions 6 = .ok (.invokevirtual 100, 3) := by decide +kernel
theorem dX2_stepInstructions_9 : decode cX2_stepInstructions 9 = .ok (.ifCond .ne 5, 3) := by decide +kernel
theorem dX2_stepInstructions_12 : decode cX2_stepInstructions 12 = .ok (.iconst 0, 1) := by decide +kernel
theorem dX2_stepInstructions_13 : decode cX2_stepInstructions 13 = .ok (.ireturn, 1) := by decide +kernel
theorem dX2_stepInstructions_14 : decode cX2_stepInstructions 14 = .ok (.aload_n 0, 1) := by decide +kernel
theorem dX2_stepInstructions_15 : decode cX2_stepInstructions 15 = .ok (.getfield 18, 3) := by decide +kernel
theorem dX2_stepInstructions_18 : decode cX2_stepInstructions 18 = .ok (.iload_n 1, 1) := by decide +kernel
theorem dX2_stepInstructions_19 : decode cX2_stepInstructions 19 = .ok (.iconst 4, 1) := by decide +kernel
theorem dX2_stepInstructions_20 : decode cX2_stepInstructions 20 = .ok (.iadd, 1) := by decide +kernel
theorem dX2_stepInstructions_21 : decode cX2_stepInstructions 21 = .ok (.invokevirtual 104, 3) := by decide +kernel
theorem dX2_stepInstructions_24 : decode cX2_stepInstructions 24 = .ok (.istore_n 2, 1) := by decide +kernel
theorem dX2_stepInstructions_25 : decode cX2_stepInstructions 25 = .ok (.iload_n 2, 1) := by decide +kernel
theorem dX2_stepInstructions_26 : decode cX2_stepInstructions 26 = .ok (.iconst 1, 1) := by decide +kernel
theorem dX2_stepInstructions_27 : decode cX2_stepInstructions 27 = .ok (.if_icmp .lt 9, 3) := by decide +kernel
theorem dX2_stepInstructions_30 : decode cX2_stepInstructions 30 = .ok (.iload_n 2, 1) := by decide +kernel
theorem dX2_stepInstructions_31 : decode cX2_stepInstructions 31 = .ok (.bipush 64, 2) := by decide +kernel
theorem dX2_stepInstructions_33 : decode cX2_stepInstructions 33 = .ok (.if_icmp .le 16, 3) := by decide +kernel
theorem dX2_stepInstructions_36 : decode cX2_stepInstructions 36 = .ok (.aload_n 0, 1) := by decide +kernel
theorem dX2_stepInstructions_37 : decode cX2_stepInstructions 37 = .ok (.getfield 27, 3) := by decide +kernel
theorem dX2_stepInstructions_40 : decode cX2_stepInstructions 40 = .ok (.bipush 22, 2) := by decide +kernel
theorem dX2_stepInstructions_42 : decode cX2_stepInstructions 42 = .ok (.iload_n 1, 1) := by decide +kernel
theorem dX2_stepInstructions_43 : decode cX2_stepInstructions 43 = .ok (.iconst 4, 1) := by decide +kernel
theorem dX2_stepInstructions_44 : decode cX2_stepInstructions 44 = .ok (.iadd, 1) := by decide +kernel
theorem dX2_stepInstructions_45 : decode cX2_stepInstructions 45 = .ok (.invokevirtual 93, 3) := by decide +kernel
theorem dX2_stepInstructions_48 : decode cX2_stepInstructions 48 = .ok (.ireturn, 1) := by decide +kernel
theorem dX2_stepInstructions_49 : decode cX2_stepInstructions 49 = .ok (.aload_n 0, 1) := by decide +kernel
theorem dX2_stepInstructions_50 : decode cX2_stepInstructions 50 = .ok (.getfield 27, 3) := by decide +kernel
theorem dX2_stepInstructions_53 : decode cX2_stepInstructions 53 = .ok (.iload_n 2, 1) := by decide +kernel
theorem dX2_stepInstructions_54 : decode cX2_stepInstructions 54 = .ok (.invokevirtual 100, 3) := by decide +kernel
theorem dX2_stepInstructions_57 : decode cX2_stepInstructions 57 = .ok (.ireturn, 1) := by decide +kernel
theorem dX2_passAttributes_0 : decode cX2_passAttributes 0 = .ok (.aload_n 0, 1) := by decide +kernel
theorem dX2_passAttributes_1 : decode cX2_passAttributes 1 = .ok (.invokevirtual 121, 3) := by decide +kernel
theorem dX2_passAttributes_4 : decode cX2_passAttributes 4 = .ok (.istore_n 1, 1) := by decide +kernel
theorem dX2_passAttributes_5 : decode cX2_passAttributes 5 = .ok (.iconst 0, 1) := by decide +kernel
theorem dX2_passAttributes_6 : decode cX2_passAttributes 6 = .ok (.istore_n 2, 1) := by decide +kernel
theorem dX2_passAttributes_7 : decode cX2_passAttributes 7 = .ok (.iload_n 2, 1) := by decide +kernel
theorem dX2_passAttributes_8 : decode cX2_passAttributes 8 = .ok (.iload_n 1, 1) := by decide +kernel
theorem dX2_passAttributes_9 : decode cX2_passAttributes 9 = .ok (.if_icmp .ge 35, 3) := by decide +kernel
theorem dX2_passAttributes_12 : decode cX2_passAttributes 12 = .ok (.aload_n 0, 1) := by decide +kernel
theorem dX2_passAttributes_13 : decode cX2_passAttributes 13 = .ok (.invokevirtual 189, 3) := by decide +kernel
theorem dX2_passAttributes_16 : decode cX2_passAttributes 16 = .ok (.ifCond .eq 10, 3) := by decide +kernel
theorem dX2_passAttributes_19 : decode cX2_passAttributes 19 = .ok (.aload_n 0, 1) := by decide +kernel
theorem dX2_passAttributes_20 : decode cX2_passAttributes 20 = .ok (.invokevirtual 192, 3) := by decide +kernel
theorem dX2_passAttributes_23 : decode cX2_passAttributes 23 = .ok (.ifCond .ne 5, 3) := by decide +kernel
theorem dX2_passAttributes_26 : decode cX2_passAttributes 26 = .ok (.iconst 0, 1) := by decide +kernel
theorem dX2_passAttributes_27 : decode cX2_passAttributes 27 = .ok (.ireturn, 1) := by decide +kernel
theorem dX2_passAttributes_28 : decode cX2_passAttributes 28 = .ok (.aload_n 0, 1) := by decide +kernel
theorem dX2_passAttributes_29 : decode cX2_passAttributes 29 = .ok (.getfield 11, 3) := by decide +kernel
theorem dX2_passAttributes_32 : decode cX2_passAttributes 32 = .ok (.iconst 5, 1) := by decide +kernel
theorem dX2_passAttributes_33 : decode cX2_passAttributes 33 = .ok (.dup2, 1) := by decide +kernel
theorem dX2_passAttributes_34 : decode cX2_passAttributes 34 = .ok (.iaload, 1) := by decide +kernel
theorem dX2_passAttributes_35 : decode cX2_passAttributes 35 = .ok (.iconst 1, 1) := by decide +kernel
theorem dX2_passAttributes_36 : decode cX2_passAttributes 36 = .ok (.iadd, 1) := by decide +kernel
theorem dX2_passAttributes_37 : decode cX2_passAttributes 37 = .ok (.iastore, 1) := by decide +kernel
theorem dX2_passAttributes_38 : decode cX2_passAttributes 38 = .ok (.iinc 2 1, 3) := by decide +kernel
theorem dX2_passAttributes_41 : decode cX2_passAttributes 41 = .ok (.goto (-34), 3) := by decide +kernel
theorem dX2_passAttributes_44 : decode cX2_passAttributes 44 = .ok (.iload_n 1, 1) := by decide +kernel
theorem dX2_passAttributes_45 : decode cX2_passAttributes 45 = .ok (.iconst (-1), 1) := by decide +kernel
theorem dX2_passAttributes_46 : decode cX2_passAttributes 46 = .ok (.if_icmp .eq 7, 3) := by decide +kernel
theorem dX2_passAttributes_49 : decode cX2_passAttributes 49 = .ok (.iconst 1, 1) := by decide +kernel
theorem dX2_passAttributes_50 : decode cX2_passAttributes 50 = .ok (.goto 4, 3) := by decide +kernel
theorem dX2_passAttributes_53 : decode cX2_passAttributes 53 = .ok (.iconst 0, 1) := by decide +kernel
theorem dX2_passAttributes_54 : decode cX2_passAttributes 54 = .ok (.ireturn, 1) := by decide +kernel
theorem dX2_readAttributeName_0 : decode cX2_readAttributeName 0 = .ok (.aload_n 0, 1) := by decide +kernel
theorem dX2_readAttributeName_1 : decode cX2_readAttributeName 1 = .ok (.getfield 27, 3) := by decide +kernel
theorem dX2_readAttributeName_4 : decode cX2_readAttributeName 4 = .ok (.getfield 87, 3) := by decide +kernel
theorem dX2_readAttributeName_7 : decode cX2_readAttributeName 7 = .ok (.istore_n 1, 1) := by decide +kernel
theorem dX2_readAttributeName_8 : decode cX2_readAttributeName 8 = .ok (.aload_n 0, 1) := by decide +kernel
theorem dX2_readAttributeName_9 : decode cX2_readAttributeName 9 = .ok (.getfield 27, 3) := by decide +kernel
theorem dX2_readAttributeName_12 : decode cX2_readAttributeName 12 = .ok (.iconst 2, 1) := by decide +kernel
theorem dX2_readAttributeName_13 : decode cX2_readAttributeName 13 = .ok (.invokevirtual 100, 3) := by decide +kernel
theorem dX2_readAttributeName_16 : decode cX2_readAttributeName 16 = .ok (.ifCond .ne 5, 3) := by decide +kernel
theorem dX2_readAttributeName_19 : decode cX2_readAttributeName 19 = .ok (.iconst 0, 1) := by decide +kernel
theorem dX2_readAttributeName_20 : decode cX2_readAttributeName 20 = .ok (.ireturn, 1) := by decide +kernel
theorem dX2_readAttributeName_21 : decode cX2_readAttributeName 21 = .ok (.aload_n 0, 1) := by decide +kernel
theorem dX2_readAttributeName_22 : decode cX2_readAttributeName 22 = .ok (.getfield 36, 3) := by decide +kernel
theorem dX2_readAttributeName_25 : decode cX2_readAttributeName 25 = .ok (.aload_n 0, 1) := by decide +kernel
theorem dX2_readAttributeName_26 : decode cX2_readAttributeName 26 = .ok (.getfield 18, 3) := by decide +kernel
theorem dX2_readAttributeName_29 : decode cX2_readAttributeName 29 = .ok (.iload_n 1, 1) := by decide +kernel
theorem dX2_readAttributeName_30 : decode cX2_readAttributeName 30 = .ok (.invokevirtual 109, 3) := by decide +kernel
theorem dX2_readAttributeName_33 : decode cX2_readAttributeName 33 = .ok (.invokevirtual 118, 3) := by decide +kernel
theorem dX2_readAttributeName_36 : decode cX2_readAttributeName 36 = .ok (.iconst 1, 1) := by decide +kernel
theorem dX2_readAttributeName_37 : decode cX2_readAttributeName 37 = .ok (.if_icmp .eq 16, 3) := by decide +kernel
theorem dX2_readAttributeName_40 : decode cX2_readAttributeName 40 = .ok (.aload_n 0, 1) := by decide +kernel
theorem dX2_readAttributeName_41 : decode cX2_readAttributeName 41 = .ok (.getfield 27, 3) := by decide +kernel
theorem dX2_readAttributeName_44 : decode cX2_readAttributeName 44 = .ok (.bipush 15, 2) := by decide +kernel
theorem dX2_readAttributeName_46 : decode cX2_readAttributeName 46 = .ok (.iload_n 1, 1) := by decide +kernel
theorem dX2_readAttributeName_47 : decode cX2_readAttributeName 47 = .ok (.invokevirtual 93, 3) := by decide +kernel
theorem dX2_readAttributeName_50 : decode cX2_readAttributeName 50 = .ok (.ifCond .eq 7, 3) := by decide +kernel
theorem dX2_readAttributeName_53 : decode cX2_readAttributeName 53 = .ok (.iconst 1, 1) := by decide +kernel
theorem dX2_readAttributeName_54 : decode cX2_readAttributeName 54 = .ok (.goto 4, 3) := by decide +kernel
theorem dX2_readAttributeName_57 : decode cX2_readAttributeName 57 = .ok (.iconst 0, 1) := by decide +kernel
theorem dX2_readAttributeName_58 : decode cX2_readAttributeName 58 = .ok (.ireturn, 1) := by decide +kernel
theorem dX2_stepAttributeBytes_0 : decode cX2_stepAttributeBytes 0 = .ok (.aload_n 0, 1) := by decide +kernel
theorem dX2_stepAttributeBytes_1 : decode cX2_stepAttributeBytes 1 = .ok (.getfield 27, 3) := by decide +kernel
theorem dX2_stepAttributeBytes_4 : decode cX2_stepAttributeBytes 4 = .ok (.getfield 87, 3) := by decide +kernel
theorem dX2_stepAttributeBytes_7 : decode cX2_stepAttributeBytes 7 = .ok (.istore_n 1, 1) := by decide +kernel
theorem dX2_stepAttributeBytes_8 : decode cX2_stepAttributeBytes 8 = .ok (.aload_n 0, 1) := by decide +kernel
theorem dX2_stepAttributeBytes_9 : decode cX2_stepAttributeBytes 9 = .ok (.getfield 27, 3) := by decide +kernel
theorem dX2_stepAttributeBytes_12 : decode cX2_stepAttributeBytes 12 = .ok (.iconst 4, 1) := by decide +kernel
theorem dX2_stepAttributeBytes_13 : decode cX2_stepAttributeBytes 13 = .ok (.invokevirtual 100, 3) := by decide +kernel
theorem dX2_stepAttributeBytes_16 : decode cX2_stepAttributeBytes 16 = .ok (.ifCond .eq 25, 3) := by decide +kernel
theorem dX2_stepAttributeBytes_19 : decode cX2_stepAttributeBytes 19 = .ok (.aload_n 0, 1) := by decide +kernel
theorem dX2_stepAttributeBytes_20 : decode cX2_stepAttributeBytes 20 = .ok (.getfield 27, 3) := by decide +kernel
theorem dX2_stepAttributeBytes_23 : decode cX2_stepAttributeBytes 23 = .ok (.aload_n 0, 1) := by decide +kernel
theorem dX2_stepAttributeBytes_24 : decode cX2_stepAttributeBytes 24 = .ok (.getfield 18, 3) := by decide +kernel
theorem dX2_stepAttributeBytes_27 : decode cX2_stepAttributeBytes 27 = .ok (.iload_n 1, 1) := by decide +kernel
theorem dX2_stepAttributeBytes_28 : decode cX2_stepAttributeBytes 28 = .ok (.invokevirtual 104, 3) := by decide +kernel
theorem dX2_stepAttributeBytes_31 : decode cX2_stepAttributeBytes 31 = .ok (.invokevirtual 100, 3) := by decide +kernel
theorem dX2_stepAttributeBytes_34 : decode cX2_stepAttributeBytes 34 = .ok (.ifCond .eq 7, 3) := by decide +kernel
theorem dX2_stepAttributeBytes_37 : decode cX2_stepAttributeBytes 37 = .ok (.iconst 1, 1) := by decide +kernel
theorem dX2_stepAttributeBytes_38 : decode cX2_stepAttributeBytes 38 = .ok (.goto 4, 3) := by decide +kernel
theorem dX2_stepAttributeBytes_41 : decode cX2_stepAttributeBytes 41 = .ok (.iconst 0, 1) := by decide +kernel
theorem dX2_stepAttributeBytes_42 : decode cX2_stepAttributeBytes 42 = .ok (.ireturn, 1) := by decide +kernel
theorem dX3_isFieldName_0 : decode cX3_isFieldName 0 = .ok (.iload_n 1, 1) := by decide +kernel
theorem dX3_isFieldName_1 : decode cX3_isFieldName 1 = .ok (.istore_n 3, 1) := by decide +kernel
theorem dX3_isFieldName_2 : decode cX3_isFieldName 2 = .ok (.iload_n 3, 1) := by decide +kernel
theorem dX3_isFieldName_3 : decode cX3_isFieldName 3 = .ok (.iload_n 2, 1) := by decide +kernel
theorem dX3_isFieldName_4 : decode cX3_isFieldName 4 = .ok (.if_icmp .ge 43, 3) := by decide +kernel
theorem dX3_isFieldName_7 : decode cX3_isFieldName 7 = .ok (.aload_n 0, 1) := by decide +kernel
theorem dX3_isFieldName_8 : decode cX3_isFieldName 8 = .ok (.iload_n 3, 1) := by decide +kernel
theorem dX3_isFieldName_9 : decode cX3_isFieldName 9 = .ok (.iaload, 1) := by decide +kernel
theorem dX3_isFieldName_10 : decode cX3_isFieldName 10 = .ok (.bipush 46, 2) := by decide +kernel
theorem dX3_isFieldName_12 : decode cX3_isFieldName 12 = .ok (.if_icmp .eq 27, 3) := by decide +kernel
theorem dX3_isFieldName_15 : decode cX3_isFieldName 15 = .ok (.aload_n 0, 1) := by decide +kernel
theorem dX3_isFieldName_16 : decode cX3_isFieldName 16 = .ok (.iload_n 3, 1) := by decide +kernel
theorem dX3_isFieldName_17 : decode cX3_isFieldName 17 = .ok (.iaload, 1) := by decide +kernel
theorem dX3_isFieldName_18 : decode cX3_isFieldName 18 = .ok (.bipush 59, 2) := by decide +kernel
theorem dX3_isFieldName_20 : decode cX3_isFieldName 20 = .ok (.if_icmp .eq 19, 3) := by decide +kernel
theorem dX3_isFieldName_23 : decode cX3_isFieldName 23 = .ok (.aload_n 0, 1) := by decide +kernel
theorem dX3_isFieldName_24 : decode cX3_isFieldName 24 = .ok (.iload_n 3, 1) := by decide +kernel
theorem dX3_isFieldName_25 : decode cX3_isFieldName 25 = .ok (.iaload, 1) := by decide +kernel
theorem dX3_isFieldName_26 : decode cX3_isFieldName 26 = .ok (.bipush 91, 2) := by decide +kernel
theorem dX3_isFieldName_28 : decode cX3_isFieldName 28 = .ok (.if_icmp .eq 11, 3) := by decide +kernel
theorem dX3_isFieldName_31 : decode cX3_isFieldName 31 = .ok (.aload_n 0, 1) := by decide +kernel
theorem dX3_isFieldName_32 : decode cX3_isFieldName 32 = .ok (.iload_n 3, 1) := by decide +kernel
theorem dX3_isFieldName_33 : decode cX3_isFieldName 33 = .ok (.iaload, 1) := by decide +kernel
theorem dX3_isFieldName_34 : decode cX3_isFieldName 34 = .ok (.bipush 47, 2) := by decide +kernel
theorem dX3_isFieldName_36 : decode cX3_isFieldName 36 = .ok (.if_icmp .ne 5, 3) := by decide +kernel
theorem dX3_isFieldName_39 : decode cX3_isFieldName 39 = .ok (.iconst 0, 1) := by decide +kernel
theorem dX3_isFieldName_40 : decode cX3_isFieldName 40 = .ok (.ireturn, 1) := by decide +kernel
theorem dX3_isFieldName_41 : decode cX3_isFieldName 41 = .ok (.iinc 3 1, 3) := by decide +kernel
theorem dX3_isFieldName_44 : decode cX3_isFieldName 44 = .ok (.goto (-42), 3) := by decide +kernel
theorem dX3_isFieldName_47 : decode cX3_isFieldName 47 = .ok (.iload_n 1, 1) := by decide +kernel
theorem dX3_isFieldName_48 : decode cX3_isFieldName 48 = .ok (.iload_n 2, 1) := by decide +kernel
theorem dX3_isFieldName_49 : decode cX3_isFieldName 49 = .ok (.if_icmp .ge 7, 3) := by decide +kernel
theorem dX3_isFieldName_52 : decode cX3_isFieldName 52 = .ok (.iconst 1, 1) := by decide +kernel
theorem dX3_isFieldName_53 : decode cX3_isFieldName 53 = .ok (.goto 4, 3) := by decide +kernel
theorem dX3_isFieldName_56 : decode cX3_isFieldName 56 = .ok (.iconst 0, 1) := by decide +kernel
theorem dX3_isFieldName_57 : decode cX3_isFieldName 57 = .ok (.ireturn, 1) := by decide +kernel
theorem dX3_isMemberName_0 : decode cX3_isMemberName 0 = .ok (.aload_n 0, 1) := by decide +kernel
theorem dX3_isMemberName_1 : decode cX3_isMemberName 1 = .ok (.iload_n 1, 1) := by decide +kernel
theorem dX3_isMemberName_2 : decode cX3_isMemberName 2 = .ok (.iload_n 2, 1) := by decide +kernel
theorem dX3_isMemberName_3 : decode cX3_isMemberName 3 = .ok (.ldc 7, 2) := by decide +kernel
theorem dX3_isMemberName_5 : decode cX3_isMemberName 5 = .ok (.invokestatic 8, 3) := by decide +kernel
theorem dX3_isMemberName_8 : decode cX3_isMemberName 8 = .ok (.ifCond .ne 14, 3) := by decide +kernel
theorem dX3_isMemberName_11 : decode cX3_isMemberName 11 = .ok (.aload_n 0, 1) := by decide +kernel
theorem dX3_isMemberName_12 : decode cX3_isMemberName 12 = .ok (.iload_n 1, 1) := by decide +kernel
theorem dX3_isMemberName_13 : decode cX3_isMemberName 13 = .ok (.iload_n 2, 1) := by decide +kernel
theorem dX3_isMemberName_14 : decode cX3_isMemberName 14 = .ok (.ldc 14, 2) := by decide +kernel
theorem dX3_isMemberName_16 : decode cX3_isMemberName 16 = .ok (.invokestatic 8, 3) := by decide +kernel
theorem dX3_isMemberName_19 : decode cX3_isMemberName 19 = .ok (.ifCond .eq 5, 3) := by decide +kernel
theorem dX3_isMemberName_22 : decode cX3_isMemberName 22 = .ok (.iconst 1, 1) := by decide +kernel
theorem dX3_isMemberName_23 : decode cX3_isMemberName 23 = .ok (.ireturn, 1) := by decide +kernel
theorem dX3_isMemberName_24 : decode cX3_isMemberName 24 = .ok (.iload_n 1, 1) := by decide +kernel
theorem dX3_isMemberName_25 : decode cX3_isMemberName 25 = .ok (.istore_n 3, 1) := by decide +kernel
theorem dX3_isMemberName_26 : decode cX3_isMemberName 26 = .ok (.iload_n 3, 1) := by decide +kernel
theorem dX3_isMemberName_27 : decode cX3_isMemberName 27 = .ok (.iload_n 2, 1) := by decide +kernel
theorem dX3_isMemberName_28 : decode cX3_isMemberName 28 = .ok (.if_icmp .ge 27, 3) := by decide +kernel
theorem dX3_isMemberName_31 : decode cX3_isMemberName 31 = .ok (.aload_n 0, 1) := by decide +kernel
theorem dX3_isMemberName_32 : decode cX3_isMemberName 32 = .ok (.iload_n 3, 1) := by decide +kernel
theorem dX3_isMemberName_33 : decode cX3_isMemberName 33 = .ok (.iaload, 1) := by decide +kernel
theorem dX3_isMemberName_34 : decode cX3_isMemberName 34 = .ok (.bipush 60, 2) := by decide +kernel
theorem dX3_isMemberName_36 : decode cX3_isMemberName 36 = .ok (.if_icmp .eq 11, 3) := by decide +kernel
theorem dX3_isMemberName_39 : decode cX3_isMemberName 39 = .ok (.aload_n 0, 1) := by decide +kernel
theorem dX3_isMemberName_40 : decode cX3_isMemberName 40 = .ok (.iload_n 3, 1) := by decide +kernel
theorem dX3_isMemberName_41 : decode cX3_isMemberName 41 = .ok (.iaload, 1) := by decide +kernel
theorem dX3_isMemberName_42 : decode cX3_isMemberName 42 = .ok (.bipush 62, 2) := by decide +kernel
theorem dX3_isMemberName_44 : decode cX3_isMemberName 44 = .ok (.if_icmp .ne 5, 3) := by decide +kernel
theorem dX3_isMemberName_47 : decode cX3_isMemberName 47 = .ok (.iconst 0, 1) := by decide +kernel
theorem dX3_isMemberName_48 : decode cX3_isMemberName 48 = .ok (.ireturn, 1) := by decide +kernel
theorem dX3_isMemberName_49 : decode cX3_isMemberName 49 = .ok (.iinc 3 1, 3) := by decide +kernel
theorem dX3_isMemberName_52 : decode cX3_isMemberName 52 = .ok (.goto (-26), 3) := by decide +kernel
theorem dX3_isMemberName_55 : decode cX3_isMemberName 55 = .ok (.aload_n 0, 1) := by decide +kernel
theorem dX3_isMemberName_56 : decode cX3_isMemberName 56 = .ok (.iload_n 1, 1) := by decide +kernel
theorem dX3_isMemberName_57 : decode cX3_isMemberName 57 = .ok (.iload_n 2, 1) := by decide +kernel
theorem dX3_isMemberName_58 : decode cX3_isMemberName 58 = .ok (.invokestatic 16, 3) := by decide +kernel
theorem dX3_isMemberName_61 : decode cX3_isMemberName 61 = .ok (.ireturn, 1) := by decide +kernel
theorem dX3_isClassName_0 : decode cX3_isClassName 0 = .ok (.iconst 0, 1) := by decide +kernel
theorem dX3_isClassName_1 : decode cX3_isClassName 1 = .ok (.istore_n 3, 1) := by decide +kernel
theorem dX3_isClassName_2 : decode cX3_isClassName 2 = .ok (.iload_n 1, 1) := by decide +kernel
theorem dX3_isClassName_3 : decode cX3_isClassName 3 = .ok (.istore 4, 2) := by decide +kernel
theorem dX3_isClassName_5 : decode cX3_isClassName 5 = .ok (.iload 4, 2) := by decide +kernel
theorem dX3_isClassName_7 : decode cX3_isClassName 7 = .ok (.iload_n 2, 1) := by decide +kernel
theorem dX3_isClassName_8 : decode cX3_isClassName 8 = .ok (.if_icmp .ge 74, 3) := by decide +kernel
theorem dX3_isClassName_11 : decode cX3_isClassName 11 = .ok (.aload_n 0, 1) := by decide +kernel
theorem dX3_isClassName_12 : decode cX3_isClassName 12 = .ok (.iload 4, 2) := by decide +kernel
theorem dX3_isClassName_14 : decode cX3_isClassName 14 = .ok (.iaload, 1) := by decide +kernel
theorem dX3_isClassName_15 : decode cX3_isClassName 15 = .ok (.bipush 47, 2) := by decide +kernel
theorem dX3_isClassName_17 : decode cX3_isClassName 17 = .ok (.if_icmp .ne 7, 3) := by decide +kernel
theorem dX3_isClassName_20 : decode cX3_isClassName 20 = .ok (.iconst 1, 1) := by decide +kernel
theorem dX3_isClassName_21 : decode cX3_isClassName 21 = .ok (.goto 4, 3) := by decide +kernel
theorem dX3_isClassName_24 : decode cX3_isClassName 24 = .ok (.iconst 0, 1) := by decide +kernel
theorem dX3_isClassName_25 : decode cX3_isClassName 25 = .ok (.istore 5, 2) := by decide +kernel
theorem dX3_isClassName_27 : decode cX3_isClassName 27 = .ok (.aload_n 0, 1) := by decide +kernel
theorem dX3_isClassName_28 : decode cX3_isClassName 28 = .ok (.iload 4, 2) := by decide +kernel
theorem dX3_isClassName_30 : decode cX3_isClassName 30 = .ok (.iaload, 1) := by decide +kernel
theorem dX3_isClassName_31 : decode cX3_isClassName 31 = .ok (.bipush 46, 2) := by decide +kernel
theorem dX3_isClassName_33 : decode cX3_isClassName 33 = .ok (.if_icmp .eq 30, 3) := by decide +kernel
theorem dX3_isClassName_36 : decode cX3_isClassName 36 = .ok (.aload_n 0, 1) := by decide +kernel
theorem dX3_isClassName_37 : decode cX3_isClassName 37 = .ok (.iload 4, 2) := by decide +kernel
theorem dX3_isClassName_39 : decode cX3_isClassName 39 = .ok (.iaload, 1) := by decide +kernel
theorem dX3_isClassName_40 : decode cX3_isClassName 40 = .ok (.bipush 59, 2) := by decide +kernel
theorem dX3_isClassName_42 : decode cX3_isClassName 42 = .ok (.if_icmp .eq 21, 3) := by decide +kernel
theorem dX3_isClassName_45 : decode cX3_isClassName 45 = .ok (.aload_n 0, 1) := by decide +kernel
theorem dX3_isClassName_46 : decode cX3_isClassName 46 = .ok (.iload 4, 2) := by decide +kernel
theorem dX3_isClassName_48 : decode cX3_isClassName 48 = .ok (.iaload, 1) := by decide +kernel
theorem dX3_isClassName_49 : decode cX3_isClassName 49 = .ok (.bipush 91, 2) := by decide +kernel
theorem dX3_isClassName_51 : decode cX3_isClassName 51 = .ok (.if_icmp .eq 12, 3) := by decide +kernel
theorem dX3_isClassName_54 : decode cX3_isClassName 54 = .ok (.iload 5, 2) := by decide +kernel
theorem dX3_isClassName_56 : decode cX3_isClassName 56 = .ok (.ifCond .eq 9, 3) := by decide +kernel
theorem dX3_isClassName_59 : decode cX3_isClassName 59 = .ok (.iload_n 3, 1) := by decide +kernel
theorem dX3_isClassName_60 : decode cX3_isClassName 60 = .ok (.ifCond .ne 5, 3) := by decide +kernel
theorem dX3_isClassName_63 : decode cX3_isClassName 63 = .ok (.iconst 0, 1) := by decide +kernel
theorem dX3_isClassName_64 : decode cX3_isClassName 64 = .ok (.ireturn, 1) := by decide +kernel
theorem dX3_isClassName_65 : decode cX3_isClassName 65 = .ok (.iload 5, 2) := by decide +kernel
theorem dX3_isClassName_67 : decode cX3_isClassName 67 = .ok (.ifCond .ne 7, 3) := by decide +kernel
theorem dX3_isClassName_70 : decode cX3_isClassName 70 = .ok (.iconst 1, 1) := by decide +kernel
theorem dX3_isClassName_71 : decode cX3_isClassName 71 = .ok (.goto 4, 3) := by decide +kernel
theorem dX3_isClassName_74 : decode cX3_isClassName 74 = .ok (.iconst 0, 1) := by decide +kernel
theorem dX3_isClassName_75 : decode cX3_isClassName 75 = .ok (.istore_n 3, 1) := by decide +kernel
theorem dX3_isClassName_76 : decode cX3_isClassName 76 = .ok (.iinc 4 1, 3) := by decide +kernel
theorem dX3_isClassName_79 : decode cX3_isClassName 79 = .ok (.goto (-74), 3) := by decide +kernel
theorem dX3_isClassName_82 : decode cX3_isClassName 82 = .ok (.iload_n 3, 1) := by decide +kernel
theorem dX3_isClassName_83 : decode cX3_isClassName 83 = .ok (.ireturn, 1) := by decide +kernel
theorem dX3_isFieldType_0 : decode cX3_isFieldType 0 = .ok (.aload_n 0, 1) := by decide +kernel
theorem dX3_isFieldType_1 : decode cX3_isFieldType 1 = .ok (.iload_n 1, 1) := by decide +kernel
theorem dX3_isFieldType_2 : decode cX3_isFieldType 2 = .ok (.iload_n 2, 1) := by decide +kernel
theorem dX3_isFieldType_3 : decode cX3_isFieldType 3 = .ok (.invokestatic 20, 3) := by decide +kernel
theorem dX3_isFieldType_6 : decode cX3_isFieldType 6 = .ok (.iload_n 2, 1) := by decide +kernel
theorem dX3_isFieldType_7 : decode cX3_isFieldType 7 = .ok (.if_icmp .ne 7, 3) := by decide +kernel
theorem dX3_isFieldType_10 : decode cX3_isFieldType 10 = .ok (.iconst 1, 1) := by decide +kernel
theorem dX3_isFieldType_11 : decode cX3_isFieldType 11 = .ok (.goto 4, 3) := by decide +kernel
theorem dX3_isFieldType_14 : decode cX3_isFieldType 14 = .ok (.iconst 0, 1) := by decide +kernel
theorem dX3_isFieldType_15 : decode cX3_isFieldType 15 = .ok (.ireturn, 1) := by decide +kernel
theorem dX3_isMethodType_0 : decode cX3_isMethodType 0 = .ok (.iload_n 1, 1) := by decide +kernel
theorem dX3_isMethodType_1 : decode cX3_isMethodType 1 = .ok (.iload_n 2, 1) := by decide +kernel
theorem dX3_isMethodType_2 : decode cX3_isMethodType 2 = .ok (.if_icmp .ge 11, 3) := by decide +kernel
theorem dX3_isMethodType_5 : decode cX3_isMethodType 5 = .ok (.aload_n 0, 1) := by decide +kernel
theorem dX3_isMethodType_6 : decode cX3_isMethodType 6 = .ok (.iload_n 1, 1) := by decide +kernel
theorem dX3_isMethodType_7 : decode cX3_isMethodType 7 = .ok (.iaload, 1) := by decide +kernel
theorem dX3_isMethodType_8 : decode cX3_isMethodType 8 = .ok (.bipush 40, 2) := by decide +kernel
theorem dX3_isMethodType_10 : decode cX3_isMethodType 10 = .ok (.if_icmp .eq 5, 3) := by decide +kernel
theorem dX3_isMethodType_13 : decode cX3_isMethodType 13 = .ok (.iconst 0, 1) := by decide +kernel
theorem dX3_isMethodType_14 : decode cX3_isMethodType 14 = .ok (.ireturn, 1) := by decide +kernel
theorem dX3_isMethodType_15 : decode cX3_isMethodType 15 = .ok (.iload_n 1, 1) := by decide +kernel
theorem dX3_isMethodType_16 : decode cX3_isMethodType 16 = .ok (.iconst 1, 1) := by decide +kernel
theorem dX3_isMethodType_17 : decode cX3_isMethodType 17 = .ok (.iadd, 1) := by decide +kernel
theorem dX3_isMethodType_18 : decode cX3_isMethodType 18 = .ok (.istore_n 3, 1) := by decide +kernel
theorem dX3_isMethodType_19 : decode cX3_isMethodType 19 = .ok (.iload_n 3, 1) := by decide +kernel
theorem dX3_isMethodType_20 : decode cX3_isMethodType 20 = .ok (.iload_n 2, 1) := by decide +kernel
theorem dX3_isMethodType_21 : decode cX3_isMethodType 21 = .ok (.if_icmp .ge 33, 3) := by decide +kernel
theorem dX3_isMethodType_24 : decode cX3_isMethodType 24 = .ok (.aload_n 0, 1) := by decide +kernel
theorem dX3_isMethodType_25 : decode cX3_isMethodType 25 = .ok (.iload_n 3, 1) := by decide +kernel
theorem dX3_isMethodType_26 : decode cX3_isMethodType 26 = .ok (.iaload, 1) := by decide +kernel
theorem dX3_isMethodType_27 : decode cX3_isMethodType 27 = .ok (.bipush 41, 2) := by decide +kernel
theorem dX3_isMethodType_29 : decode cX3_isMethodType 29 = .ok (.if_icmp .eq 25, 3) := by decide +kernel
theorem dX3_isMethodType_32 : decode cX3_isMethodType 32 = .ok (.aload_n 0, 1) := by decide +kernel
theorem dX3_isMethodType_33 : decode cX3_isMethodType 33 = .ok (.iload_n 3, 1) := by decide +kernel
theorem dX3_isMethodType_34 : decode cX3_isMethodType 34 = .ok (.iload_n 2, 1) := by decide +kernel
theorem dX3_isMethodType_35 : decode cX3_isMethodType 35 = .ok (.invokestatic 20, 3) := by decide +kernel
theorem dX3_isMethodType_38 : decode cX3_isMethodType 38 = .ok (.istore 4, 2) := by decide +kernel
theorem dX3_isMethodType_40 : decode cX3_isMethodType 40 = .ok (.iload 4, 2) := by decide +kernel
theorem dX3_isMethodType_42 : decode cX3_isMethodType 42 = .ok (.iload_n 3, 1) := by decide +kernel
theorem dX3_isMethodType_43 : decode cX3_isMethodType 43 = .ok (.if_icmp .gt 5, 3) := by decide +kernel
theorem dX3_isMethodType_46 : decode cX3_isMethodType 46 = .ok (.iconst 0, 1) := by decide +kernel
theorem dX3_isMethodType_47 : decode cX3_isMethodType 47 = .ok (.ireturn, 1) := by decide +kernel
theorem dX3_isMethodType_48 : decode cX3_isMethodType 48 = .ok (.iload 4, 2) := by decide +kernel
theorem dX3_isMethodType_50 : decode cX3_isMethodType 50 = .ok (.istore_n 3, 1) := by decide +kernel
theorem dX3_isMethodType_51 : decode cX3_isMethodType 51 = .ok (.goto (-32), 3) := by decide +kernel
theorem dX3_isMethodType_54 : decode cX3_isMethodType 54 = .ok (.iload_n 3, 1) := by decide +kernel
theorem dX3_isMethodType_55 : decode cX3_isMethodType 55 = .ok (.iconst 1, 1) := by decide +kernel
theorem dX3_isMethodType_56 : decode cX3_isMethodType 56 = .ok (.iadd, 1) := by decide +kernel
theorem dX3_isMethodType_57 : decode cX3_isMethodType 57 = .ok (.istore 4, 2) := by decide +kernel
theorem dX3_isMethodType_59 : decode cX3_isMethodType 59 = .ok (.iload 4, 2) := by decide +kernel
theorem dX3_isMethodType_61 : decode cX3_isMethodType 61 = .ok (.iload_n 2, 1) := by decide +kernel
theorem dX3_isMethodType_62 : decode cX3_isMethodType 62 = .ok (.iconst 1, 1) := by decide +kernel
theorem dX3_isMethodType_63 : decode cX3_isMethodType 63 = .ok (.isub, 1) := by decide +kernel
theorem dX3_isMethodType_64 : decode cX3_isMethodType 64 = .ok (.if_icmp .ne 16, 3) := by decide +kernel
theorem dX3_isMethodType_67 : decode cX3_isMethodType 67 = .ok (.aload_n 0, 1) := by decide +kernel
theorem dX3_isMethodType_68 : decode cX3_isMethodType 68 = .ok (.iload 4, 2) := by decide +kernel
theorem dX3_isMethodType_70 : decode cX3_isMethodType 70 = .ok (.iaload, 1) := by decide +kernel
theorem dX3_isMethodType_71 : decode cX3_isMethodType 71 = .ok (.bipush 86, 2) := by decide +kernel
theorem dX3_isMethodType_73 : decode cX3_isMethodType 73 = .ok (.if_icmp .ne 7, 3) := by decide +kernel
theorem dX3_isMethodType_76 : decode cX3_isMethodType 76 = .ok (.iconst 1, 1) := by decide +kernel
theorem dX3_isMethodType_77 : decode cX3_isMethodType 77 = .ok (.goto 4, 3) := by decide +kernel
theorem dX3_isMethodType_80 : decode cX3_isMethodType 80 = .ok (.iconst 0, 1) := by decide +kernel
theorem dX3_isMethodType_81 : decode cX3_isMethodType 81 = .ok (.istore 5, 2) := by decide +kernel
theorem dX3_isMethodType_83 : decode cX3_isMethodType 83 = .ok (.iload 5, 2) := by decide +kernel
theorem dX3_isMethodType_85 : decode cX3_isMethodType 85 = .ok (.ifCond .ne 14, 3) := by decide +kernel
theorem dX3_isMethodType_88 : decode cX3_isMethodType 88 = .ok (.aload_n 0, 1) := by decide +kernel
theorem dX3_isMethodType_89 : decode cX3_isMethodType 89 = .ok (.iload 4, 2) := by decide +kernel
theorem dX3_isMethodType_91 : decode cX3_isMethodType 91 = .ok (.iload_n 2, 1) := by decide +kernel
theorem dX3_isMethodType_92 : decode cX3_isMethodType 92 = .ok (.invokestatic 20, 3) := by decide +kernel
theorem dX3_isMethodType_95 : decode cX3_isMethodType 95 = .ok (.iload_n 2, 1) := by decide +kernel
theorem dX3_isMethodType_96 : decode cX3_isMethodType 96 = .ok (.if_icmp .ne 7, 3) := by decide +kernel
theorem dX3_isMethodType_99 : decode cX3_isMethodType 99 = .ok (.iconst 1, 1) := by decide +kernel
theorem dX3_isMethodType_100 : decode cX3_isMethodType 100 = .ok (.goto 4, 3) := by decide +kernel
theorem dX3_isMethodType_103 : decode cX3_isMethodType 103 = .ok (.iconst 0, 1) := by decide +kernel
theorem dX3_isMethodType_104 : decode cX3_isMethodType 104 = .ok (.ireturn, 1) := by decide +kernel
theorem dX3_fieldTypeEnd_0 : decode cX3_fieldTypeEnd 0 = .ok (.iload_n 1, 1) := by decide +kernel
theorem dX3_fieldTypeEnd_1 : decode cX3_fieldTypeEnd 1 = .ok (.aload_n 0, 1) := by decide +kernel
theorem dX3_fieldTypeEnd_2 : decode cX3_fieldTypeEnd 2 = .ok (.iload_n 1, 1) := by decide +kernel
theorem dX3_fieldTypeEnd_3 : decode cX3_fieldTypeEnd 3 = .ok (.iload_n 2, 1) := by decide +kernel
theorem dX3_fieldTypeEnd_4 : decode cX3_fieldTypeEnd 4 = .ok (.invokestatic 24, 3) := by decide +kernel
theorem dX3_fieldTypeEnd_7 : decode cX3_fieldTypeEnd 7 = .ok (.iadd, 1) := by decide +kernel
theorem dX3_fieldTypeEnd_8 : decode cX3_fieldTypeEnd 8 = .ok (.istore_n 3, 1) := by decide +kernel
theorem dX3_fieldTypeEnd_9 : decode cX3_fieldTypeEnd 9 = .ok (.iload_n 3, 1) := by decide +kernel
theorem dX3_fieldTypeEnd_10 : decode cX3_fieldTypeEnd 10 = .ok (.iload_n 2, 1) := by decide +kernel
theorem dX3_fieldTypeEnd_11 : decode cX3_fieldTypeEnd 11 = .ok (.if_icmp .ge 12, 3) := by decide +kernel
theorem dX3_fieldTypeEnd_14 : decode cX3_fieldTypeEnd 14 = .ok (.iload_n 3, 1) := by decide +kernel
theorem dX3_fieldTypeEnd_15 : decode cX3_fieldTypeEnd 15 = .ok (.iload_n 1, 1) := by decide +kernel
theorem dX3_fieldTypeEnd_16 : decode cX3_fieldTypeEnd 16 = .ok (.isub, 1) := by decide +kernel
theorem dX3_fieldTypeEnd_17 : decode cX3_fieldTypeEnd 17 = .ok (.sipush 255, 3) := by decide +kernel
theorem dX3_fieldTypeEnd_20 : decode cX3_fieldTypeEnd 20 = .ok (.if_icmp .le 5, 3) := by decide +kernel
theorem dX3_fieldTypeEnd_23 : decode cX3_fieldTypeEnd 23 = .ok (.iconst (-1), 1) := by decide +kernel
theorem dX3_fieldTypeEnd_24 : decode cX3_fieldTypeEnd 24 = .ok (.ireturn, 1) := by decide +kernel
theorem dX3_fieldTypeEnd_25 : decode cX3_fieldTypeEnd 25 = .ok (.aload_n 0, 1) := by decide +kernel
theorem dX3_fieldTypeEnd_26 : decode cX3_fieldTypeEnd 26 = .ok (.iload_n 3, 1) := by decide +kernel
theorem dX3_fieldTypeEnd_27 : decode cX3_fieldTypeEnd 27 = .ok (.iaload, 1) := by decide +kernel
theorem dX3_fieldTypeEnd_28 : decode cX3_fieldTypeEnd 28 = .ok (.bipush 76, 2) := by decide +kernel
theorem dX3_fieldTypeEnd_30 : decode cX3_fieldTypeEnd 30 = .ok (.if_icmp .eq 20, 3) := by decide +kernel
theorem dX3_fieldTypeEnd_33 : decode cX3_fieldTypeEnd 33 = .ok (.aload_n 0, 1) := by decide +kernel
theorem dX3_fieldTypeEnd_34 : decode cX3_fieldTypeEnd 34 = .ok (.iload_n 3, 1) := by decide +kernel
theorem dX3_fieldTypeEnd_35 : decode cX3_fieldTypeEnd 35 = .ok (.iaload, 1) := by decide +kernel
theorem dX3_fieldTypeEnd_36 : decode cX3_fieldTypeEnd 36 = .ok (.invokestatic 27, 3) := by decide +kernel
theorem dX3_fieldTypeEnd_39 : decode cX3_fieldTypeEnd 39 = .ok (.ifCond .eq 9, 3) := by decide +kernel
theorem dX3_fieldTypeEnd_42 : decode cX3_fieldTypeEnd 42 = .ok (.iload_n 3, 1) := by decide +kernel
theorem dX3_fieldTypeEnd_43 : decode cX3_fieldTypeEnd 43 = .ok (.iconst 1, 1) := by decide +kernel
theorem dX3_fieldTypeEnd_44 : decode cX3_fieldTypeEnd 44 = .ok (.iadd, 1) := by decide +kernel
theorem dX3_fieldTypeEnd_45 : decode cX3_fieldTypeEnd 45 = .ok (.goto 4, 3) := by decide +kernel
theorem dX3_fieldTypeEnd_48 : decode cX3_fieldTypeEnd 48 = .ok (.iconst (-1), 1) := by decide +kernel
theorem dX3_fieldTypeEnd_49 : decode cX3_fieldTypeEnd 49 = .ok (.ireturn, 1) := by decide +kernel
theorem dX3_fieldTypeEnd_50 : decode cX3_fieldTypeEnd 50 = .ok (.iload_n 3, 1) := by decide +kernel
theorem dX3_fieldTypeEnd_51 : decode cX3_fieldTypeEnd 51 = .ok (.iconst 1, 1) := by decide +kernel
theorem dX3_fieldTypeEnd_52 : decode cX3_fieldTypeEnd 52 = .ok (.iadd, 1) := by decide +kernel
theorem dX3_fieldTypeEnd_53 : decode cX3_fieldTypeEnd 53 = .ok (.istore 4, 2) := by decide +kernel
theorem dX3_fieldTypeEnd_55 : decode cX3_fieldTypeEnd 55 = .ok (.iload 4, 2) := by decide +kernel
theorem dX3_fieldTypeEnd_57 : decode cX3_fieldTypeEnd 57 = .ok (.iload_n 2, 1) := by decide +kernel
theorem dX3_fieldTypeEnd_58 : decode cX3_fieldTypeEnd 58 = .ok (.if_icmp .ge 18, 3) := by decide +kernel
theorem dX3_fieldTypeEnd_61 : decode cX3_fieldTypeEnd 61 = .ok (.aload_n 0, 1) := by decide +kernel
theorem dX3_fieldTypeEnd_62 : decode cX3_fieldTypeEnd 62 = .ok (.iload 4, 2) := by decide +kernel
theorem dX3_fieldTypeEnd_64 : decode cX3_fieldTypeEnd 64 = .ok (.iaload, 1) := by decide +kernel
theorem dX3_fieldTypeEnd_65 : decode cX3_fieldTypeEnd 65 = .ok (.bipush 59, 2) := by decide +kernel
theorem dX3_fieldTypeEnd_67 : decode cX3_fieldTypeEnd 67 = .ok (.if_icmp .eq 9, 3) := by decide +kernel
theorem dX3_fieldTypeEnd_70 : decode cX3_fieldTypeEnd 70 = .ok (.iinc 4 1, 3) := by decide +kernel
theorem dX3_fieldTypeEnd_73 : decode cX3_fieldTypeEnd 73 = .ok (.goto (-18), 3) := by decide +kernel
theorem dX3_fieldTypeEnd_76 : decode cX3_fieldTypeEnd 76 = .ok (.iload 4, 2) := by decide +kernel
theorem dX3_fieldTypeEnd_78 : decode cX3_fieldTypeEnd 78 = .ok (.iload_n 2, 1) := by decide +kernel
theorem dX3_fieldTypeEnd_79 : decode cX3_fieldTypeEnd 79 = .ok (.if_icmp .ge 22, 3) := by decide +kernel
theorem dX3_fieldTypeEnd_82 : decode cX3_fieldTypeEnd 82 = .ok (.aload_n 0, 1) := by decide +kernel
theorem dX3_fieldTypeEnd_83 : decode cX3_fieldTypeEnd 83 = .ok (.iload_n 3, 1) := by decide +kernel
theorem dX3_fieldTypeEnd_84 : decode cX3_fieldTypeEnd 84 = .ok (.iconst 1, 1) := by decide +kernel
theorem dX3_fieldTypeEnd_85 : decode cX3_fieldTypeEnd 85 = .ok (.iadd, 1) := by decide +kernel
theorem dX3_fieldTypeEnd_86 : decode cX3_fieldTypeEnd 86 = .ok (.iload 4, 2) := by decide +kernel
theorem dX3_fieldTypeEnd_88 : decode cX3_fieldTypeEnd 88 = .ok (.invokestatic 31, 3) := by decide +kernel
theorem dX3_fieldTypeEnd_91 : decode cX3_fieldTypeEnd 91 = .ok (.ifCond .eq 10, 3) := by decide +kernel
theorem dX3_fieldTypeEnd_94 : decode cX3_fieldTypeEnd 94 = .ok (.iload 4, 2) := by decide +kernel
theorem dX3_fieldTypeEnd_96 : decode cX3_fieldTypeEnd 96 = .ok (.iconst 1, 1) := by decide +kernel
theorem dX3_fieldTypeEnd_97 : decode cX3_fieldTypeEnd 97 = .ok (.iadd, 1) := by decide +kernel
theorem dX3_fieldTypeEnd_98 : decode cX3_fieldTypeEnd 98 = .ok (.goto 4, 3) := by decide +kernel
theorem dX3_fieldTypeEnd_101 : decode cX3_fieldTypeEnd 101 = .ok (.iconst (-1), 1) := by decide +kernel
theorem dX3_fieldTypeEnd_102 : decode cX3_fieldTypeEnd 102 = .ok (.ireturn, 1) := by decide +kernel
theorem dX3_brackets_0 : decode cX3_brackets 0 = .ok (.iload_n 1, 1) := by decide +kernel
theorem dX3_brackets_1 : decode cX3_brackets 1 = .ok (.istore_n 3, 1) := by decide +kernel
theorem dX3_brackets_2 : decode cX3_brackets 2 = .ok (.iload_n 3, 1) := by decide +kernel
theorem dX3_brackets_3 : decode cX3_brackets 3 = .ok (.iload_n 2, 1) := by decide +kernel
theorem dX3_brackets_4 : decode cX3_brackets 4 = .ok (.if_icmp .ge 17, 3) := by decide +kernel
theorem dX3_brackets_7 : decode cX3_brackets 7 = .ok (.aload_n 0, 1) := by decide +kernel
theorem dX3_brackets_8 : decode cX3_brackets 8 = .ok (.iload_n 3, 1) := by decide +kernel
theorem dX3_brackets_9 : decode cX3_brackets 9 = .ok (.iaload, 1) := by decide +kernel
theorem dX3_brackets_10 : decode cX3_brackets 10 = .ok (.bipush 91, 2) := by decide +kernel
theorem dX3_brackets_12 : decode cX3_brackets 12 = .ok (.if_icmp .ne 9, 3) := by decide +kernel
theorem dX3_brackets_15 : decode cX3_brackets 15 = .ok (.iinc 3 1, 3) := by decide +kernel
theorem dX3_brackets_18 : decode cX3_brackets 18 = .ok (.goto (-16), 3) := by decide +kernel
theorem dX3_brackets_21 : decode cX3_brackets 21 = .ok (.iload_n 3, 1) := by decide +kernel
theorem dX3_brackets_22 : decode cX3_brackets 22 = .ok (.iload_n 1, 1) := by decide +kernel
theorem dX3_brackets_23 : decode cX3_brackets 23 = .ok (.isub, 1) := by decide +kernel
theorem dX3_brackets_24 : decode cX3_brackets 24 = .ok (.ireturn, 1) := by decide +kernel
theorem dX3_isWord_0 : decode cX3_isWord 0 = .ok (.iload_n 2, 1) := by decide +kernel
theorem dX3_isWord_1 : decode cX3_isWord 1 = .ok (.iload_n 1, 1) := by decide +kernel
theorem dX3_isWord_2 : decode cX3_isWord 2 = .ok (.isub, 1) := by decide +kernel
theorem dX3_isWord_3 : decode cX3_isWord 3 = .ok (.aload_n 3, 1) := by decide +kernel
theorem dX3_isWord_4 : decode cX3_isWord 4 = .ok (.invokevirtual 34, 3) := by decide +kernel
theorem dX3_isWord_7 : decode cX3_isWord 7 = .ok (.if_icmp .eq 5, 3) := by decide +kernel
theorem dX3_isWord_10 : decode cX3_isWord 10 = .ok (.iconst 0, 1) := by decide +kernel
theorem dX3_isWord_11 : decode cX3_isWord 11 = .ok (.ireturn, 1) := by decide +kernel
theorem dX3_isWord_12 : decode cX3_isWord 12 = .ok (.iconst 0, 1) := by decide +kernel
theorem dX3_isWord_13 : decode cX3_isWord 13 = .ok (.istore 4, 2) := by decide +kernel
theorem dX3_isWord_15 : decode cX3_isWord 15 = .ok (.iload 4, 2) := by decide +kernel
theorem dX3_isWord_17 : decode cX3_isWord 17 = .ok (.aload_n 3, 1) := by decide +kernel
theorem dX3_isWord_18 : decode cX3_isWord 18 = .ok (.invokevirtual 34, 3) := by decide +kernel
theorem dX3_isWord_21 : decode cX3_isWord 21 = .ok (.if_icmp .ge 26, 3) := by decide +kernel
theorem dX3_isWord_24 : decode cX3_isWord 24 = .ok (.aload_n 0, 1) := by decide +kernel
theorem dX3_isWord_25 : decode cX3_isWord 25 = .ok (.iload_n 1, 1) := by decide +kernel
theorem dX3_isWord_26 : decode cX3_isWord 26 = .ok (.iload 4, 2) := by decide +kernel
theorem dX3_isWord_28 : decode cX3_isWord 28 = .ok (.iadd, 1) := by decide +kernel
theorem dX3_isWord_29 : decode cX3_isWord 29 = .ok (.iaload, 1) := by decide +kernel
theorem dX3_isWord_30 : decode cX3_isWord 30 = .ok (.aload_n 3, 1) := by decide +kernel
theorem dX3_isWord_31 : decode cX3_isWord 31 = .ok (.iload 4, 2) := by decide +kernel
theorem dX3_isWord_33 : decode cX3_isWord 33 = .ok (.invokevirtual 40, 3) := by decide +kernel
theorem dX3_isWord_36 : decode cX3_isWord 36 = .ok (.if_icmp .eq 5, 3) := by decide +kernel
theorem dX3_isWord_39 : decode cX3_isWord 39 = .ok (.iconst 0, 1) := by decide +kernel
theorem dX3_isWord_40 : decode cX3_isWord 40 = .ok (.ireturn, 1) := by decide +kernel
theorem dX3_isWord_41 : decode cX3_isWord 41 = .ok (.iinc 4 1, 3) := by decide +kernel
theorem dX3_isWord_44 : decode cX3_isWord 44 = .ok (.goto (-29), 3) := by decide +kernel
theorem dX3_isWord_47 : decode cX3_isWord 47 = .ok (.iconst 1, 1) := by decide +kernel
theorem dX3_isWord_48 : decode cX3_isWord 48 = .ok (.ireturn, 1) := by decide +kernel
theorem dX3_firstNoCharacter_0 : decode cX3_firstNoCharacter 0 = .ok (.iload_n 1, 1) := by decide +kernel
theorem dX3_firstNoCharacter_1 : decode cX3_firstNoCharacter 1 = .ok (.istore_n 3, 1) := by decide +kernel
theorem dX3_firstNoCharacter_2 : decode cX3_firstNoCharacter 2 = .ok (.iload_n 3, 1) := by decide +kernel
theorem dX3_firstNoCharacter_3 : decode cX3_firstNoCharacter 3 = .ok (.iload_n 2, 1) := by decide +kernel
theorem dX3_firstNoCharacter_4 : decode cX3_firstNoCharacter 4 = .ok (.if_icmp .ge 76, 3) := by decide +kernel
theorem dX3_firstNoCharacter_7 : decode cX3_firstNoCharacter 7 = .ok (.aload_n 0, 1) := by decide +kernel
theorem dX3_firstNoCharacter_8 : decode cX3_firstNoCharacter 8 = .ok (.iload_n 3, 1) := by decide +kernel
theorem dX3_firstNoCharacter_9 : decode cX3_firstNoCharacter 9 = .ok (.iaload, 1) := by decide +kernel
theorem dX3_firstNoCharacter_10 : decode cX3_firstNoCharacter 10 = .ok (.invokestatic 44, 3) := by decide +kernel
theorem dX3_firstNoCharacter_13 : decode cX3_firstNoCharacter 13 = .ok (.istore 4, 2) := by decide +kernel
theorem dX3_firstNoCharacter_15 : decode cX3_firstNoCharacter 15 = .ok (.iload 4, 2) := by decide +kernel
theorem dX3_firstNoCharacter_17 : decode cX3_firstNoCharacter 17 = .ok (.ifCond .eq 11, 3) := by decide +kernel
theorem dX3_firstNoCharacter_20 : decode cX3_firstNoCharacter 20 = .ok (.iload 4, 2) := by decide +kernel
theorem dX3_firstNoCharacter_22 : decode cX3_firstNoCharacter 22 = .ok (.iload_n 2, 1) := by decide +kernel
theorem dX3_firstNoCharacter_23 : decode cX3_firstNoCharacter 23 = .ok (.iload_n 3, 1) := by decide +kernel
theorem dX3_firstNoCharacter_24 : decode cX3_firstNoCharacter 24 = .ok (.isub, 1) := by decide +kernel
theorem dX3_firstNoCharacter_25 : decode cX3_firstNoCharacter 25 = .ok (.if_icmp .le 5, 3) := by decide +kernel
theorem dX3_firstNoCharacter_28 : decode cX3_firstNoCharacter 28 = .ok (.iload_n 3, 1) := by decide +kernel
theorem dX3_firstNoCharacter_29 : decode cX3_firstNoCharacter 29 = .ok (.ireturn, 1) := by decide +kernel
theorem dX3_firstNoCharacter_30 : decode cX3_firstNoCharacter 30 = .ok (.iload_n 3, 1) := by decide +kernel
theorem dX3_firstNoCharacter_31 : decode cX3_firstNoCharacter 31 = .ok (.iconst 1, 1) := by decide +kernel
theorem dX3_firstNoCharacter_32 : decode cX3_firstNoCharacter 32 = .ok (.iadd, 1) := by decide +kernel
theorem dX3_firstNoCharacter_33 : decode cX3_firstNoCharacter 33 = .ok (.istore 5, 2) := by decide +kernel
theorem dX3_firstNoCharacter_35 : decode cX3_firstNoCharacter 35 = .ok (.iload 5, 2) := by decide +kernel
theorem dX3_firstNoCharacter_37 : decode cX3_firstNoCharacter 37 = .ok (.iload_n 3, 1) := by decide +kernel
theorem dX3_firstNoCharacter_38 : decode cX3_firstNoCharacter 38 = .ok (.iload 4, 2) := by decide +kernel
theorem dX3_firstNoCharacter_40 : decode cX3_firstNoCharacter 40 = .ok (.iadd, 1) := by decide +kernel
theorem dX3_firstNoCharacter_41 : decode cX3_firstNoCharacter 41 = .ok (.if_icmp .ge 31, 3) := by decide +kernel
theorem dX3_firstNoCharacter_44 : decode cX3_firstNoCharacter 44 = .ok (.aload_n 0, 1) := by decide +kernel
theorem dX3_firstNoCharacter_45 : decode cX3_firstNoCharacter 45 = .ok (.iload 5, 2) := by decide +kernel
theorem dX3_firstNoCharacter_47 : decode cX3_firstNoCharacter 47 = .ok (.iaload, 1) := by decide +kernel
theorem dX3_firstNoCharacter_48 : decode cX3_firstNoCharacter 48 = .ok (.sipush 128, 3) := by decide +kernel
theorem dX3_firstNoCharacter_51 : decode cX3_firstNoCharacter 51 = .ok (.if_icmp .lt 13, 3) := by decide +kernel
theorem dX3_firstNoCharacter_54 : decode cX3_firstNoCharacter 54 = .ok (.aload_n 0, 1) := by decide +kernel
theorem dX3_firstNoCharacter_55 : decode cX3_firstNoCharacter 55 = .ok (.iload 5, 2) := by decide +kernel
theorem dX3_firstNoCharacter_57 : decode cX3_firstNoCharacter 57 = .ok (.iaload, 1) := by decide +kernel
theorem dX3_firstNoCharacter_58 : decode cX3_firstNoCharacter 58 = .ok (.sipush 191, 3) := by decide +kernel
theorem dX3_firstNoCharacter_61 : decode cX3_firstNoCharacter 61 = .ok (.if_icmp .le 5, 3) := by decide +kernel
theorem dX3_firstNoCharacter_64 : decode cX3_firstNoCharacter 64 = .ok (.iload_n 3, 1) := by decide +kernel
theorem dX3_firstNoCharacter_65 : decode cX3_firstNoCharacter 65 = .ok (.ireturn, 1) := by decide +kernel
theorem dX3_firstNoCharacter_66 : decode cX3_firstNoCharacter 66 = .ok (.iinc 5 1, 3) := by decide +kernel
theorem dX3_firstNoCharacter_69 : decode cX3_firstNoCharacter 69 = .ok (.goto (-34), 3) := by decide +kernel
theorem dX3_firstNoCharacter_72 : decode cX3_firstNoCharacter 72 = .ok (.iload_n 3, 1) := by decide +kernel
theorem dX3_firstNoCharacter_73 : decode cX3_firstNoCharacter 73 = .ok (.iload 4, 2) := by decide +kernel
theorem dX3_firstNoCharacter_75 : decode cX3_firstNoCharacter 75 = .ok (.iadd, 1) := by decide +kernel
theorem dX3_firstNoCharacter_76 : decode cX3_firstNoCharacter 76 = .ok (.istore_n 3, 1) := by decide +kernel
theorem dX3_firstNoCharacter_77 : decode cX3_firstNoCharacter 77 = .ok (.goto (-75), 3) := by decide +kernel
theorem dX3_firstNoCharacter_80 : decode cX3_firstNoCharacter 80 = .ok (.iconst (-1), 1) := by decide +kernel
theorem dX3_firstNoCharacter_81 : decode cX3_firstNoCharacter 81 = .ok (.ireturn, 1) := by decide +kernel
theorem dX3_characterSize_0 : decode cX3_characterSize 0 = .ok (.iload_n 0, 1) := by decide +kernel
theorem dX3_characterSize_1 : decode cX3_characterSize 1 = .ok (.iconst 1, 1) := by decide +kernel
theorem dX3_characterSize_2 : decode cX3_characterSize 2 = .ok (.if_icmp .lt 11, 3) := by decide +kernel
theorem dX3_characterSize_5 : decode cX3_characterSize 5 = .ok (.iload_n 0, 1) := by decide +kernel
theorem dX3_characterSize_6 : decode cX3_characterSize 6 = .ok (.bipush 127, 2) := by decide +kernel
theorem dX3_characterSize_8 : decode cX3_characterSize 8 = .ok (.if_icmp .gt 5, 3) := by decide +kernel
theorem dX3_characterSize_11 : decode cX3_characterSize 11 = .ok (.iconst 1, 1) := by decide +kernel
theorem dX3_characterSize_12 : decode cX3_characterSize 12 = .ok (.ireturn, 1) := by decide +kernel
theorem dX3_characterSize_13 : decode cX3_characterSize 13 = .ok (.iload_n 0, 1) := by decide +kernel
theorem dX3_characterSize_14 : decode cX3_characterSize 14 = .ok (.sipush 192, 3) := by decide +kernel
theorem dX3_characterSize_17 : decode cX3_characterSize 17 = .ok (.if_icmp .lt 12, 3) := by decide +kernel
theorem dX3_characterSize_20 : decode cX3_characterSize 20 = .ok (.iload_n 0, 1) := by decide +kernel
theorem dX3_characterSize_21 : decode cX3_characterSize 21 = .ok (.sipush 223, 3) := by decide +kernel
theorem dX3_characterSize_24 : decode cX3_characterSize 24 = .ok (.if_icmp .gt 5, 3) := by decide +kernel
theorem dX3_characterSize_27 : decode cX3_characterSize 27 = .ok (.iconst 2, 1) := by decide +kernel
theorem dX3_characterSize_28 : decode cX3_characterSize 28 = .ok (.ireturn, 1) := by decide +kernel
theorem dX3_characterSize_29 : decode cX3_characterSize 29 = .ok (.iload_n 0, 1) := by decide +kernel
theorem dX3_characterSize_30 : decode cX3_characterSize 30 = .ok (.sipush 224, 3) := by decide +kernel
theorem dX3_characterSize_33 : decode cX3_characterSize 33 = .ok (.if_icmp .lt 14, 3) := by decide +kernel
theorem dX3_characterSize_36 : decode cX3_characterSize 36 = .ok (.iload_n 0, 1) := by decide +kernel
theorem dX3_characterSize_37 : decode cX3_characterSize 37 = .ok (.sipush 239, 3) := by decide +kernel
theorem dX3_characterSize_40 : decode cX3_characterSize 40 = .ok (.if_icmp .gt 7, 3) := by decide +kernel
theorem dX3_characterSize_43 : decode cX3_characterSize 43 = .ok (.iconst 3, 1) := by decide +kernel
theorem dX3_characterSize_44 : decode cX3_characterSize 44 = .ok (.goto 4, 3) := by decide +kernel
theorem dX3_characterSize_47 : decode cX3_characterSize 47 = .ok (.iconst 0, 1) := by decide +kernel
theorem dX3_characterSize_48 : decode cX3_characterSize 48 = .ok (.ireturn, 1) := by decide +kernel
theorem dX3_isPlainType_0 : decode cX3_isPlainType 0 = .ok (.iload_n 0, 1) := by decide +kernel
theorem dX3_isPlainType_1 : decode cX3_isPlainType 1 = .ok (.tableswitch 117 66 90 #[115, 115, 115, 117, 115, 117, 117, 115, 115, 117, 117, 117, 117, 117, 117, 117, 117, 115, 117, 117, 117, 117, 117, 117, 115], 115) := by decide +kernel
theorem dX3_isPlainType_116 : decode cX3_isPlainType 116 = .ok (.iconst 1, 1) := by decide +kernel
theorem dX3_isPlainType_117 : decode cX3_isPlainType 117 = .ok (.ireturn, 1) := by decide +kernel
theorem dX3_isPlainType_118 : decode cX3_isPlainType 118 = .ok (.iconst 0, 1) := by decide +kernel
theorem dX3_isPlainType_119 : decode cX3_isPlainType 119 = .ok (.ireturn, 1) := by decide +kernel
theorem dX4_init_0 : decode cX4_init 0 = .ok (.aload_n 0, 1) := by decide +kernel
theorem dX4_init_1 : decode cX4_init 1 = .ok (.invokespecial 5, 3) := by decide +kernel
theorem dX4_init_4 : decode cX4_init 4 = .ok (.aload_n 0, 1) := by decide +kernel
theorem dX4_init_5 : decode cX4_init 5 = .ok (.sipush 135, 3) := by decide +kernel
theorem dX4_init_8 : decode cX4_init 8 = .ok (.newarray .int, 2) := by decide +kernel
theorem dX4_init_10 : decode cX4_init 10 = .ok (.putfield 13, 3) := by decide +kernel
theorem dX4_init_13 : decode cX4_init 13 = .ok (.aload_n 0, 1) := by decide +kernel
theorem dX4_init_14 : decode cX4_init 14 = .ok (.sipush 135, 3) := by decide +kernel
theorem dX4_init_17 : decode cX4_init 17 = .ok (.newarray .int, 2) := by decide +kernel
theorem dX4_init_19 : decode cX4_init 19 = .ok (.putfield 17, 3) := by decide +kernel
theorem dX4_init_22 : decode cX4_init 22 = .ok (.aload_n 0, 1) := by decide +kernel
theorem dX4_init_23 : decode cX4_init 23 = .ok (.aload_n 1, 1) := by decide +kernel
theorem dX4_init_24 : decode cX4_init 24 = .ok (.putfield 20, 3) := by decide +kernel
theorem dX4_init_27 : decode cX4_init 27 = .ok (.aload_n 0, 1) := by decide +kernel
theorem dX4_init_28 : decode cX4_init 28 = .ok (.aload_n 1, 1) := by decide +kernel
theorem dX4_init_29 : decode cX4_init 29 = .ok (.getfield 24, 3) := by decide +kernel
theorem dX4_init_32 : decode cX4_init 32 = .ok (.putfield 30, 3) := by decide +kernel
theorem dX4_init_35 : decode cX4_init 35 = .ok (.return_, 1) := by decide +kernel
theorem dX4_forget_0 : decode cX4_forget 0 = .ok (.aload_n 0, 1) := by decide +kernel
theorem dX4_forget_1 : decode cX4_forget 1 = .ok (.iconst 0, 1) := by decide +kernel
theorem dX4_forget_2 : decode cX4_forget 2 = .ok (.putfield 31, 3) := by decide +kernel
theorem dX4_forget_5 : decode cX4_forget 5 = .ok (.return_, 1) := by decide +kernel
theorem dX4_readEntries_0 : decode cX4_readEntries 0 = .ok (.aload_n 0, 1) := by decide +kernel
theorem dX4_readEntries_1 : decode cX4_readEntries 1 = .ok (.getfield 20, 3) := by decide +kernel
theorem dX4_readEntries_4 : decode cX4_readEntries 4 = .ok (.getfield 35, 3) := by decide +kernel
theorem dX4_readEntries_7 : decode cX4_readEntries 7 = .ok (.istore_n 1, 1) := by decide +kernel
theorem dX4_readEntries_8 : decode cX4_readEntries 8 = .ok (.aload_n 0, 1) := by decide +kernel
theorem dX4_readEntries_9 : decode cX4_readEntries 9 = .ok (.getfield 20, 3) := by decide +kernel
theorem dX4_readEntries_12 : decode cX4_readEntries 12 = .ok (.iconst 2, 1) := by decide +kernel
theorem dX4_readEntries_13 : decode cX4_readEntries 13 = .ok (.invokevirtual 38, 3) := by decide +kernel
theorem dX4_readEntries_16 : decode cX4_readEntries 16 = .ok (.ifCond .ne 5, 3) := by decide +kernel
theorem dX4_readEntries_19 : decode cX4_readEntries 19 = .ok (.iconst 0, 1) := by decide +kernel
theorem dX4_readEntries_20 : decode cX4_readEntries 20 = .ok (.ireturn, 1) := by decide +kernel
theorem dX4_readEntries_21 : decode cX4_readEntries 21 = .ok (.aload_n 0, 1) := by decide +kernel
theorem dX4_readEntries_22 : decode cX4_readEntries 22 = .ok (.getfield 30, 3) := by decide +kernel
theorem dX4_readEntries_25 : decode cX4_readEntries 25 = .ok (.iload_n 1, 1) := by decide +kernel
theorem dX4_readEntries_26 : decode cX4_readEntries 26 = .ok (.invokevirtual 42, 3) := by decide +kernel
theorem dX4_readEntries_29 : decode cX4_readEntries 29 = .ok (.istore_n 2, 1) := by decide +kernel
theorem dX4_readEntries_30 : decode cX4_readEntries 30 = .ok (.iload_n 2, 1) := by decide +kernel
theorem dX4_readEntries_31 : decode cX4_readEntries 31 = .ok (.ifCond .ne 13, 3) := by decide +kernel
theorem dX4_readEntries_34 : decode cX4_readEntries 34 = .ok (.aload_n 0, 1) := by decide +kernel
theorem dX4_readEntries_35 : decode cX4_readEntries 35 = .ok (.getfield 20, 3) := by decide +kernel
theorem dX4_readEntries_38 : decode cX4_readEntries 38 = .ok (.iconst 4, 1) := by decide +kernel
theorem dX4_readEntries_39 : decode cX4_readEntries 39 = .ok (.iload_n 1, 1) := by decide +kernel
theorem dX4_readEntries_40 : decode cX4_readEntries 40 = .ok (.invokevirtual 46, 3) := by decide +kernel
theorem dX4_readEntries_43 : decode cX4_readEntries 43 = .ok (.ireturn, 1) := by decide +kernel
theorem dX4_readEntries_44 : decode cX4_readEntries 44 = .ok (.iconst 1, 1) := by decide +kernel
theorem dX4_readEntries_45 : decode cX4_readEntries 45 = .ok (.istore_n 3, 1) := by decide +kernel
theorem dX4_readEntries_46 : decode cX4_readEntries 46 = .ok (.iload_n 3, 1) := by decide +kernel
theorem dX4_readEntries_47 : decode cX4_readEntries 47 = .ok (.iload_n 2, 1) := by decide +kernel
theorem dX4_readEntries_48 : decode cX4_readEntries 48 = .ok (.if_icmp .ge 42, 3) := by decide +kernel
theorem dX4_readEntries_51 : decode cX4_readEntries 51 = .ok (.aload_n 0, 1) := by decide +kernel
theorem dX4_readEntries_52 : decode cX4_readEntries 52 = .ok (.iload_n 3, 1) := by decide +kernel
theorem dX4_readEntries_53 : decode cX4_readEntries 53 = .ok (.iload_n 2, 1) := by decide +kernel
theorem dX4_readEntries_54 : decode cX4_readEntries 54 = .ok (.invokevirtual 50, 3) := by decide +kernel
theorem dX4_readEntries_57 : decode cX4_readEntries 57 = .ok (.ifCond .ne 5, 3) := by decide +kernel
theorem dX4_readEntries_60 : decode cX4_readEntries 60 = .ok (.iconst 0, 1) := by decide +kernel
theorem dX4_readEntries_61 : decode cX4_readEntries 61 = .ok (.ireturn, 1) := by decide +kernel
theorem dX4_readEntries_62 : decode cX4_readEntries 62 = .ok (.iload_n 3, 1) := by decide +kernel
theorem dX4_readEntries_63 : decode cX4_readEntries 63 = .ok (.aload_n 0, 1) := by decide +kernel
theorem dX4_readEntries_64 : decode cX4_readEntries 64 = .ok (.getfield 13, 3) := by decide +kernel
theorem dX4_readEntries_67 : decode cX4_readEntries 67 = .ok (.iload_n 3, 1) := by decide +kernel
theorem dX4_readEntries_68 : decode cX4_readEntries 68 = .ok (.iaload, 1) := by decide +kernel
theorem dX4_readEntries_69 : decode cX4_readEntries 69 = .ok (.iconst 5, 1) := by decide +kernel
theorem dX4_readEntries_70 : decode cX4_readEntries 70 = .ok (.if_icmp .ne 7, 3) := by decide +kernel
theorem dX4_readEntries_73 : decode cX4_readEntries 73 = .ok (.iconst 2, 1) := by decide +kernel
theorem dX4_readEntries_74 : decode cX4_readEntries 74 = .ok (.goto 4, 3) := by decide +kernel
theorem dX4_readEntries_77 : decode cX4_readEntries 77 = .ok (.iconst 1, 1) := by decide +kernel
theorem dX4_readEntries_78 : decode cX4_readEntries 78 = .ok (.iadd, 1) := by decide +kernel
theorem dX4_readEntries_79 : decode cX4_readEntries 79 = .ok (.istore_n 3, 1) := by decide +kernel
theorem dX4_readEntries_80 : decode cX4_readEntries 80 = .ok (.aload_n 0, 1) := by decide +kernel
theorem dX4_readEntries_81 : decode cX4_readEntries 81 = .ok (.iload_n 3, 1) := by decide +kernel
theorem dX4_readEntries_82 : decode cX4_readEntries 82 = .ok (.iconst 1, 1) := by decide +kernel
theorem dX4_readEntries_83 : decode cX4_readEntries 83 = .ok (.isub, 1) := by decide +kernel
theorem dX4_readEntries_84 : decode cX4_readEntries 84 = .ok (.putfield 31, 3) := by decide +kernel
theorem dX4_readEntries_87 : decode cX4_readEntries 87 = .ok (.goto (-41), 3) := by decide +kernel
theorem dX4_readEntries_90 : decode cX4_readEntries 90 = .ok (.iconst 1, 1) := by decide +kernel
theorem dX4_readEntries_91 : decode cX4_readEntries 91 = .ok (.ireturn, 1) := by decide +kernel
theorem dX4_readEntry_0 : decode cX4_readEntry 0 = .ok (.aload_n 0, 1) := by decide +kernel
theorem dX4_readEntry_1 : decode cX4_readEntry 1 = .ok (.getfield 20, 3) := by decide +kernel
theorem dX4_readEntry_4 : decode cX4_readEntry 4 = .ok (.getfield 35, 3) := by decide +kernel
theorem dX4_readEntry_7 : decode cX4_readEntry 7 = .ok (.istore_n 3, 1) := by decide +kernel
theorem dX4_readEntry_8 : decode cX4_readEntry 8 = .ok (.aload_n 0, 1) := by decide +kernel
theorem dX4_readEntry_9 : decode cX4_readEntry 9 = .ok (.getfield 20, 3) := by decide +kernel
theorem dX4_readEntry_12 : decode cX4_readEntry 12 = .ok (.iconst 1, 1) := by decide +kernel
theorem dX4_readEntry_13 : decode cX4_readEntry 13 = .ok (.invokevirtual 38, 3) := by decide +kernel
theorem dX4_readEntry_16 : decode cX4_readEntry 16 = .ok (.ifCond .ne 5, 3) := by decide +kernel
theorem dX4_readEntry_19 : decode cX4_readEntry 19 = .ok (.iconst 0, 1) := by decide +kernel
theorem dX4_readEntry_20 : decode cX4_readEntry 20 = .ok (.ireturn, 1) := by decide +kernel
theorem dX4_readEntry_21 : decode cX4_readEntry 21 = .ok (.aload_n 0, 1) := by decide +kernel
theorem dX4_readEntry_22 : decode cX4_readEntry 22 = .ok (.getfield 30, 3) := by decide +kernel
theorem dX4_readEntry_25 : decode cX4_readEntry 25 = .ok (.getfield 53, 3) := by decide +kernel
theorem dX4_readEntry_28 : decode cX4_readEntry 28 = .ok (.iload_n 3, 1) := by decide +kernel
theorem dX4_readEntry_29 : decode cX4_readEntry 29 = .ok (.iaload, 1) := by decide +kernel
theorem dX4_readEntry_30 : decode cX4_readEntry 30 = .ok (.istore 4, 2) := by decide +kernel
theorem dX4_readEntry_32 : decode cX4_readEntry 32 = .ok (.iload 4, 2) := by decide +kernel
theorem dX4_readEntry_34 : decode cX4_readEntry 34 = .ok (.invokestatic 56, 3) := by decide +kernel
theorem dX4_readEntry_37 : decode cX4_readEntry 37 = .ok (.istore 5, 2) := by decide +kernel
theorem dX4_readEntry_39 : decode cX4_readEntry 39 = .ok (.iload 5, 2) := by decide +kernel
theorem dX4_readEntry_41 : decode cX4_readEntry 41 = .ok (.ifCond .ne 13, 3) := by decide +kernel
theorem dX4_readEntry_44 : decode cX4_readEntry 44 = .ok (.aload_n 0, 1) := by decide +kernel
theorem dX4_readEntry_45 : decode cX4_readEntry 45 = .ok (.getfield 20, 3) := by decide +kernel
theorem dX4_readEntry_48 : decode cX4_readEntry 48 = .ok (.iconst 5, 1) := by decide +kernel
theorem dX4_readEntry_49 : decode cX4_readEntry 49 = .ok (.iload_n 3, 1) := by decide +kernel
theorem dX4_readEntry_50 : decode cX4_readEntry 50 = .ok (.invokevirtual 46, 3) := by decide +kernel
theorem dX4_readEntry_53 : decode cX4_readEntry 53 = .ok (.ireturn, 1) := by decide +kernel
theorem dX4_readEntry_54 : decode cX4_readEntry 54 = .ok (.aload_n 0, 1) := by decide +kernel
theorem dX4_readEntry_55 : decode cX4_readEntry 55 = .ok (.getfield 20, 3) := by decide +kernel
theorem dX4_readEntry_58 : decode cX4_readEntry 58 = .ok (.iload 5, 2) := by decide +kernel
theorem dX4_readEntry_60 : decode cX4_readEntry 60 = .ok (.invokevirtual 38, 3) := by decide +kernel
theorem dX4_readEntry_63 : decode cX4_readEntry 63 = .ok (.ifCond .ne 5, 3) := by decide +kernel
theorem dX4_readEntry_66 : decode cX4_readEntry 66 = .ok (.iconst 0, 1) := by decide +kernel
theorem dX4_readEntry_67 : decode cX4_readEntry 67 = .ok (.ireturn, 1) := by decide +kernel
theorem dX4_readEntry_68 : decode cX4_readEntry 68 = .ok (.aload_n 0, 1) := by decide +kernel
theorem dX4_readEntry_69 : decode cX4_readEntry 69 = .ok (.getfield 13, 3) := by decide +kernel
theorem dX4_readEntry_72 : decode cX4_readEntry 72 = .ok (.iload_n 1, 1) := by decide +kernel
theorem dX4_readEntry_73 : decode cX4_readEntry 73 = .ok (.iload 4, 2) := by decide +kernel
theorem dX4_readEntry_75 : decode cX4_readEntry 75 = .ok (.iastore, 1) := by decide +kernel
theorem dX4_readEntry_76 : decode cX4_readEntry 76 = .ok (.aload_n 0, 1) := by decide +kernel
theorem dX4_readEntry_77 : decode cX4_readEntry 77 = .ok (.getfield 17, 3) := by decide +kernel
theorem dX4_readEntry_80 : decode cX4_readEntry 80 = .ok (.iload_n 1, 1) := by decide +kernel
theorem dX4_readEntry_81 : decode cX4_readEntry 81 = .ok (.iload_n 3, 1) := by decide +kernel
theorem dX4_readEntry_82 : decode cX4_readEntry 82 = .ok (.iastore, 1) := by decide +kernel
theorem dX4_readEntry_83 : decode cX4_readEntry 83 = .ok (.iload 4, 2) := by decide +kernel
theorem dX4_readEntry_85 : decode cX4_readEntry 85 = .ok (.iconst 1, 1) := by decide +kernel
theorem dX4_readEntry_86 : decode cX4_readEntry 86 = .ok (.if_icmp .ne 9, 3) := by decide +kernel
theorem dX4_readEntry_89 : decode cX4_readEntry 89 = .ok (.aload_n 0, 1) := by decide +kernel
theorem dX4_readEntry_90 : decode cX4_readEntry 90 = .ok (.iload_n 3, 1) := by decide +kernel
theorem dX4_readEntry_91 : decode cX4_readEntry 91 = .ok (.invokevirtual 59, 3) := by decide +kernel
theorem dX4_readEntry_94 : decode cX4_readEntry 94 = .ok (.ireturn, 1) := by decide +kernel
theorem dX4_readEntry_95 : decode cX4_readEntry 95 = .ok (.iload 4, 2) := by decide +kernel
theorem dX4_readEntry_97 : decode cX4_readEntry 97 = .ok (.iconst 5, 1) := by decide +kernel
theorem dX4_readEntry_98 : decode cX4_readEntry 98 = .ok (.if_icmp .ne 12, 3) := by decide +kernel
theorem dX4_readEntry_101 : decode cX4_readEntry 101 = .ok (.aload_n 0, 1) := by decide +kernel
theorem dX4_readEntry_102 : decode cX4_readEntry 102 = .ok (.iload_n 1, 1) := by decide +kernel
theorem dX4_readEntry_103 : decode cX4_readEntry 103 = .ok (.iload_n 2, 1) := by decide +kernel
theorem dX4_readEntry_104 : decode cX4_readEntry 104 = .ok (.invokevirtual 62, 3) := by decide +kernel
theorem dX4_readEntry_107 : decode cX4_readEntry 107 = .ok (.ifCond .eq 7, 3) := by decide +kernel
theorem dX4_readEntry_110 : decode cX4_readEntry 110 = .ok (.iconst 1, 1) := by decide +kernel
theorem dX4_readEntry_111 : decode cX4_readEntry 111 = .ok (.goto 4, 3) := by decide +kernel
theorem dX4_readEntry_114 : decode cX4_readEntry 114 = .ok (.iconst 0, 1) := by decide +kernel
theorem dX4_readEntry_115 : decode cX4_readEntry 115 = .ok (.ireturn, 1) := by decide +kernel
theorem dX4_readLetters_0 : decode cX4_readLetters 0 = .ok (.aload_n 0, 1) := by decide +kernel
theorem dX4_readLetters_1 : decode cX4_readLetters 1 = .ok (.getfield 20, 3) := by decide +kernel
theorem dX4_readLetters_4 : decode cX4_readLetters 4 = .ok (.aload_n 0, 1) := by decide +kernel
theorem dX4_readLetters_5 : decode cX4_readLetters 5 = .ok (.getfield 30, 3) := by decide +kernel
theorem dX4_readLetters_8 : decode cX4_readLetters 8 = .ok (.iload_n 1, 1) := by decide +kernel
theorem dX4_readLetters_9 : decode cX4_readLetters 9 = .ok (.iconst 1, 1) := by decide +kernel
theorem dX4_readLetters_10 : decode cX4_readLetters 10 = .ok (.iadd, 1) := by decide +kernel
theorem dX4_readLetters_11 : decode cX4_readLetters 11 = .ok (.invokevirtual 42, 3) := by decide +kernel
theorem dX4_readLetters_14 : decode cX4_readLetters 14 = .ok (.invokevirtual 38, 3) := by decide +kernel
theorem dX4_readLetters_17 : decode cX4_readLetters 17 = .ok (.ifCond .ne 5, 3) := by decide +kernel
theorem dX4_readLetters_20 : decode cX4_readLetters 20 = .ok (.iconst 0, 1) := by decide +kernel
theorem dX4_readLetters_21 : decode cX4_readLetters 21 = .ok (.ireturn, 1) := by decide +kernel
theorem dX4_readLetters_22 : decode cX4_readLetters 22 = .ok (.aload_n 0, 1) := by decide +kernel
theorem dX4_readLetters_23 : decode cX4_readLetters 23 = .ok (.getfield 30, 3) := by decide +kernel
theorem dX4_readLetters_26 : decode cX4_readLetters 26 = .ok (.getfield 53, 3) := by decide +kernel
theorem dX4_readLetters_29 : decode cX4_readLetters 29 = .ok (.iload_n 1, 1) := by decide +kernel
theorem dX4_readLetters_30 : decode cX4_readLetters 30 = .ok (.iconst 3, 1) := by decide +kernel
theorem dX4_readLetters_31 : decode cX4_readLetters 31 = .ok (.iadd, 1) := by decide +kernel
theorem dX4_readLetters_32 : decode cX4_readLetters 32 = .ok (.aload_n 0, 1) := by decide +kernel
theorem dX4_readLetters_33 : decode cX4_readLetters 33 = .ok (.getfield 20, 3) := by decide +kernel
theorem dX4_readLetters_36 : decode cX4_readLetters 36 = .ok (.getfield 35, 3) := by decide +kernel
theorem dX4_readLetters_39 : decode cX4_readLetters 39 = .ok (.invokestatic 65, 3) := by decide +kernel
theorem dX4_readLetters_42 : decode cX4_readLetters 42 = .ok (.istore_n 2, 1) := by decide +kernel
theorem dX4_readLetters_43 : decode cX4_readLetters 43 = .ok (.iload_n 2, 1) := by decide +kernel
theorem dX4_readLetters_44 : decode cX4_readLetters 44 = .ok (.ifCond .lt 16, 3) := by decide +kernel
theorem dX4_readLetters_47 : decode cX4_readLetters 47 = .ok (.aload_n 0, 1) := by decide +kernel
theorem dX4_readLetters_48 : decode cX4_readLetters 48 = .ok (.getfield 20, 3) := by decide +kernel
theorem dX4_readLetters_51 : decode cX4_readLetters 51 = .ok (.bipush 6, 2) := by decide +kernel
theorem dX4_readLetters_53 : decode cX4_readLetters 53 = .ok (.iload_n 2, 1) := by decide +kernel
theorem dX4_readLetters_54 : decode cX4_readLetters 54 = .ok (.invokevirtual 46, 3) := by decide +kernel
theorem dX4_readLetters_57 : decode cX4_readLetters 57 = .ok (.ifCond .eq 7, 3) := by decide +kernel
theorem dX4_readLetters_60 : decode cX4_readLetters 60 = .ok (.iconst 1, 1) := by decide +kernel
theorem dX4_readLetters_61 : decode cX4_readLetters 61 = .ok (.goto 4, 3) := by decide +kernel
theorem dX4_readLetters_64 : decode cX4_readLetters 64 = .ok (.iconst 0, 1) := by decide +kernel
theorem dX4_readLetters_65 : decode cX4_readLetters 65 = .ok (.ireturn, 1) := by decide +kernel
theorem dX4_takeSecondNumber_0 : decode cX4_takeSecondNumber 0 = .ok (.iload_n 1, 1) := by decide +kernel
theorem dX4_takeSecondNumber_1 : decode cX4_takeSecondNumber 1 = .ok (.iconst 1, 1) := by decide +kernel
theorem dX4_takeSecondNumber_2 : decode cX4_takeSecondNumber 2 = .ok (.iadd, 1) := by decide +kernel
theorem dX4_takeSecondNumber_3 : decode cX4_takeSecondNumber 3 = .ok (.iload_n 2, 1) := by decide +kernel
theorem dX4_takeSecondNumber_4 : decode cX4_takeSecondNumber 4 = .ok (.if_icmp .lt 24, 3) := by decide +kernel
theorem dX4_takeSecondNumber_7 : decode cX4_takeSecondNumber 7 = .ok (.aload_n 0, 1) := by decide +kernel
theorem dX4_takeSecondNumber_8 : decode cX4_takeSecondNumber 8 = .ok (.iload_n 1, 1) := by decide +kernel
theorem dX4_takeSecondNumber_9 : decode cX4_takeSecondNumber 9 = .ok (.putfield 31, 3) := by decide +kernel
theorem dX4_takeSecondNumber_12 : decode cX4_takeSecondNumber 12 = .ok (.aload_n 0, 1) := by decide +kernel
theorem dX4_takeSecondNumber_13 : decode cX4_takeSecondNumber 13 = .ok (.getfield 20, 3) := by decide +kernel
theorem dX4_takeSecondNumber_16 : decode cX4_takeSecondNumber 16 = .ok (.bipush 7, 2) := by decide +kernel
theorem dX4_takeSecondNumber_18 : decode cX4_takeSecondNumber 18 = .ok (.aload_n 0, 1) := by decide +kernel
theorem dX4_takeSecondNumber_19 : decode cX4_takeSecondNumber 19 = .ok (.getfield 17, 3) := by decide +kernel
theorem dX4_takeSecondNumber_22 : decode cX4_takeSecondNumber 22 = .ok (.iload_n 1, 1) := by decide +kernel
theorem dX4_takeSecondNumber_23 : decode cX4_takeSecondNumber 23 = .ok (.iaload, 1) := by decide +kernel
theorem dX4_takeSecondNumber_24 : decode cX4_takeSecondNumber 24 = .ok (.invokevirtual 46, 3) := by decide +kernel
theorem dX4_takeSecondNumber_27 : decode cX4_takeSecondNumber 27 = .ok (.ireturn, 1) := by decide +kernel
theorem dX4_takeSecondNumber_28 : decode cX4_takeSecondNumber 28 = .ok (.aload_n 0, 1) := by decide +kernel
theorem dX4_takeSecondNumber_29 : decode cX4_takeSecondNumber 29 = .ok (.getfield 13, 3) := by decide +kernel
theorem dX4_takeSecondNumber_32 : decode cX4_takeSecondNumber 32 = .ok (.iload_n 1, 1) := by decide +kernel
theorem dX4_takeSecondNumber_33 : decode cX4_takeSecondNumber 33 = .ok (.iconst 1, 1) := by decide +kernel
theorem dX4_takeSecondNumber_34 : decode cX4_takeSecondNumber 34 = .ok (.iadd, 1) := by decide +kernel
