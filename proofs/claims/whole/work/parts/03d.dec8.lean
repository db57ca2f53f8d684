theorem dX8_setBeta_44 : decode cX8_setBeta 44 = .ok (.invokevirtual 203, 3) := by decide +kernel
theorem dX8_setBeta_47 : decode cX8_setBeta 47 = .ok (.istore_n 3, 1) := by decide +kernel
theorem dX8_setBeta_48 : decode cX8_setBeta 48 = .ok (.aload_n 0, 1) := by decide +kernel
theorem dX8_setBeta_49 : decode cX8_setBeta 49 = .ok (.invokevirtual 196, 3) := by decide +kernel
theorem dX8_setBeta_52 : decode cX8_setBeta 52 = .ok (.ifCond .ne 6, 3) := by decide +kernel
theorem dX8_setBeta_55 : decode cX8_setBeta 55 = .ok (.bipush (-3), 2) := by decide +kernel
theorem dX8_setBeta_57 : decode cX8_setBeta 57 = .ok (.ireturn, 1) := by decide +kernel
theorem dX8_setBeta_58 : decode cX8_setBeta 58 = .ok (.aload_n 0, 1) := by decide +kernel
theorem dX8_setBeta_59 : decode cX8_setBeta 59 = .ok (.invokevirtual 200, 3) := by decide +kernel
theorem dX8_setBeta_62 : decode cX8_setBeta 62 = .ok (.iload_n 3, 1) := by decide +kernel
theorem dX8_setBeta_63 : decode cX8_setBeta 63 = .ok (.ireturn, 1) := by decide +kernel
theorem dX8_loadWeighted_0 : decode cX8_loadWeighted 0 = .ok (.aload_n 0, 1) := by decide +kernel
theorem dX8_loadWeighted_1 : decode cX8_loadWeighted 1 = .ok (.aload_n 1, 1) := by decide +kernel
theorem dX8_loadWeighted_2 : decode cX8_loadWeighted 2 = .ok (.bipush 24, 2) := by decide +kernel
theorem dX8_loadWeighted_4 : decode cX8_loadWeighted 4 = .ok (.iload_n 2, 1) := by decide +kernel
theorem dX8_loadWeighted_5 : decode cX8_loadWeighted 5 = .ok (.imul, 1) := by decide +kernel
theorem dX8_loadWeighted_6 : decode cX8_loadWeighted 6 = .ok (.aload_n 3, 1) := by decide +kernel
theorem dX8_loadWeighted_7 : decode cX8_loadWeighted 7 = .ok (.invokevirtual 129, 3) := by decide +kernel
theorem dX8_loadWeighted_10 : decode cX8_loadWeighted 10 = .ok (.aload_n 0, 1) := by decide +kernel
theorem dX8_loadWeighted_11 : decode cX8_loadWeighted 11 = .ok (.aload_n 3, 1) := by decide +kernel
theorem dX8_loadWeighted_12 : decode cX8_loadWeighted 12 = .ok (.aload_n 0, 1) := by decide +kernel
theorem dX8_loadWeighted_13 : decode cX8_loadWeighted 13 = .ok (.getfield 109, 3) := by decide +kernel
theorem dX8_loadWeighted_16 : decode cX8_loadWeighted 16 = .ok (.iload_n 2, 1) := by decide +kernel
theorem dX8_loadWeighted_17 : decode cX8_loadWeighted 17 = .ok (.imul, 1) := by decide +kernel
theorem dX8_loadWeighted_18 : decode cX8_loadWeighted 18 = .ok (.iload_n 2, 1) := by decide +kernel
theorem dX8_loadWeighted_19 : decode cX8_loadWeighted 19 = .ok (.iload_n 2, 1) := by decide +kernel
theorem dX8_loadWeighted_20 : decode cX8_loadWeighted 20 = .ok (.imul, 1) := by decide +kernel
theorem dX8_loadWeighted_21 : decode cX8_loadWeighted 21 = .ok (.iadd, 1) := by decide +kernel
theorem dX8_loadWeighted_22 : decode cX8_loadWeighted 22 = .ok (.invokevirtual 144, 3) := by decide +kernel
theorem dX8_loadWeighted_25 : decode cX8_loadWeighted 25 = .ok (.return_, 1) := by decide +kernel
theorem dX8_step_0 : decode cX8_step 0 = .ok (.iconst 1, 1) := by decide +kernel
theorem dX8_step_1 : decode cX8_step 1 = .ok (.istore_n 1, 1) := by decide +kernel
theorem dX8_step_2 : decode cX8_step 2 = .ok (.iconst 0, 1) := by decide +kernel
theorem dX8_step_3 : decode cX8_step 3 = .ok (.istore_n 2, 1) := by decide +kernel
theorem dX8_step_4 : decode cX8_step 4 = .ok (.iload_n 2, 1) := by decide +kernel
theorem dX8_step_5 : decode cX8_step 5 = .ok (.iconst 5, 1) := by decide +kernel
theorem dX8_step_6 : decode cX8_step 6 = .ok (.if_icmp .ge 126, 3) := by decide +kernel
theorem dX8_step_9 : decode cX8_step 9 = .ok (.aload_n 0, 1) := by decide +kernel
theorem dX8_step_10 : decode cX8_step 10 = .ok (.aload_n 0, 1) := by decide +kernel
theorem dX8_step_11 : decode cX8_step 11 = .ok (.getfield 25, 3) := by decide +kernel
theorem dX8_step_14 : decode cX8_step 14 = .ok (.iload_n 2, 1) := by decide +kernel
theorem dX8_step_15 : decode cX8_step 15 = .ok (.aload_n 0, 1) := by decide +kernel
theorem dX8_step_16 : decode cX8_step 16 = .ok (.getfield 40, 3) := by decide +kernel
theorem dX8_step_19 : decode cX8_step 19 = .ok (.invokevirtual 210, 3) := by decide +kernel
theorem dX8_step_22 : decode cX8_step 22 = .ok (.aload_n 0, 1) := by decide +kernel
theorem dX8_step_23 : decode cX8_step 23 = .ok (.aload_n 0, 1) := by decide +kernel
theorem dX8_step_24 : decode cX8_step 24 = .ok (.getfield 43, 3) := by decide +kernel
theorem dX8_step_27 : decode cX8_step 27 = .ok (.iload_n 2, 1) := by decide +kernel
theorem dX8_step_28 : decode cX8_step 28 = .ok (.invokevirtual 182, 3) := by decide +kernel
theorem dX8_step_31 : decode cX8_step 31 = .ok (.pop, 1) := by decide +kernel
theorem dX8_step_32 : decode cX8_step 32 = .ok (.aload_n 0, 1) := by decide +kernel
theorem dX8_step_33 : decode cX8_step 33 = .ok (.aload_n 0, 1) := by decide +kernel
theorem dX8_step_34 : decode cX8_step 34 = .ok (.getfield 40, 3) := by decide +kernel
theorem dX8_step_37 : decode cX8_step 37 = .ok (.invokevirtual 136, 3) := by decide +kernel
theorem dX8_step_40 : decode cX8_step 40 = .ok (.iconst 0, 1) := by decide +kernel
theorem dX8_step_41 : decode cX8_step 41 = .ok (.istore_n 3, 1) := by decide +kernel
theorem dX8_step_42 : decode cX8_step 42 = .ok (.iload_n 3, 1) := by decide +kernel
theorem dX8_step_43 : decode cX8_step 43 = .ok (.iload_n 2, 1) := by decide +kernel
theorem dX8_step_44 : decode cX8_step 44 = .ok (.if_icmp .gt 70, 3) := by decide +kernel
theorem dX8_step_47 : decode cX8_step 47 = .ok (.aload_n 0, 1) := by decide +kernel
theorem dX8_step_48 : decode cX8_step 48 = .ok (.aload_n 0, 1) := by decide +kernel
theorem dX8_step_49 : decode cX8_step 49 = .ok (.getfield 28, 3) := by decide +kernel
theorem dX8_step_52 : decode cX8_step 52 = .ok (.iload_n 3, 1) := by decide +kernel
theorem dX8_step_53 : decode cX8_step 53 = .ok (.aload_n 0, 1) := by decide +kernel
theorem dX8_step_54 : decode cX8_step 54 = .ok (.getfield 37, 3) := by decide +kernel
theorem dX8_step_57 : decode cX8_step 57 = .ok (.invokevirtual 210, 3) := by decide +kernel
theorem dX8_step_60 : decode cX8_step 60 = .ok (.aload_n 0, 1) := by decide +kernel
theorem dX8_step_61 : decode cX8_step 61 = .ok (.aload_n 0, 1) := by decide +kernel
theorem dX8_step_62 : decode cX8_step 62 = .ok (.getfield 37, 3) := by decide +kernel
theorem dX8_step_65 : decode cX8_step 65 = .ok (.iconst 0, 1) := by decide +kernel
theorem dX8_step_66 : decode cX8_step 66 = .ok (.iload_n 2, 1) := by decide +kernel
theorem dX8_step_67 : decode cX8_step 67 = .ok (.iload_n 3, 1) := by decide +kernel
theorem dX8_step_68 : decode cX8_step 68 = .ok (.isub, 1) := by decide +kernel
theorem dX8_step_69 : decode cX8_step 69 = .ok (.iconst (-1), 1) := by decide +kernel
theorem dX8_step_70 : decode cX8_step 70 = .ok (.invokevirtual 175, 3) := by decide +kernel
theorem dX8_step_73 : decode cX8_step 73 = .ok (.iconst 0, 1) := by decide +kernel
theorem dX8_step_74 : decode cX8_step 74 = .ok (.istore 4, 2) := by decide +kernel
theorem dX8_step_76 : decode cX8_step 76 = .ok (.iload 4, 2) := by decide +kernel
theorem dX8_step_78 : decode cX8_step 78 = .ok (.aload_n 0, 1) := by decide +kernel
theorem dX8_step_79 : decode cX8_step 79 = .ok (.getfield 17, 3) := by decide +kernel
theorem dX8_step_82 : decode cX8_step 82 = .ok (.if_icmp .ge 26, 3) := by decide +kernel
theorem dX8_step_85 : decode cX8_step 85 = .ok (.aload_n 0, 1) := by decide +kernel
theorem dX8_step_86 : decode cX8_step 86 = .ok (.getfield 40, 3) := by decide +kernel
theorem dX8_step_89 : decode cX8_step 89 = .ok (.iload 4, 2) := by decide +kernel
theorem dX8_step_91 : decode cX8_step 91 = .ok (.dup2, 1) := by decide +kernel
theorem dX8_step_92 : decode cX8_step 92 = .ok (.laload, 1) := by decide +kernel
theorem dX8_step_93 : decode cX8_step 93 = .ok (.aload_n 0, 1) := by decide +kernel
theorem dX8_step_94 : decode cX8_step 94 = .ok (.getfield 37, 3) := by decide +kernel
theorem dX8_step_97 : decode cX8_step 97 = .ok (.iload 4, 2) := by decide +kernel
theorem dX8_step_99 : decode cX8_step 99 = .ok (.laload, 1) := by decide +kernel
theorem dX8_step_100 : decode cX8_step 100 = .ok (.ladd, 1) := by decide +kernel
theorem dX8_step_101 : decode cX8_step 101 = .ok (.lastore, 1) := by decide +kernel
theorem dX8_step_102 : decode cX8_step 102 = .ok (.iinc 4 1, 3) := by decide +kernel
theorem dX8_step_105 : decode cX8_step 105 = .ok (.goto (-29), 3) := by decide +kernel
theorem dX8_step_108 : decode cX8_step 108 = .ok (.iinc 3 1, 3) := by decide +kernel
theorem dX8_step_111 : decode cX8_step 111 = .ok (.goto (-69), 3) := by decide +kernel
theorem dX8_step_114 : decode cX8_step 114 = .ok (.iload_n 1, 1) := by decide +kernel
theorem dX8_step_115 : decode cX8_step 115 = .ok (.aload_n 0, 1) := by decide +kernel
theorem dX8_step_116 : decode cX8_step 116 = .ok (.aload_n 0, 1) := by decide +kernel
theorem dX8_step_117 : decode cX8_step 117 = .ok (.getfield 46, 3) := by decide +kernel
theorem dX8_step_120 : decode cX8_step 120 = .ok (.iload_n 2, 1) := by decide +kernel
theorem dX8_step_121 : decode cX8_step 121 = .ok (.invokevirtual 182, 3) := by decide +kernel
theorem dX8_step_124 : decode cX8_step 124 = .ok (.iand, 1) := by decide +kernel
theorem dX8_step_125 : decode cX8_step 125 = .ok (.istore_n 1, 1) := by decide +kernel
theorem dX8_step_126 : decode cX8_step 126 = .ok (.iinc 2 1, 3) := by decide +kernel
theorem dX8_step_129 : decode cX8_step 129 = .ok (.goto (-125), 3) := by decide +kernel
theorem dX8_step_132 : decode cX8_step 132 = .ok (.iload_n 1, 1) := by decide +kernel
theorem dX8_step_133 : decode cX8_step 133 = .ok (.ifCond .ne 6, 3) := by decide +kernel
theorem dX8_step_136 : decode cX8_step 136 = .ok (.bipush (-3), 2) := by decide +kernel
theorem dX8_step_138 : decode cX8_step 138 = .ok (.ireturn, 1) := by decide +kernel
theorem dX8_step_139 : decode cX8_step 139 = .ok (.aload_n 0, 1) := by decide +kernel
theorem dX8_step_140 : decode cX8_step 140 = .ok (.invokevirtual 213, 3) := by decide +kernel
theorem dX8_step_143 : decode cX8_step 143 = .ok (.aload_n 0, 1) := by decide +kernel
theorem dX8_step_144 : decode cX8_step 144 = .ok (.getfield 43, 3) := by decide +kernel
theorem dX8_step_147 : decode cX8_step 147 = .ok (.iconst 0, 1) := by decide +kernel
theorem dX8_step_148 : decode cX8_step 148 = .ok (.aload_n 0, 1) := by decide +kernel
theorem dX8_step_149 : decode cX8_step 149 = .ok (.getfield 25, 3) := by decide +kernel
theorem dX8_step_152 : decode cX8_step 152 = .ok (.iconst 0, 1) := by decide +kernel
theorem dX8_step_153 : decode cX8_step 153 = .ok (.invokestatic 186, 3) := by decide +kernel
theorem dX8_step_156 : decode cX8_step 156 = .ok (.aload_n 0, 1) := by decide +kernel
theorem dX8_step_157 : decode cX8_step 157 = .ok (.getfield 46, 3) := by decide +kernel
theorem dX8_step_160 : decode cX8_step 160 = .ok (.iconst 0, 1) := by decide +kernel
theorem dX8_step_161 : decode cX8_step 161 = .ok (.aload_n 0, 1) := by decide +kernel
theorem dX8_step_162 : decode cX8_step 162 = .ok (.getfield 28, 3) := by decide +kernel
theorem dX8_step_165 : decode cX8_step 165 = .ok (.iconst 0, 1) := by decide +kernel
theorem dX8_step_166 : decode cX8_step 166 = .ok (.invokestatic 186, 3) := by decide +kernel
theorem dX8_step_169 : decode cX8_step 169 = .ok (.aload_n 0, 1) := by decide +kernel
theorem dX8_step_170 : decode cX8_step 170 = .ok (.dup, 1) := by decide +kernel
theorem dX8_step_171 : decode cX8_step 171 = .ok (.getfield 190, 3) := by decide +kernel
theorem dX8_step_174 : decode cX8_step 174 = .ok (.iconst 1, 1) := by decide +kernel
theorem dX8_step_175 : decode cX8_step 175 = .ok (.iadd, 1) := by decide +kernel
theorem dX8_step_176 : decode cX8_step 176 = .ok (.putfield 190, 3) := by decide +kernel
theorem dX8_step_179 : decode cX8_step 179 = .ok (.aload_n 0, 1) := by decide +kernel
theorem dX8_step_180 : decode cX8_step 180 = .ok (.getfield 190, 3) := by decide +kernel
theorem dX8_step_183 : decode cX8_step 183 = .ok (.ireturn, 1) := by decide +kernel
theorem dX8_remember_0 : decode cX8_remember 0 = .ok (.aload_n 0, 1) := by decide +kernel
theorem dX8_remember_1 : decode cX8_remember 1 = .ok (.getfield 193, 3) := by decide +kernel
theorem dX8_remember_4 : decode cX8_remember 4 = .ok (.bipush 8, 2) := by decide +kernel
theorem dX8_remember_6 : decode cX8_remember 6 = .ok (.if_icmp .ne 46, 3) := by decide +kernel
theorem dX8_remember_9 : decode cX8_remember 9 = .ok (.sipush 240, 3) := by decide +kernel
theorem dX8_remember_12 : decode cX8_remember 12 = .ok (.istore_n 1, 1) := by decide +kernel
theorem dX8_remember_13 : decode cX8_remember 13 = .ok (.iload_n 1, 1) := by decide +kernel
theorem dX8_remember_14 : decode cX8_remember 14 = .ok (.sipush 1920, 3) := by decide +kernel
theorem dX8_remember_17 : decode cX8_remember 17 = .ok (.if_icmp .ge 25, 3) := by decide +kernel
theorem dX8_remember_20 : decode cX8_remember 20 = .ok (.aload_n 0, 1) := by decide +kernel
theorem dX8_remember_21 : decode cX8_remember 21 = .ok (.getfield 31, 3) := by decide +kernel
theorem dX8_remember_24 : decode cX8_remember 24 = .ok (.iload_n 1, 1) := by decide +kernel
theorem dX8_remember_25 : decode cX8_remember 25 = .ok (.sipush 240, 3) := by decide +kernel
theorem dX8_remember_28 : decode cX8_remember 28 = .ok (.isub, 1) := by decide +kernel
theorem dX8_remember_29 : decode cX8_remember 29 = .ok (.aload_n 0, 1) := by decide +kernel
theorem dX8_remember_30 : decode cX8_remember 30 = .ok (.getfield 31, 3) := by decide +kernel
theorem dX8_remember_33 : decode cX8_remember 33 = .ok (.iload_n 1, 1) := by decide +kernel
theorem dX8_remember_34 : decode cX8_remember 34 = .ok (.laload, 1) := by decide +kernel
theorem dX8_remember_35 : decode cX8_remember 35 = .ok (.lastore, 1) := by decide +kernel
theorem dX8_remember_36 : decode cX8_remember 36 = .ok (.iinc 1 1, 3) := by decide +kernel
theorem dX8_remember_39 : decode cX8_remember 39 = .ok (.goto (-26), 3) := by decide +kernel
theorem dX8_remember_42 : decode cX8_remember 42 = .ok (.aload_n 0, 1) := by decide +kernel
theorem dX8_remember_43 : decode cX8_remember 43 = .ok (.dup, 1) := by decide +kernel
theorem dX8_remember_44 : decode cX8_remember 44 = .ok (.getfield 193, 3) := by decide +kernel
theorem dX8_remember_47 : decode cX8_remember 47 = .ok (.iconst 1, 1) := by decide +kernel
theorem dX8_remember_48 : decode cX8_remember 48 = .ok (.isub, 1) := by decide +kernel
theorem dX8_remember_49 : decode cX8_remember 49 = .ok (.putfield 193, 3) := by decide +kernel
theorem dX8_remember_52 : decode cX8_remember 52 = .ok (.aload_n 0, 1) := by decide +kernel
theorem dX8_remember_53 : decode cX8_remember 53 = .ok (.getfield 25, 3) := by decide +kernel
theorem dX8_remember_56 : decode cX8_remember 56 = .ok (.iconst 0, 1) := by decide +kernel
theorem dX8_remember_57 : decode cX8_remember 57 = .ok (.aload_n 0, 1) := by decide +kernel
theorem dX8_remember_58 : decode cX8_remember 58 = .ok (.getfield 31, 3) := by decide +kernel
theorem dX8_remember_61 : decode cX8_remember 61 = .ok (.sipush 240, 3) := by decide +kernel
theorem dX8_remember_64 : decode cX8_remember 64 = .ok (.aload_n 0, 1) := by decide +kernel
theorem dX8_remember_65 : decode cX8_remember 65 = .ok (.getfield 193, 3) := by decide +kernel
theorem dX8_remember_68 : decode cX8_remember 68 = .ok (.imul, 1) := by decide +kernel
theorem dX8_remember_69 : decode cX8_remember 69 = .ok (.invokestatic 186, 3) := by decide +kernel
theorem dX8_remember_72 : decode cX8_remember 72 = .ok (.aload_n 0, 1) := by decide +kernel
theorem dX8_remember_73 : decode cX8_remember 73 = .ok (.getfield 28, 3) := by decide +kernel
theorem dX8_remember_76 : decode cX8_remember 76 = .ok (.iconst 0, 1) := by decide +kernel
theorem dX8_remember_77 : decode cX8_remember 77 = .ok (.aload_n 0, 1) := by decide +kernel
theorem dX8_remember_78 : decode cX8_remember 78 = .ok (.getfield 31, 3) := by decide +kernel
theorem dX8_remember_81 : decode cX8_remember 81 = .ok (.sipush 240, 3) := by decide +kernel
theorem dX8_remember_84 : decode cX8_remember 84 = .ok (.aload_n 0, 1) := by decide +kernel
theorem dX8_remember_85 : decode cX8_remember 85 = .ok (.getfield 193, 3) := by decide +kernel
theorem dX8_remember_88 : decode cX8_remember 88 = .ok (.imul, 1) := by decide +kernel
theorem dX8_remember_89 : decode cX8_remember 89 = .ok (.bipush 120, 2) := by decide +kernel
theorem dX8_remember_91 : decode cX8_remember 91 = .ok (.iadd, 1) := by decide +kernel
theorem dX8_remember_92 : decode cX8_remember 92 = .ok (.invokestatic 186, 3) := by decide +kernel
theorem dX8_remember_95 : decode cX8_remember 95 = .ok (.aload_n 0, 1) := by decide +kernel
theorem dX8_remember_96 : decode cX8_remember 96 = .ok (.dup, 1) := by decide +kernel
theorem dX8_remember_97 : decode cX8_remember 97 = .ok (.getfield 193, 3) := by decide +kernel
theorem dX8_remember_100 : decode cX8_remember 100 = .ok (.iconst 1, 1) := by decide +kernel
theorem dX8_remember_101 : decode cX8_remember 101 = .ok (.iadd, 1) := by decide +kernel
theorem dX8_remember_102 : decode cX8_remember 102 = .ok (.putfield 193, 3) := by decide +kernel
theorem dX8_remember_105 : decode cX8_remember 105 = .ok (.return_, 1) := by decide +kernel
theorem dX8_undoStep_0 : decode cX8_undoStep 0 = .ok (.aload_n 0, 1) := by decide +kernel
theorem dX8_undoStep_1 : decode cX8_undoStep 1 = .ok (.getfield 193, 3) := by decide +kernel
theorem dX8_undoStep_4 : decode cX8_undoStep 4 = .ok (.ifCond .ne 6, 3) := by decide +kernel
theorem dX8_undoStep_7 : decode cX8_undoStep 7 = .ok (.bipush (-5), 2) := by decide +kernel
theorem dX8_undoStep_9 : decode cX8_undoStep 9 = .ok (.ireturn, 1) := by decide +kernel
theorem dX8_undoStep_10 : decode cX8_undoStep 10 = .ok (.aload_n 0, 1) := by decide +kernel
theorem dX8_undoStep_11 : decode cX8_undoStep 11 = .ok (.dup, 1) := by decide +kernel
theorem dX8_undoStep_12 : decode cX8_undoStep 12 = .ok (.getfield 193, 3) := by decide +kernel
theorem dX8_undoStep_15 : decode cX8_undoStep 15 = .ok (.iconst 1, 1) := by decide +kernel
theorem dX8_undoStep_16 : decode cX8_undoStep 16 = .ok (.isub, 1) := by decide +kernel
theorem dX8_undoStep_17 : decode cX8_undoStep 17 = .ok (.putfield 193, 3) := by decide +kernel
theorem dX8_undoStep_20 : decode cX8_undoStep 20 = .ok (.aload_n 0, 1) := by decide +kernel
theorem dX8_undoStep_21 : decode cX8_undoStep 21 = .ok (.getfield 31, 3) := by decide +kernel
theorem dX8_undoStep_24 : decode cX8_undoStep 24 = .ok (.sipush 240, 3) := by decide +kernel
theorem dX8_undoStep_27 : decode cX8_undoStep 27 = .ok (.aload_n 0, 1) := by decide +kernel
theorem dX8_undoStep_28 : decode cX8_undoStep 28 = .ok (.getfield 193, 3) := by decide +kernel
theorem dX8_undoStep_31 : decode cX8_undoStep 31 = .ok (.imul, 1) := by decide +kernel
theorem dX8_undoStep_32 : decode cX8_undoStep 32 = .ok (.aload_n 0, 1) := by decide +kernel
theorem dX8_undoStep_33 : decode cX8_undoStep 33 = .ok (.getfield 25, 3) := by decide +kernel
theorem dX8_undoStep_36 : decode cX8_undoStep 36 = .ok (.iconst 0, 1) := by decide +kernel
theorem dX8_undoStep_37 : decode cX8_undoStep 37 = .ok (.invokestatic 186, 3) := by decide +kernel
theorem dX8_undoStep_40 : decode cX8_undoStep 40 = .ok (.aload_n 0, 1) := by decide +kernel
theorem dX8_undoStep_41 : decode cX8_undoStep 41 = .ok (.getfield 31, 3) := by decide +kernel
theorem dX8_undoStep_44 : decode cX8_undoStep 44 = .ok (.sipush 240, 3) := by decide +kernel
theorem dX8_undoStep_47 : decode cX8_undoStep 47 = .ok (.aload_n 0, 1) := by decide +kernel
theorem dX8_undoStep_48 : decode cX8_undoStep 48 = .ok (.getfield 193, 3) := by decide +kernel
theorem dX8_undoStep_51 : decode cX8_undoStep 51 = .ok (.imul, 1) := by decide +kernel
theorem dX8_undoStep_52 : decode cX8_undoStep 52 = .ok (.bipush 120, 2) := by decide +kernel
theorem dX8_undoStep_54 : decode cX8_undoStep 54 = .ok (.iadd, 1) := by decide +kernel
theorem dX8_undoStep_55 : decode cX8_undoStep 55 = .ok (.aload_n 0, 1) := by decide +kernel
theorem dX8_undoStep_56 : decode cX8_undoStep 56 = .ok (.getfield 28, 3) := by decide +kernel
theorem dX8_undoStep_59 : decode cX8_undoStep 59 = .ok (.iconst 0, 1) := by decide +kernel
theorem dX8_undoStep_60 : decode cX8_undoStep 60 = .ok (.invokestatic 186, 3) := by decide +kernel
theorem dX8_undoStep_63 : decode cX8_undoStep 63 = .ok (.aload_n 0, 1) := by decide +kernel
theorem dX8_undoStep_64 : decode cX8_undoStep 64 = .ok (.dup, 1) := by decide +kernel
theorem dX8_undoStep_65 : decode cX8_undoStep 65 = .ok (.getfield 190, 3) := by decide +kernel
theorem dX8_undoStep_68 : decode cX8_undoStep 68 = .ok (.iconst 1, 1) := by decide +kernel
theorem dX8_undoStep_69 : decode cX8_undoStep 69 = .ok (.isub, 1) := by decide +kernel
theorem dX8_undoStep_70 : decode cX8_undoStep 70 = .ok (.putfield 190, 3) := by decide +kernel
theorem dX8_undoStep_73 : decode cX8_undoStep 73 = .ok (.aload_n 0, 1) := by decide +kernel
theorem dX8_undoStep_74 : decode cX8_undoStep 74 = .ok (.getfield 190, 3) := by decide +kernel
theorem dX8_undoStep_77 : decode cX8_undoStep 77 = .ok (.ireturn, 1) := by decide +kernel
theorem dX8_chainLength_0 : decode cX8_chainLength 0 = .ok (.aload_n 0, 1) := by decide +kernel
theorem dX8_chainLength_1 : decode cX8_chainLength 1 = .ok (.getfield 190, 3) := by decide +kernel
theorem dX8_chainLength_4 : decode cX8_chainLength 4 = .ok (.ireturn, 1) := by decide +kernel
theorem dX8_copySeries_0 : decode cX8_copySeries 0 = .ok (.iload_n 2, 1) := by decide +kernel
theorem dX8_copySeries_1 : decode cX8_copySeries 1 = .ok (.invokestatic 112, 3) := by decide +kernel
theorem dX8_copySeries_4 : decode cX8_copySeries 4 = .ok (.ifCond .ne 6, 3) := by decide +kernel
theorem dX8_copySeries_7 : decode cX8_copySeries 7 = .ok (.bipush (-2), 2) := by decide +kernel
theorem dX8_copySeries_9 : decode cX8_copySeries 9 = .ok (.ireturn, 1) := by decide +kernel
theorem dX8_copySeries_10 : decode cX8_copySeries 10 = .ok (.iload_n 3, 1) := by decide +kernel
theorem dX8_copySeries_11 : decode cX8_copySeries 11 = .ok (.i2l, 1) := by decide +kernel
theorem dX8_copySeries_12 : decode cX8_copySeries 12 = .ok (.lconst 0, 1) := by decide +kernel
theorem dX8_copySeries_13 : decode cX8_copySeries 13 = .ok (.ldc2_w 105, 3) := by decide +kernel
theorem dX8_copySeries_16 : decode cX8_copySeries 16 = .ok (.invokestatic 7, 3) := by decide +kernel
theorem dX8_copySeries_19 : decode cX8_copySeries 19 = .ok (.ifCond .ne 5, 3) := by decide +kernel
theorem dX8_copySeries_22 : decode cX8_copySeries 22 = .ok (.iconst (-1), 1) := by decide +kernel
theorem dX8_copySeries_23 : decode cX8_copySeries 23 = .ok (.ireturn, 1) := by decide +kernel
theorem dX8_copySeries_24 : decode cX8_copySeries 24 = .ok (.aload_n 0, 1) := by decide +kernel
theorem dX8_copySeries_25 : decode cX8_copySeries 25 = .ok (.aload_n 1, 1) := by decide +kernel
theorem dX8_copySeries_26 : decode cX8_copySeries 26 = .ok (.bipush 24, 2) := by decide +kernel
theorem dX8_copySeries_28 : decode cX8_copySeries 28 = .ok (.iload_n 3, 1) := by decide +kernel
theorem dX8_copySeries_29 : decode cX8_copySeries 29 = .ok (.imul, 1) := by decide +kernel
theorem dX8_copySeries_30 : decode cX8_copySeries 30 = .ok (.aload_n 0, 1) := by decide +kernel
theorem dX8_copySeries_31 : decode cX8_copySeries 31 = .ok (.getfield 34, 3) := by decide +kernel
theorem dX8_copySeries_34 : decode cX8_copySeries 34 = .ok (.invokevirtual 129, 3) := by decide +kernel
theorem dX8_copySeries_37 : decode cX8_copySeries 37 = .ok (.aload_n 0, 1) := by decide +kernel
theorem dX8_copySeries_38 : decode cX8_copySeries 38 = .ok (.iload_n 2, 1) := by decide +kernel
theorem dX8_copySeries_39 : decode cX8_copySeries 39 = .ok (.invokevirtual 133, 3) := by decide +kernel
theorem dX8_copySeries_42 : decode cX8_copySeries 42 = .ok (.ireturn, 1) := by decide +kernel
theorem dX8_copyAlpha_0 : decode cX8_copyAlpha 0 = .ok (.aload_n 0, 1) := by decide +kernel
theorem dX8_copyAlpha_1 : decode cX8_copyAlpha 1 = .ok (.aload_n 0, 1) := by decide +kernel
theorem dX8_copyAlpha_2 : decode cX8_copyAlpha 2 = .ok (.getfield 25, 3) := by decide +kernel
theorem dX8_copyAlpha_5 : decode cX8_copyAlpha 5 = .ok (.iload_n 1, 1) := by decide +kernel
theorem dX8_copyAlpha_6 : decode cX8_copyAlpha 6 = .ok (.iload_n 2, 1) := by decide +kernel
theorem dX8_copyAlpha_7 : decode cX8_copyAlpha 7 = .ok (.invokevirtual 216, 3) := by decide +kernel
theorem dX8_copyAlpha_10 : decode cX8_copyAlpha 10 = .ok (.ireturn, 1) := by decide +kernel
theorem dX8_copyBeta_0 : decode cX8_copyBeta 0 = .ok (.aload_n 0, 1) := by decide +kernel
theorem dX8_copyBeta_1 : decode cX8_copyBeta 1 = .ok (.aload_n 0, 1) := by decide +kernel
theorem dX8_copyBeta_2 : decode cX8_copyBeta 2 = .ok (.getfield 28, 3) := by decide +kernel
theorem dX8_copyBeta_5 : decode cX8_copyBeta 5 = .ok (.iload_n 1, 1) := by decide +kernel
theorem dX8_copyBeta_6 : decode cX8_copyBeta 6 = .ok (.iload_n 2, 1) := by decide +kernel
theorem dX8_copyBeta_7 : decode cX8_copyBeta 7 = .ok (.invokevirtual 216, 3) := by decide +kernel
theorem dX8_copyBeta_10 : decode cX8_copyBeta 10 = .ok (.ireturn, 1) := by decide +kernel
theorem dX8_sumWeighted_0 : decode cX8_sumWeighted 0 = .ok (.aload_n 0, 1) := by decide +kernel
theorem dX8_sumWeighted_1 : decode cX8_sumWeighted 1 = .ok (.aload_n 0, 1) := by decide +kernel
theorem dX8_sumWeighted_2 : decode cX8_sumWeighted 2 = .ok (.getfield 34, 3) := by decide +kernel
theorem dX8_sumWeighted_5 : decode cX8_sumWeighted 5 = .ok (.invokevirtual 136, 3) := by decide +kernel
theorem dX8_sumWeighted_8 : decode cX8_sumWeighted 8 = .ok (.iconst 0, 1) := by decide +kernel
theorem dX8_sumWeighted_9 : decode cX8_sumWeighted 9 = .ok (.istore_n 2, 1) := by decide +kernel
theorem dX8_sumWeighted_10 : decode cX8_sumWeighted 10 = .ok (.iload_n 2, 1) := by decide +kernel
theorem dX8_sumWeighted_11 : decode cX8_sumWeighted 11 = .ok (.iconst 5, 1) := by decide +kernel
theorem dX8_sumWeighted_12 : decode cX8_sumWeighted 12 = .ok (.if_icmp .ge 50, 3) := by decide +kernel
theorem dX8_sumWeighted_15 : decode cX8_sumWeighted 15 = .ok (.aload_n 0, 1) := by decide +kernel
theorem dX8_sumWeighted_16 : decode cX8_sumWeighted 16 = .ok (.aload_n 1, 1) := by decide +kernel
theorem dX8_sumWeighted_17 : decode cX8_sumWeighted 17 = .ok (.iload_n 2, 1) := by decide +kernel
theorem dX8_sumWeighted_18 : decode cX8_sumWeighted 18 = .ok (.aload_n 0, 1) := by decide +kernel
theorem dX8_sumWeighted_19 : decode cX8_sumWeighted 19 = .ok (.getfield 37, 3) := by decide +kernel
theorem dX8_sumWeighted_22 : decode cX8_sumWeighted 22 = .ok (.invokevirtual 210, 3) := by decide +kernel
theorem dX8_sumWeighted_25 : decode cX8_sumWeighted 25 = .ok (.iconst 0, 1) := by decide +kernel
theorem dX8_sumWeighted_26 : decode cX8_sumWeighted 26 = .ok (.istore_n 3, 1) := by decide +kernel
theorem dX8_sumWeighted_27 : decode cX8_sumWeighted 27 = .ok (.iload_n 3, 1) := by decide +kernel
theorem dX8_sumWeighted_28 : decode cX8_sumWeighted 28 = .ok (.aload_n 0, 1) := by decide +kernel
theorem dX8_sumWeighted_29 : decode cX8_sumWeighted 29 = .ok (.getfield 17, 3) := by decide +kernel
theorem dX8_sumWeighted_32 : decode cX8_sumWeighted 32 = .ok (.if_icmp .ge 24, 3) := by decide +kernel
theorem dX8_sumWeighted_35 : decode cX8_sumWeighted 35 = .ok (.aload_n 0, 1) := by decide +kernel
theorem dX8_sumWeighted_36 : decode cX8_sumWeighted 36 = .ok (.getfield 34, 3) := by decide +kernel
theorem dX8_sumWeighted_39 : decode cX8_sumWeighted 39 = .ok (.iload_n 3, 1) := by decide +kernel
theorem dX8_sumWeighted_40 : decode cX8_sumWeighted 40 = .ok (.dup2, 1) := by decide +kernel
theorem dX8_sumWeighted_41 : decode cX8_sumWeighted 41 = .ok (.laload, 1) := by decide +kernel
theorem dX8_sumWeighted_42 : decode cX8_sumWeighted 42 = .ok (.aload_n 0, 1) := by decide +kernel
theorem dX8_sumWeighted_43 : decode cX8_sumWeighted 43 = .ok (.getfield 37, 3) := by decide +kernel
theorem dX8_sumWeighted_46 : decode cX8_sumWeighted 46 = .ok (.iload_n 3, 1) := by decide +kernel
theorem dX8_sumWeighted_47 : decode cX8_sumWeighted 47 = .ok (.laload, 1) := by decide +kernel
theorem dX8_sumWeighted_48 : decode cX8_sumWeighted 48 = .ok (.ladd, 1) := by decide +kernel
theorem dX8_sumWeighted_49 : decode cX8_sumWeighted 49 = .ok (.lastore, 1) := by decide +kernel
theorem dX8_sumWeighted_50 : decode cX8_sumWeighted 50 = .ok (.iinc 3 1, 3) := by decide +kernel
theorem dX8_sumWeighted_53 : decode cX8_sumWeighted 53 = .ok (.goto (-26), 3) := by decide +kernel
theorem dX8_sumWeighted_56 : decode cX8_sumWeighted 56 = .ok (.iinc 2 1, 3) := by decide +kernel
theorem dX8_sumWeighted_59 : decode cX8_sumWeighted 59 = .ok (.goto (-49), 3) := by decide +kernel
theorem dX8_sumWeighted_62 : decode cX8_sumWeighted 62 = .ok (.return_, 1) := by decide +kernel
theorem dX8_sumSide_0 : decode cX8_sumSide 0 = .ok (.iload_n 1, 1) := by decide +kernel
theorem dX8_sumSide_1 : decode cX8_sumSide 1 = .ok (.invokestatic 112, 3) := by decide +kernel
theorem dX8_sumSide_4 : decode cX8_sumSide 4 = .ok (.ifCond .ne 6, 3) := by decide +kernel
theorem dX8_sumSide_7 : decode cX8_sumSide 7 = .ok (.bipush (-2), 2) := by decide +kernel
theorem dX8_sumSide_9 : decode cX8_sumSide 9 = .ok (.ireturn, 1) := by decide +kernel
theorem dX8_sumSide_10 : decode cX8_sumSide 10 = .ok (.aload_n 0, 1) := by decide +kernel
theorem dX8_sumSide_11 : decode cX8_sumSide 11 = .ok (.aload_n 0, 1) := by decide +kernel
theorem dX8_sumSide_12 : decode cX8_sumSide 12 = .ok (.getfield 28, 3) := by decide +kernel
theorem dX8_sumSide_15 : decode cX8_sumSide 15 = .ok (.invokevirtual 219, 3) := by decide +kernel
theorem dX8_sumSide_18 : decode cX8_sumSide 18 = .ok (.aload_n 0, 1) := by decide +kernel
theorem dX8_sumSide_19 : decode cX8_sumSide 19 = .ok (.iload_n 1, 1) := by decide +kernel
theorem dX8_sumSide_20 : decode cX8_sumSide 20 = .ok (.invokevirtual 133, 3) := by decide +kernel
theorem dX8_sumSide_23 : decode cX8_sumSide 23 = .ok (.ireturn, 1) := by decide +kernel
theorem dX8_productSide_0 : decode cX8_productSide 0 = .ok (.iload_n 1, 1) := by decide +kernel
theorem dX8_productSide_1 : decode cX8_productSide 1 = .ok (.invokestatic 112, 3) := by decide +kernel
theorem dX8_productSide_4 : decode cX8_productSide 4 = .ok (.ifCond .ne 6, 3) := by decide +kernel
theorem dX8_productSide_7 : decode cX8_productSide 7 = .ok (.bipush (-2), 2) := by decide +kernel
theorem dX8_productSide_9 : decode cX8_productSide 9 = .ok (.ireturn, 1) := by decide +kernel
theorem dX8_productSide_10 : decode cX8_productSide 10 = .ok (.aload_n 0, 1) := by decide +kernel
theorem dX8_productSide_11 : decode cX8_productSide 11 = .ok (.aload_n 0, 1) := by decide +kernel
theorem dX8_productSide_12 : decode cX8_productSide 12 = .ok (.getfield 25, 3) := by decide +kernel
theorem dX8_productSide_15 : decode cX8_productSide 15 = .ok (.invokevirtual 219, 3) := by decide +kernel
theorem dX8_productSide_18 : decode cX8_productSide 18 = .ok (.iconst 1, 1) := by decide +kernel
theorem dX8_productSide_19 : decode cX8_productSide 19 = .ok (.istore_n 2, 1) := by decide +kernel
theorem dX8_productSide_20 : decode cX8_productSide 20 = .ok (.aload_n 0, 1) := by decide +kernel
theorem dX8_productSide_21 : decode cX8_productSide 21 = .ok (.getfield 109, 3) := by decide +kernel
theorem dX8_productSide_24 : decode cX8_productSide 24 = .ok (.iload_n 2, 1) := by decide +kernel
theorem dX8_productSide_25 : decode cX8_productSide 25 = .ok (.iadd, 1) := by decide +kernel
theorem dX8_productSide_26 : decode cX8_productSide 26 = .ok (.aload_n 0, 1) := by decide +kernel
theorem dX8_productSide_27 : decode cX8_productSide 27 = .ok (.getfield 17, 3) := by decide +kernel
theorem dX8_productSide_30 : decode cX8_productSide 30 = .ok (.if_icmp .ge 24, 3) := by decide +kernel
theorem dX8_productSide_33 : decode cX8_productSide 33 = .ok (.aload_n 0, 1) := by decide +kernel
theorem dX8_productSide_34 : decode cX8_productSide 34 = .ok (.aload_n 0, 1) := by decide +kernel
theorem dX8_productSide_35 : decode cX8_productSide 35 = .ok (.getfield 34, 3) := by decide +kernel
theorem dX8_productSide_38 : decode cX8_productSide 38 = .ok (.aload_n 0, 1) := by decide +kernel
theorem dX8_productSide_39 : decode cX8_productSide 39 = .ok (.getfield 109, 3) := by decide +kernel
theorem dX8_productSide_42 : decode cX8_productSide 42 = .ok (.iload_n 2, 1) := by decide +kernel
theorem dX8_productSide_43 : decode cX8_productSide 43 = .ok (.iadd, 1) := by decide +kernel
theorem dX8_productSide_44 : decode cX8_productSide 44 = .ok (.iconst (-1), 1) := by decide +kernel
theorem dX8_productSide_45 : decode cX8_productSide 45 = .ok (.invokevirtual 89, 3) := by decide +kernel
theorem dX8_productSide_48 : decode cX8_productSide 48 = .ok (.iinc 2 1, 3) := by decide +kernel
theorem dX8_productSide_51 : decode cX8_productSide 51 = .ok (.goto (-31), 3) := by decide +kernel
theorem dX8_productSide_54 : decode cX8_productSide 54 = .ok (.aload_n 0, 1) := by decide +kernel
theorem dX8_productSide_55 : decode cX8_productSide 55 = .ok (.iload_n 1, 1) := by decide +kernel
theorem dX8_productSide_56 : decode cX8_productSide 56 = .ok (.invokevirtual 133, 3) := by decide +kernel
theorem dX8_productSide_59 : decode cX8_productSide 59 = .ok (.ireturn, 1) := by decide +kernel
theorem dX8_countPartitions_0 : decode cX8_countPartitions 0 = .ok (.iload_n 1, 1) := by decide +kernel
theorem dX8_countPartitions_1 : decode cX8_countPartitions 1 = .ok (.i2l, 1) := by decide +kernel
theorem dX8_countPartitions_2 : decode cX8_countPartitions 2 = .ok (.lconst 0, 1) := by decide +kernel
theorem dX8_countPartitions_3 : decode cX8_countPartitions 3 = .ok (.ldc2_w 222, 3) := by decide +kernel
theorem dX8_countPartitions_6 : decode cX8_countPartitions 6 = .ok (.invokestatic 7, 3) := by decide +kernel
theorem dX8_countPartitions_9 : decode cX8_countPartitions 9 = .ok (.ifCond .eq 11, 3) := by decide +kernel
theorem dX8_countPartitions_12 : decode cX8_countPartitions 12 = .ok (.iload_n 2, 1) := by decide +kernel
theorem dX8_countPartitions_13 : decode cX8_countPartitions 13 = .ok (.iload_n 3, 1) := by decide +kernel
theorem dX8_countPartitions_14 : decode cX8_countPartitions 14 = .ok (.invokestatic 152, 3) := by decide +kernel
theorem dX8_countPartitions_17 : decode cX8_countPartitions 17 = .ok (.ifCond .ne 7, 3) := by decide +kernel
theorem dX8_countPartitions_20 : decode cX8_countPartitions 20 = .ok (.ldc2_w 116, 3) := by decide +kernel
theorem dX8_countPartitions_23 : decode cX8_countPartitions 23 = .ok (.lreturn, 1) := by decide +kernel
theorem dX8_countPartitions_24 : decode cX8_countPartitions 24 = .ok (.iconst 0, 1) := by decide +kernel
theorem dX8_countPartitions_25 : decode cX8_countPartitions 25 = .ok (.istore 4, 2) := by decide +kernel
theorem dX8_countPartitions_27 : decode cX8_countPartitions 27 = .ok (.iload 4, 2) := by decide +kernel
theorem dX8_countPartitions_29 : decode cX8_countPartitions 29 = .ok (.iload_n 1, 1) := by decide +kernel
theorem dX8_countPartitions_30 : decode cX8_countPartitions 30 = .ok (.if_icmp .gt 26, 3) := by decide +kernel
theorem dX8_countPartitions_33 : decode cX8_countPartitions 33 = .ok (.aload_n 0, 1) := by decide +kernel
theorem dX8_countPartitions_34 : decode cX8_countPartitions 34 = .ok (.getfield 49, 3) := by decide +kernel
theorem dX8_countPartitions_37 : decode cX8_countPartitions 37 = .ok (.iload 4, 2) := by decide +kernel
theorem dX8_countPartitions_39 : decode cX8_countPartitions 39 = .ok (.iload 4, 2) := by decide +kernel
theorem dX8_countPartitions_41 : decode cX8_countPartitions 41 = .ok (.ifCond .ne 7, 3) := by decide +kernel
theorem dX8_countPartitions_44 : decode cX8_countPartitions 44 = .ok (.lconst 1, 1) := by decide +kernel
theorem dX8_countPartitions_45 : decode cX8_countPartitions 45 = .ok (.goto 4, 3) := by decide +kernel
theorem dX8_countPartitions_48 : decode cX8_countPartitions 48 = .ok (.lconst 0, 1) := by decide +kernel
theorem dX8_countPartitions_49 : decode cX8_countPartitions 49 = .ok (.lastore, 1) := by decide +kernel
theorem dX8_countPartitions_50 : decode cX8_countPartitions 50 = .ok (.iinc 4 1, 3) := by decide +kernel
theorem dX8_countPartitions_53 : decode cX8_countPartitions 53 = .ok (.goto (-26), 3) := by decide +kernel
theorem dX8_countPartitions_56 : decode cX8_countPartitions 56 = .ok (.iconst 1, 1) := by decide +kernel
theorem dX8_countPartitions_57 : decode cX8_countPartitions 57 = .ok (.istore 4, 2) := by decide +kernel
theorem dX8_countPartitions_59 : decode cX8_countPartitions 59 = .ok (.iload 4, 2) := by decide +kernel
theorem dX8_countPartitions_61 : decode cX8_countPartitions 61 = .ok (.iload_n 1, 1) := by decide +kernel
theorem dX8_countPartitions_62 : decode cX8_countPartitions 62 = .ok (.if_icmp .gt 57, 3) := by decide +kernel
theorem dX8_countPartitions_65 : decode cX8_countPartitions 65 = .ok (.iload 4, 2) := by decide +kernel
theorem dX8_countPartitions_67 : decode cX8_countPartitions 67 = .ok (.istore 5, 2) := by decide +kernel
theorem dX8_countPartitions_69 : decode cX8_countPartitions 69 = .ok (.iload 5, 2) := by decide +kernel
theorem dX8_countPartitions_71 : decode cX8_countPartitions 71 = .ok (.iload_n 1, 1) := by decide +kernel
theorem dX8_countPartitions_72 : decode cX8_countPartitions 72 = .ok (.if_icmp .gt 41, 3) := by decide +kernel
theorem dX8_countPartitions_75 : decode cX8_countPartitions 75 = .ok (.iload_n 3, 1) := by decide +kernel
theorem dX8_countPartitions_76 : decode cX8_countPartitions 76 = .ok (.iload 4, 2) := by decide +kernel
theorem dX8_countPartitions_78 : decode cX8_countPartitions 78 = .ok (.iload_n 2, 1) := by decide +kernel
theorem dX8_countPartitions_79 : decode cX8_countPartitions 79 = .ok (.irem, 1) := by decide +kernel
theorem dX8_countPartitions_80 : decode cX8_countPartitions 80 = .ok (.ishr, 1) := by decide +kernel
theorem dX8_countPartitions_81 : decode cX8_countPartitions 81 = .ok (.iconst 1, 1) := by decide +kernel
theorem dX8_countPartitions_82 : decode cX8_countPartitions 82 = .ok (.iand, 1) := by decide +kernel
theorem dX8_countPartitions_83 : decode cX8_countPartitions 83 = .ok (.iconst 1, 1) := by decide +kernel
theorem dX8_countPartitions_84 : decode cX8_countPartitions 84 = .ok (.if_icmp .ne 29, 3) := by decide +kernel
theorem dX8_countPartitions_87 : decode cX8_countPartitions 87 = .ok (.aload_n 0, 1) := by decide +kernel
theorem dX8_countPartitions_88 : decode cX8_countPartitions 88 = .ok (.getfield 49, 3) := by decide +kernel
theorem dX8_countPartitions_91 : decode cX8_countPartitions 91 = .ok (.iload 5, 2) := by decide +kernel
theorem dX8_countPartitions_93 : decode cX8_countPartitions 93 = .ok (.dup2, 1) := by decide +kernel
theorem dX8_countPartitions_94 : decode cX8_countPartitions 94 = .ok (.laload, 1) := by decide +kernel
theorem dX8_countPartitions_95 : decode cX8_countPartitions 95 = .ok (.aload_n 0, 1) := by decide +kernel
theorem dX8_countPartitions_96 : decode cX8_countPartitions 96 = .ok (.getfield 49, 3) := by decide +kernel
theorem dX8_countPartitions_99 : decode cX8_countPartitions 99 = .ok (.iload 5, 2) := by decide +kernel
theorem dX8_countPartitions_101 : decode cX8_countPartitions 101 = .ok (.iload 4, 2) := by decide +kernel
theorem dX8_countPartitions_103 : decode cX8_countPartitions 103 = .ok (.isub, 1) := by decide +kernel
theorem dX8_countPartitions_104 : decode cX8_countPartitions 104 = .ok (.laload, 1) := by decide +kernel
theorem dX8_countPartitions_105 : decode cX8_countPartitions 105 = .ok (.ladd, 1) := by decide +kernel
theorem dX8_countPartitions_106 : decode cX8_countPartitions 106 = .ok (.lastore, 1) := by decide +kernel
theorem dX8_countPartitions_107 : decode cX8_countPartitions 107 = .ok (.iinc 5 1, 3) := by decide +kernel
theorem dX8_countPartitions_110 : decode cX8_countPartitions 110 = .ok (.goto (-41), 3) := by decide +kernel
theorem dX8_countPartitions_113 : decode cX8_countPartitions 113 = .ok (.iinc 4 1, 3) := by decide +kernel
theorem dX8_countPartitions_116 : decode cX8_countPartitions 116 = .ok (.goto (-57), 3) := by decide +kernel
theorem dX8_countPartitions_119 : decode cX8_countPartitions 119 = .ok (.aload_n 0, 1) := by decide +kernel
theorem dX8_countPartitions_120 : decode cX8_countPartitions 120 = .ok (.getfield 49, 3) := by decide +kernel
theorem dX8_countPartitions_123 : decode cX8_countPartitions 123 = .ok (.iload_n 1, 1) := by decide +kernel
theorem dX8_countPartitions_124 : decode cX8_countPartitions 124 = .ok (.laload, 1) := by decide +kernel
theorem dX8_countPartitions_125 : decode cX8_countPartitions 125 = .ok (.lreturn, 1) := by decide +kernel
theorem dX8_isNext_0 : decode cX8_isNext 0 = .ok (.bipush 15, 2) := by decide +kernel
theorem dX8_isNext_2 : decode cX8_isNext 2 = .ok (.istore_n 1, 1) := by decide +kernel
theorem dX8_isNext_3 : decode cX8_isNext 3 = .ok (.iconst 0, 1) := by decide +kernel
theorem dX8_isNext_4 : decode cX8_isNext 4 = .ok (.istore_n 2, 1) := by decide +kernel
theorem dX8_isNext_5 : decode cX8_isNext 5 = .ok (.iload_n 1, 1) := by decide +kernel
theorem dX8_isNext_6 : decode cX8_isNext 6 = .ok (.ifCond .lt 35, 3) := by decide +kernel
theorem dX8_isNext_9 : decode cX8_isNext 9 = .ok (.aload_n 0, 1) := by decide +kernel
theorem dX8_isNext_10 : decode cX8_isNext 10 = .ok (.getfield 56, 3) := by decide +kernel
theorem dX8_isNext_13 : decode cX8_isNext 13 = .ok (.iload_n 1, 1) := by decide +kernel
theorem dX8_isNext_14 : decode cX8_isNext 14 = .ok (.iaload, 1) := by decide +kernel
theorem dX8_isNext_15 : decode cX8_isNext 15 = .ok (.iconst 2, 1) := by decide +kernel
theorem dX8_isNext_16 : decode cX8_isNext 16 = .ok (.if_icmp .ge 25, 3) := by decide +kernel
theorem dX8_isNext_19 : decode cX8_isNext 19 = .ok (.iload_n 2, 1) := by decide +kernel
theorem dX8_isNext_20 : decode cX8_isNext 20 = .ok (.aload_n 0, 1) := by decide +kernel
theorem dX8_isNext_21 : decode cX8_isNext 21 = .ok (.getfield 56, 3) := by decide +kernel
theorem dX8_isNext_24 : decode cX8_isNext 24 = .ok (.iload_n 1, 1) := by decide +kernel
theorem dX8_isNext_25 : decode cX8_isNext 25 = .ok (.iaload, 1) := by decide +kernel
theorem dX8_isNext_26 : decode cX8_isNext 26 = .ok (.iadd, 1) := by decide +kernel
theorem dX8_isNext_27 : decode cX8_isNext 27 = .ok (.istore_n 2, 1) := by decide +kernel
theorem dX8_isNext_28 : decode cX8_isNext 28 = .ok (.aload_n 0, 1) := by decide +kernel
theorem dX8_isNext_29 : decode cX8_isNext 29 = .ok (.getfield 56, 3) := by decide +kernel
theorem dX8_isNext_32 : decode cX8_isNext 32 = .ok (.iload_n 1, 1) := by decide +kernel
theorem dX8_isNext_33 : decode cX8_isNext 33 = .ok (.iconst 0, 1) := by decide +kernel
theorem dX8_isNext_34 : decode cX8_isNext 34 = .ok (.iastore, 1) := by decide +kernel
theorem dX8_isNext_35 : decode cX8_isNext 35 = .ok (.iinc 1 (-1), 3) := by decide +kernel
theorem dX8_isNext_38 : decode cX8_isNext 38 = .ok (.goto (-33), 3) := by decide +kernel
theorem dX8_isNext_41 : decode cX8_isNext 41 = .ok (.iload_n 1, 1) := by decide +kernel
theorem dX8_isNext_42 : decode cX8_isNext 42 = .ok (.ifCond .ge 5, 3) := by decide +kernel
theorem dX8_isNext_45 : decode cX8_isNext 45 = .ok (.iconst 0, 1) := by decide +kernel
theorem dX8_isNext_46 : decode cX8_isNext 46 = .ok (.ireturn, 1) := by decide +kernel
theorem dX8_isNext_47 : decode cX8_isNext 47 = .ok (.aload_n 0, 1) := by decide +kernel
theorem dX8_isNext_48 : decode cX8_isNext 48 = .ok (.getfield 56, 3) := by decide +kernel
theorem dX8_isNext_51 : decode cX8_isNext 51 = .ok (.iload_n 1, 1) := by decide +kernel
theorem dX8_isNext_52 : decode cX8_isNext 52 = .ok (.dup2, 1) := by decide +kernel
theorem dX8_isNext_53 : decode cX8_isNext 53 = .ok (.iaload, 1) := by decide +kernel
theorem dX8_isNext_54 : decode cX8_isNext 54 = .ok (.iconst 1, 1) := by decide +kernel
theorem dX8_isNext_55 : decode cX8_isNext 55 = .ok (.isub, 1) := by decide +kernel
theorem dX8_isNext_56 : decode cX8_isNext 56 = .ok (.iastore, 1) := by decide +kernel
theorem dX8_isNext_57 : decode cX8_isNext 57 = .ok (.iinc 2 1, 3) := by decide +kernel
theorem dX8_isNext_60 : decode cX8_isNext 60 = .ok (.aload_n 0, 1) := by decide +kernel
theorem dX8_isNext_61 : decode cX8_isNext 61 = .ok (.getfield 56, 3) := by decide +kernel
theorem dX8_isNext_64 : decode cX8_isNext 64 = .ok (.iload_n 1, 1) := by decide +kernel
theorem dX8_isNext_65 : decode cX8_isNext 65 = .ok (.iaload, 1) := by decide +kernel
theorem dX8_isNext_66 : decode cX8_isNext 66 = .ok (.istore_n 3, 1) := by decide +kernel
theorem dX8_isNext_67 : decode cX8_isNext 67 = .ok (.iload_n 2, 1) := by decide +kernel
theorem dX8_isNext_68 : decode cX8_isNext 68 = .ok (.ifCond .le 34, 3) := by decide +kernel
theorem dX8_isNext_71 : decode cX8_isNext 71 = .ok (.iinc 1 1, 3) := by decide +kernel
theorem dX8_isNext_74 : decode cX8_isNext 74 = .ok (.aload_n 0, 1) := by decide +kernel
theorem dX8_isNext_75 : decode cX8_isNext 75 = .ok (.getfield 56, 3) := by decide +kernel
theorem dX8_isNext_78 : decode cX8_isNext 78 = .ok (.iload_n 1, 1) := by decide +kernel
theorem dX8_isNext_79 : decode cX8_isNext 79 = .ok (.iload_n 2, 1) := by decide +kernel
theorem dX8_isNext_80 : decode cX8_isNext 80 = .ok (.iload_n 3, 1) := by decide +kernel
theorem dX8_isNext_81 : decode cX8_isNext 81 = .ok (.if_icmp .ge 7, 3) := by decide +kernel
theorem dX8_isNext_84 : decode cX8_isNext 84 = .ok (.iload_n 2, 1) := by decide +kernel
theorem dX8_isNext_85 : decode cX8_isNext 85 = .ok (.goto 4, 3) := by decide +kernel
theorem dX8_isNext_88 : decode cX8_isNext 88 = .ok (.iload_n 3, 1) := by decide +kernel
theorem dX8_isNext_89 : decode cX8_isNext 89 = .ok (.iastore, 1) := by decide +kernel
theorem dX8_isNext_90 : decode cX8_isNext 90 = .ok (.iload_n 2, 1) := by decide +kernel
theorem dX8_isNext_91 : decode cX8_isNext 91 = .ok (.aload_n 0, 1) := by decide +kernel
theorem dX8_isNext_92 : decode cX8_isNext 92 = .ok (.getfield 56, 3) := by decide +kernel
theorem dX8_isNext_95 : decode cX8_isNext 95 = .ok (.iload_n 1, 1) := by decide +kernel
theorem dX8_isNext_96 : decode cX8_isNext 96 = .ok (.iaload, 1) := by decide +kernel
theorem dX8_isNext_97 : decode cX8_isNext 97 = .ok (.isub, 1) := by decide +kernel
theorem dX8_isNext_98 : decode cX8_isNext 98 = .ok (.istore_n 2, 1) := by decide +kernel
theorem dX8_isNext_99 : decode cX8_isNext 99 = .ok (.goto (-32), 3) := by decide +kernel
theorem dX8_isNext_102 : decode cX8_isNext 102 = .ok (.iconst 1, 1) := by decide +kernel
theorem dX8_isNext_103 : decode cX8_isNext 103 = .ok (.ireturn, 1) := by decide +kernel
theorem dX8_listPartitions_0 : decode cX8_listPartitions 0 = .ok (.iload_n 1, 1) := by decide +kernel
theorem dX8_listPartitions_1 : decode cX8_listPartitions 1 = .ok (.i2l, 1) := by decide +kernel
theorem dX8_listPartitions_2 : decode cX8_listPartitions 2 = .ok (.lconst 1, 1) := by decide +kernel
theorem dX8_listPartitions_3 : decode cX8_listPartitions 3 = .ok (.ldc2_w 224, 3) := by decide +kernel
theorem dX8_listPartitions_6 : decode cX8_listPartitions 6 = .ok (.invokestatic 7, 3) := by decide +kernel
theorem dX8_listPartitions_9 : decode cX8_listPartitions 9 = .ok (.ifCond .ne 5, 3) := by decide +kernel
theorem dX8_listPartitions_12 : decode cX8_listPartitions 12 = .ok (.iconst (-1), 1) := by decide +kernel
theorem dX8_listPartitions_13 : decode cX8_listPartitions 13 = .ok (.ireturn, 1) := by decide +kernel
theorem dX8_listPartitions_14 : decode cX8_listPartitions 14 = .ok (.iconst 0, 1) := by decide +kernel
theorem dX8_listPartitions_15 : decode cX8_listPartitions 15 = .ok (.istore_n 2, 1) := by decide +kernel
theorem dX8_listPartitions_16 : decode cX8_listPartitions 16 = .ok (.iload_n 2, 1) := by decide +kernel
theorem dX8_listPartitions_17 : decode cX8_listPartitions 17 = .ok (.bipush 16, 2) := by decide +kernel
theorem dX8_listPartitions_19 : decode cX8_listPartitions 19 = .ok (.if_icmp .ge 24, 3) := by decide +kernel
theorem dX8_listPartitions_22 : decode cX8_listPartitions 22 = .ok (.aload_n 0, 1) := by decide +kernel
theorem dX8_listPartitions_23 : decode cX8_listPartitions 23 = .ok (.getfield 56, 3) := by decide +kernel
theorem dX8_listPartitions_26 : decode cX8_listPartitions 26 = .ok (.iload_n 2, 1) := by decide +kernel
theorem dX8_listPartitions_27 : decode cX8_listPartitions 27 = .ok (.iload_n 2, 1) := by decide +kernel
theorem dX8_listPartitions_28 : decode cX8_listPartitions 28 = .ok (.ifCond .ne 7, 3) := by decide +kernel
theorem dX8_listPartitions_31 : decode cX8_listPartitions 31 = .ok (.iload_n 1, 1) := by decide +kernel
theorem dX8_listPartitions_32 : decode cX8_listPartitions 32 = .ok (.goto 4, 3) := by decide +kernel
theorem dX8_listPartitions_35 : decode cX8_listPartitions 35 = .ok (.iconst 0, 1) := by decide +kernel
theorem dX8_listPartitions_36 : decode cX8_listPartitions 36 = .ok (.iastore, 1) := by decide +kernel
theorem dX8_listPartitions_37 : decode cX8_listPartitions 37 = .ok (.iinc 2 1, 3) := by decide +kernel
theorem dX8_listPartitions_40 : decode cX8_listPartitions 40 = .ok (.goto (-24), 3) := by decide +kernel
theorem dX8_listPartitions_43 : decode cX8_listPartitions 43 = .ok (.aload_n 0, 1) := by decide +kernel
theorem dX8_listPartitions_44 : decode cX8_listPartitions 44 = .ok (.iconst 0, 1) := by decide +kernel
theorem dX8_listPartitions_45 : decode cX8_listPartitions 45 = .ok (.putfield 226, 3) := by decide +kernel
theorem dX8_listPartitions_48 : decode cX8_listPartitions 48 = .ok (.iconst 0, 1) := by decide +kernel
theorem dX8_listPartitions_49 : decode cX8_listPartitions 49 = .ok (.istore_n 2, 1) := by decide +kernel
theorem dX8_listPartitions_50 : decode cX8_listPartitions 50 = .ok (.iload_n 2, 1) := by decide +kernel
theorem dX8_listPartitions_51 : decode cX8_listPartitions 51 = .ok (.bipush 16, 2) := by decide +kernel
theorem dX8_listPartitions_53 : decode cX8_listPartitions 53 = .ok (.if_icmp .ge 29, 3) := by decide +kernel
theorem dX8_listPartitions_56 : decode cX8_listPartitions 56 = .ok (.aload_n 0, 1) := by decide +kernel
theorem dX8_listPartitions_57 : decode cX8_listPartitions 57 = .ok (.getfield 52, 3) := by decide +kernel
theorem dX8_listPartitions_60 : decode cX8_listPartitions 60 = .ok (.bipush 16, 2) := by decide +kernel
theorem dX8_listPartitions_62 : decode cX8_listPartitions 62 = .ok (.aload_n 0, 1) := by decide +kernel
theorem dX8_listPartitions_63 : decode cX8_listPartitions 63 = .ok (.getfield 226, 3) := by decide +kernel
theorem dX8_listPartitions_66 : decode cX8_listPartitions 66 = .ok (.imul, 1) := by decide +kernel
theorem dX8_listPartitions_67 : decode cX8_listPartitions 67 = .ok (.iload_n 2, 1) := by decide +kernel
theorem dX8_listPartitions_68 : decode cX8_listPartitions 68 = .ok (.iadd, 1) := by decide +kernel
theorem dX8_listPartitions_69 : decode cX8_listPartitions 69 = .ok (.aload_n 0, 1) := by decide +kernel
theorem dX8_listPartitions_70 : decode cX8_listPartitions 70 = .ok (.getfield 56, 3) := by decide +kernel
theorem dX8_listPartitions_73 : decode cX8_listPartitions 73 = .ok (.iload_n 2, 1) := by decide +kernel
theorem dX8_listPartitions_74 : decode cX8_listPartitions 74 = .ok (.iaload, 1) := by decide +kernel
theorem dX8_listPartitions_75 : decode cX8_listPartitions 75 = .ok (.iastore, 1) := by decide +kernel
theorem dX8_listPartitions_76 : decode cX8_listPartitions 76 = .ok (.iinc 2 1, 3) := by decide +kernel
theorem dX8_listPartitions_79 : decode cX8_listPartitions 79 = .ok (.goto (-29), 3) := by decide +kernel
theorem dX8_listPartitions_82 : decode cX8_listPartitions 82 = .ok (.aload_n 0, 1) := by decide +kernel
theorem dX8_listPartitions_83 : decode cX8_listPartitions 83 = .ok (.dup, 1) := by decide +kernel
theorem dX8_listPartitions_84 : decode cX8_listPartitions 84 = .ok (.getfield 226, 3) := by decide +kernel
theorem dX8_listPartitions_87 : decode cX8_listPartitions 87 = .ok (.iconst 1, 1) := by decide +kernel
theorem dX8_listPartitions_88 : decode cX8_listPartitions 88 = .ok (.iadd, 1) := by decide +kernel
theorem dX8_listPartitions_89 : decode cX8_listPartitions 89 = .ok (.putfield 226, 3) := by decide +kernel
theorem dX8_listPartitions_92 : decode cX8_listPartitions 92 = .ok (.aload_n 0, 1) := by decide +kernel
theorem dX8_listPartitions_93 : decode cX8_listPartitions 93 = .ok (.invokevirtual 229, 3) := by decide +kernel
theorem dX8_listPartitions_96 : decode cX8_listPartitions 96 = .ok (.ifCond .ne (-48), 3) := by decide +kernel
theorem dX8_listPartitions_99 : decode cX8_listPartitions 99 = .ok (.aload_n 0, 1) := by decide +kernel
theorem dX8_listPartitions_100 : decode cX8_listPartitions 100 = .ok (.getfield 226, 3) := by decide +kernel
theorem dX8_listPartitions_103 : decode cX8_listPartitions 103 = .ok (.ireturn, 1) := by decide +kernel
theorem dX8_partAt_0 : decode cX8_partAt 0 = .ok (.iload_n 2, 1) := by decide +kernel
theorem dX8_partAt_1 : decode cX8_partAt 1 = .ok (.bipush 16, 2) := by decide +kernel
theorem dX8_partAt_3 : decode cX8_partAt 3 = .ok (.if_icmp .ge 17, 3) := by decide +kernel
theorem dX8_partAt_6 : decode cX8_partAt 6 = .ok (.aload_n 0, 1) := by decide +kernel
theorem dX8_partAt_7 : decode cX8_partAt 7 = .ok (.getfield 52, 3) := by decide +kernel
theorem dX8_partAt_10 : decode cX8_partAt 10 = .ok (.bipush 16, 2) := by decide +kernel
theorem dX8_partAt_12 : decode cX8_partAt 12 = .ok (.iload_n 1, 1) := by decide +kernel
theorem dX8_partAt_13 : decode cX8_partAt 13 = .ok (.imul, 1) := by decide +kernel
theorem dX8_partAt_14 : decode cX8_partAt 14 = .ok (.iload_n 2, 1) := by decide +kernel
theorem dX8_partAt_15 : decode cX8_partAt 15 = .ok (.iadd, 1) := by decide +kernel
theorem dX8_partAt_16 : decode cX8_partAt 16 = .ok (.iaload, 1) := by decide +kernel
theorem dX8_partAt_17 : decode cX8_partAt 17 = .ok (.goto 4, 3) := by decide +kernel
theorem dX8_partAt_20 : decode cX8_partAt 20 = .ok (.iconst 0, 1) := by decide +kernel
theorem dX8_partAt_21 : decode cX8_partAt 21 = .ok (.ireturn, 1) := by decide +kernel
theorem dX8_partCount_0 : decode cX8_partCount 0 = .ok (.iconst 0, 1) := by decide +kernel
theorem dX8_partCount_1 : decode cX8_partCount 1 = .ok (.istore_n 2, 1) := by decide +kernel
theorem dX8_partCount_2 : decode cX8_partCount 2 = .ok (.aload_n 0, 1) := by decide +kernel
theorem dX8_partCount_3 : decode cX8_partCount 3 = .ok (.iload_n 1, 1) := by decide +kernel
theorem dX8_partCount_4 : decode cX8_partCount 4 = .ok (.iload_n 2, 1) := by decide +kernel
theorem dX8_partCount_5 : decode cX8_partCount 5 = .ok (.invokevirtual 232, 3) := by decide +kernel
theorem dX8_partCount_8 : decode cX8_partCount 8 = .ok (.ifCond .le 9, 3) := by decide +kernel
theorem dX8_partCount_11 : decode cX8_partCount 11 = .ok (.iinc 2 1, 3) := by decide +kernel
theorem dX8_partCount_14 : decode cX8_partCount 14 = .ok (.goto (-12), 3) := by decide +kernel
theorem dX8_partCount_17 : decode cX8_partCount 17 = .ok (.iload_n 2, 1) := by decide +kernel
theorem dX8_partCount_18 : decode cX8_partCount 18 = .ok (.ireturn, 1) := by decide +kernel
theorem dX8_isSelfConjugate_0 : decode cX8_isSelfConjugate 0 = .ok (.iconst 1, 1) := by decide +kernel
theorem dX8_isSelfConjugate_1 : decode cX8_isSelfConjugate 1 = .ok (.istore_n 2, 1) := by decide +kernel
theorem dX8_isSelfConjugate_2 : decode cX8_isSelfConjugate 2 = .ok (.iconst 1, 1) := by decide +kernel
theorem dX8_isSelfConjugate_3 : decode cX8_isSelfConjugate 3 = .ok (.istore_n 3, 1) := by decide +kernel
theorem dX8_isSelfConjugate_4 : decode cX8_isSelfConjugate 4 = .ok (.iload_n 3, 1) := by decide +kernel
theorem dX8_isSelfConjugate_5 : decode cX8_isSelfConjugate 5 = .ok (.bipush 16, 2) := by decide +kernel
theorem dX8_isSelfConjugate_7 : decode cX8_isSelfConjugate 7 = .ok (.if_icmp .gt 73, 3) := by decide +kernel
theorem dX8_isSelfConjugate_10 : decode cX8_isSelfConjugate 10 = .ok (.iconst 0, 1) := by decide +kernel
theorem dX8_isSelfConjugate_11 : decode cX8_isSelfConjugate 11 = .ok (.istore 4, 2) := by decide +kernel
theorem dX8_isSelfConjugate_13 : decode cX8_isSelfConjugate 13 = .ok (.iconst 0, 1) := by decide +kernel
theorem dX8_isSelfConjugate_14 : decode cX8_isSelfConjugate 14 = .ok (.istore 5, 2) := by decide +kernel
theorem dX8_isSelfConjugate_16 : decode cX8_isSelfConjugate 16 = .ok (.iload 5, 2) := by decide +kernel
theorem dX8_isSelfConjugate_18 : decode cX8_isSelfConjugate 18 = .ok (.aload_n 0, 1) := by decide +kernel
theorem dX8_isSelfConjugate_19 : decode cX8_isSelfConjugate 19 = .ok (.iload_n 1, 1) := by decide +kernel
theorem dX8_isSelfConjugate_20 : decode cX8_isSelfConjugate 20 = .ok (.invokevirtual 236, 3) := by decide +kernel
theorem dX8_isSelfConjugate_23 : decode cX8_isSelfConjugate 23 = .ok (.if_icmp .ge 30, 3) := by decide +kernel
theorem dX8_isSelfConjugate_26 : decode cX8_isSelfConjugate 26 = .ok (.iload 4, 2) := by decide +kernel
theorem dX8_isSelfConjugate_28 : decode cX8_isSelfConjugate 28 = .ok (.aload_n 0, 1) := by decide +kernel
theorem dX8_isSelfConjugate_29 : decode cX8_isSelfConjugate 29 = .ok (.iload_n 1, 1) := by decide +kernel
theorem dX8_isSelfConjugate_30 : decode cX8_isSelfConjugate 30 = .ok (.iload 5, 2) := by decide +kernel
theorem dX8_isSelfConjugate_32 : decode cX8_isSelfConjugate 32 = .ok (.invokevirtual 232, 3) := by decide +kernel
theorem dX8_isSelfConjugate_35 : decode cX8_isSelfConjugate 35 = .ok (.iload_n 3, 1) := by decide +kernel
theorem dX8_isSelfConjugate_36 : decode cX8_isSelfConjugate 36 = .ok (.if_icmp .lt 7, 3) := by decide +kernel
theorem dX8_isSelfConjugate_39 : decode cX8_isSelfConjugate 39 = .ok (.iconst 1, 1) := by decide +kernel
theorem dX8_isSelfConjugate_40 : decode cX8_isSelfConjugate 40 = .ok (.goto 4, 3) := by decide +kernel
theorem dX8_isSelfConjugate_43 : decode cX8_isSelfConjugate 43 = .ok (.iconst 0, 1) := by decide +kernel
theorem dX8_isSelfConjugate_44 : decode cX8_isSelfConjugate 44 = .ok (.iadd, 1) := by decide +kernel
theorem dX8_isSelfConjugate_45 : decode cX8_isSelfConjugate 45 = .ok (.istore 4, 2) := by decide +kernel
theorem dX8_isSelfConjugate_47 : decode cX8_isSelfConjugate 47 = .ok (.iinc 5 1, 3) := by decide +kernel
theorem dX8_isSelfConjugate_50 : decode cX8_isSelfConjugate 50 = .ok (.goto (-34), 3) := by decide +kernel
theorem dX8_isSelfConjugate_53 : decode cX8_isSelfConjugate 53 = .ok (.iload_n 2, 1) := by decide +kernel
theorem dX8_isSelfConjugate_54 : decode cX8_isSelfConjugate 54 = .ok (.iload 4, 2) := by decide +kernel
theorem dX8_isSelfConjugate_56 : decode cX8_isSelfConjugate 56 = .ok (.aload_n 0, 1) := by decide +kernel
theorem dX8_isSelfConjugate_57 : decode cX8_isSelfConjugate 57 = .ok (.iload_n 1, 1) := by decide +kernel
theorem dX8_isSelfConjugate_58 : decode cX8_isSelfConjugate 58 = .ok (.iload_n 3, 1) := by decide +kernel
theorem dX8_isSelfConjugate_59 : decode cX8_isSelfConjugate 59 = .ok (.iconst 1, 1) := by decide +kernel
theorem dX8_isSelfConjugate_60 : decode cX8_isSelfConjugate 60 = .ok (.isub, 1) := by decide +kernel
theorem dX8_isSelfConjugate_61 : decode cX8_isSelfConjugate 61 = .ok (.invokevirtual 232, 3) := by decide +kernel
theorem dX8_isSelfConjugate_64 : decode cX8_isSelfConjugate 64 = .ok (.if_icmp .ne 7, 3) := by decide +kernel
theorem dX8_isSelfConjugate_67 : decode cX8_isSelfConjugate 67 = .ok (.iconst 1, 1) := by decide +kernel
theorem dX8_isSelfConjugate_68 : decode cX8_isSelfConjugate 68 = .ok (.goto 4, 3) := by decide +kernel
theorem dX8_isSelfConjugate_71 : decode cX8_isSelfConjugate 71 = .ok (.iconst 0, 1) := by decide +kernel
theorem dX8_isSelfConjugate_72 : decode cX8_isSelfConjugate 72 = .ok (.iand, 1) := by decide +kernel
theorem dX8_isSelfConjugate_73 : decode cX8_isSelfConjugate 73 = .ok (.istore_n 2, 1) := by decide +kernel
theorem dX8_isSelfConjugate_74 : decode cX8_isSelfConjugate 74 = .ok (.iinc 3 1, 3) := by decide +kernel
theorem dX8_isSelfConjugate_77 : decode cX8_isSelfConjugate 77 = .ok (.goto (-73), 3) := by decide +kernel
theorem dX8_isSelfConjugate_80 : decode cX8_isSelfConjugate 80 = .ok (.iload_n 2, 1) := by decide +kernel
theorem dX8_isSelfConjugate_81 : decode cX8_isSelfConjugate 81 = .ok (.ireturn, 1) := by decide +kernel
theorem dX8_passes_0 : decode cX8_passes 0 = .ok (.iload_n 2, 1) := by decide +kernel
theorem dX8_passes_1 : decode cX8_passes 1 = .ok (.iconst 4, 1) := by decide +kernel
theorem dX8_passes_2 : decode cX8_passes 2 = .ok (.if_icmp .ne 19, 3) := by decide +kernel
theorem dX8_passes_5 : decode cX8_passes 5 = .ok (.aload_n 0, 1) := by decide +kernel
theorem dX8_passes_6 : decode cX8_passes 6 = .ok (.iload_n 1, 1) := by decide +kernel
theorem dX8_passes_7 : decode cX8_passes 7 = .ok (.invokevirtual 236, 3) := by decide +kernel
theorem dX8_passes_10 : decode cX8_passes 10 = .ok (.iconst 2, 1) := by decide +kernel
theorem dX8_passes_11 : decode cX8_passes 11 = .ok (.irem, 1) := by decide +kernel
theorem dX8_passes_12 : decode cX8_passes 12 = .ok (.ifCond .ne 7, 3) := by decide +kernel
theorem dX8_passes_15 : decode cX8_passes 15 = .ok (.iconst 1, 1) := by decide +kernel
theorem dX8_passes_16 : decode cX8_passes 16 = .ok (.goto 4, 3) := by decide +kernel
theorem dX8_passes_19 : decode cX8_passes 19 = .ok (.iconst 0, 1) := by decide +kernel
theorem dX8_passes_20 : decode cX8_passes 20 = .ok (.ireturn, 1) := by decide +kernel
theorem dX8_passes_21 : decode cX8_passes 21 = .ok (.iload_n 2, 1) := by decide +kernel
theorem dX8_passes_22 : decode cX8_passes 22 = .ok (.iconst 5, 1) := by decide +kernel
theorem dX8_passes_23 : decode cX8_passes 23 = .ok (.if_icmp .ne 9, 3) := by decide +kernel
theorem dX8_passes_26 : decode cX8_passes 26 = .ok (.aload_n 0, 1) := by decide +kernel
theorem dX8_passes_27 : decode cX8_passes 27 = .ok (.iload_n 1, 1) := by decide +kernel
theorem dX8_passes_28 : decode cX8_passes 28 = .ok (.invokevirtual 239, 3) := by decide +kernel
theorem dX8_passes_31 : decode cX8_passes 31 = .ok (.ireturn, 1) := by decide +kernel
theorem dX8_passes_32 : decode cX8_passes 32 = .ok (.iconst 1, 1) := by decide +kernel
theorem dX8_passes_33 : decode cX8_passes 33 = .ok (.istore_n 3, 1) := by decide +kernel
theorem dX8_passes_34 : decode cX8_passes 34 = .ok (.iconst 0, 1) := by decide +kernel
theorem dX8_passes_35 : decode cX8_passes 35 = .ok (.istore 4, 2) := by decide +kernel
theorem dX8_passes_37 : decode cX8_passes 37 = .ok (.iload 4, 2) := by decide +kernel
theorem dX8_passes_39 : decode cX8_passes 39 = .ok (.aload_n 0, 1) := by decide +kernel
theorem dX8_passes_40 : decode cX8_passes 40 = .ok (.iload_n 1, 1) := by decide +kernel
theorem dX8_passes_41 : decode cX8_passes 41 = .ok (.invokevirtual 236, 3) := by decide +kernel
theorem dX8_passes_44 : decode cX8_passes 44 = .ok (.if_icmp .ge 115, 3) := by decide +kernel
theorem dX8_passes_47 : decode cX8_passes 47 = .ok (.aload_n 0, 1) := by decide +kernel
theorem dX8_passes_48 : decode cX8_passes 48 = .ok (.iload_n 1, 1) := by decide +kernel
theorem dX8_passes_49 : decode cX8_passes 49 = .ok (.iload 4, 2) := by decide +kernel
theorem dX8_passes_51 : decode cX8_passes 51 = .ok (.invokevirtual 232, 3) := by decide +kernel
theorem dX8_passes_54 : decode cX8_passes 54 = .ok (.istore 5, 2) := by decide +kernel
theorem dX8_passes_56 : decode cX8_passes 56 = .ok (.aload_n 0, 1) := by decide +kernel
theorem dX8_passes_57 : decode cX8_passes 57 = .ok (.iload_n 1, 1) := by decide +kernel
theorem dX8_passes_58 : decode cX8_passes 58 = .ok (.iload 4, 2) := by decide +kernel
theorem dX8_passes_60 : decode cX8_passes 60 = .ok (.iconst 1, 1) := by decide +kernel
theorem dX8_passes_61 : decode cX8_passes 61 = .ok (.iadd, 1) := by decide +kernel
theorem dX8_passes_62 : decode cX8_passes 62 = .ok (.invokevirtual 232, 3) := by decide +kernel
theorem dX8_passes_65 : decode cX8_passes 65 = .ok (.istore 6, 2) := by decide +kernel
theorem dX8_passes_67 : decode cX8_passes 67 = .ok (.iload_n 3, 1) := by decide +kernel
theorem dX8_passes_68 : decode cX8_passes 68 = .ok (.iload_n 2, 1) := by decide +kernel
theorem dX8_passes_69 : decode cX8_passes 69 = .ok (.ifCond .ne 23, 3) := by decide +kernel
theorem dX8_passes_72 : decode cX8_passes 72 = .ok (.iload 6, 2) := by decide +kernel
theorem dX8_passes_74 : decode cX8_passes 74 = .ok (.ifCond .eq 10, 3) := by decide +kernel
theorem dX8_passes_77 : decode cX8_passes 77 = .ok (.iload 5, 2) := by decide +kernel
theorem dX8_passes_79 : decode cX8_passes 79 = .ok (.iload 6, 2) := by decide +kernel
theorem dX8_passes_81 : decode cX8_passes 81 = .ok (.if_icmp .le 7, 3) := by decide +kernel
theorem dX8_passes_84 : decode cX8_passes 84 = .ok (.iconst 1, 1) := by decide +kernel
theorem dX8_passes_85 : decode cX8_passes 85 = .ok (.goto 66, 3) := by decide +kernel
theorem dX8_passes_88 : decode cX8_passes 88 = .ok (.iconst 0, 1) := by decide +kernel
theorem dX8_passes_89 : decode cX8_passes 89 = .ok (.goto 62, 3) := by decide +kernel
theorem dX8_passes_92 : decode cX8_passes 92 = .ok (.iload_n 2, 1) := by decide +kernel
theorem dX8_passes_93 : decode cX8_passes 93 = .ok (.iconst 1, 1) := by decide +kernel
theorem dX8_passes_94 : decode cX8_passes 94 = .ok (.if_icmp .ne 19, 3) := by decide +kernel
theorem dX8_passes_97 : decode cX8_passes 97 = .ok (.iload 5, 2) := by decide +kernel
theorem dX8_passes_99 : decode cX8_passes 99 = .ok (.iconst 2, 1) := by decide +kernel
theorem dX8_passes_100 : decode cX8_passes 100 = .ok (.irem, 1) := by decide +kernel
theorem dX8_passes_101 : decode cX8_passes 101 = .ok (.iconst 1, 1) := by decide +kernel
theorem dX8_passes_102 : decode cX8_passes 102 = .ok (.if_icmp .ne 7, 3) := by decide +kernel
theorem dX8_passes_105 : decode cX8_passes 105 = .ok (.iconst 1, 1) := by decide +kernel
theorem dX8_passes_106 : decode cX8_passes 106 = .ok (.goto 45, 3) := by decide +kernel
theorem dX8_passes_109 : decode cX8_passes 109 = .ok (.iconst 0, 1) := by decide +kernel
theorem dX8_passes_110 : decode cX8_passes 110 = .ok (.goto 41, 3) := by decide +kernel
theorem dX8_passes_113 : decode cX8_passes 113 = .ok (.iload_n 2, 1) := by decide +kernel
theorem dX8_passes_114 : decode cX8_passes 114 = .ok (.iconst 2, 1) := by decide +kernel
theorem dX8_passes_115 : decode cX8_passes 115 = .ok (.if_icmp .ne 25, 3) := by decide +kernel
theorem dX8_passes_118 : decode cX8_passes 118 = .ok (.iload 6, 2) := by decide +kernel
theorem dX8_passes_120 : decode cX8_passes 120 = .ok (.ifCond .eq 12, 3) := by decide +kernel
theorem dX8_passes_123 : decode cX8_passes 123 = .ok (.iload 5, 2) := by decide +kernel
theorem dX8_passes_125 : decode cX8_passes 125 = .ok (.iload 6, 2) := by decide +kernel
theorem dX8_passes_127 : decode cX8_passes 127 = .ok (.isub, 1) := by decide +kernel
theorem dX8_passes_128 : decode cX8_passes 128 = .ok (.iconst 2, 1) := by decide +kernel
theorem dX8_passes_129 : decode cX8_passes 129 = .ok (.if_icmp .lt 7, 3) := by decide +kernel
theorem dX8_passes_132 : decode cX8_passes 132 = .ok (.iconst 1, 1) := by decide +kernel
theorem dX8_passes_133 : decode cX8_passes 133 = .ok (.goto 18, 3) := by decide +kernel
theorem dX8_passes_136 : decode cX8_passes 136 = .ok (.iconst 0, 1) := by decide +kernel
theorem dX8_passes_137 : decode cX8_passes 137 = .ok (.goto 14, 3) := by decide +kernel
theorem dX8_passes_140 : decode cX8_passes 140 = .ok (.iload 5, 2) := by decide +kernel
theorem dX8_passes_142 : decode cX8_passes 142 = .ok (.iconst 1, 1) := by decide +kernel
theorem dX8_passes_143 : decode cX8_passes 143 = .ok (.if_icmp .eq 7, 3) := by decide +kernel
theorem dX8_passes_146 : decode cX8_passes 146 = .ok (.iconst 1, 1) := by decide +kernel
theorem dX8_passes_147 : decode cX8_passes 147 = .ok (.goto 4, 3) := by decide +kernel
theorem dX8_passes_150 : decode cX8_passes 150 = .ok (.iconst 0, 1) := by decide +kernel
theorem dX8_passes_151 : decode cX8_passes 151 = .ok (.iand, 1) := by decide +kernel
theorem dX8_passes_152 : decode cX8_passes 152 = .ok (.istore_n 3, 1) := by decide +kernel
theorem dX8_passes_153 : decode cX8_passes 153 = .ok (.iinc 4 1, 3) := by decide +kernel
theorem dX8_passes_156 : decode cX8_passes 156 = .ok (.goto (-119), 3) := by decide +kernel
theorem dX8_passes_159 : decode cX8_passes 159 = .ok (.iload_n 3, 1) := by decide +kernel
theorem dX8_passes_160 : decode cX8_passes 160 = .ok (.ireturn, 1) := by decide +kernel
theorem dX8_wordInInput_0 : decode cX8_wordInInput 0 = .ok (.iconst 0, 1) := by decide +kernel
theorem dX8_wordInInput_1 : decode cX8_wordInInput 1 = .ok (.istore_n 1, 1) := by decide +kernel
theorem dX8_wordInInput_2 : decode cX8_wordInInput 2 = .ok (.iload_n 1, 1) := by decide +kernel
theorem dX8_wordInInput_3 : decode cX8_wordInInput 3 = .ok (.bipush 6, 2) := by decide +kernel
theorem dX8_wordInInput_5 : decode cX8_wordInInput 5 = .ok (.if_icmp .ge 91, 3) := by decide +kernel
theorem dX8_wordInInput_8 : decode cX8_wordInInput 8 = .ok (.aload_n 0, 1) := by decide +kernel
theorem dX8_wordInInput_9 : decode cX8_wordInInput 9 = .ok (.getfield 242, 3) := by decide +kernel
theorem dX8_wordInInput_12 : decode cX8_wordInInput 12 = .ok (.aload_n 0, 1) := by decide +kernel
theorem dX8_wordInInput_13 : decode cX8_wordInInput 13 = .ok (.getfield 62, 3) := by decide +kernel
theorem dX8_wordInInput_16 : decode cX8_wordInInput 16 = .ok (.iload_n 1, 1) := by decide +kernel
theorem dX8_wordInInput_17 : decode cX8_wordInInput 17 = .ok (.iconst 1, 1) := by decide +kernel
theorem dX8_wordInInput_18 : decode cX8_wordInInput 18 = .ok (.iadd, 1) := by decide +kernel
theorem dX8_wordInInput_19 : decode cX8_wordInInput 19 = .ok (.iaload, 1) := by decide +kernel
theorem dX8_wordInInput_20 : decode cX8_wordInInput 20 = .ok (.aload_n 0, 1) := by decide +kernel
theorem dX8_wordInInput_21 : decode cX8_wordInInput 21 = .ok (.getfield 62, 3) := by decide +kernel
theorem dX8_wordInInput_24 : decode cX8_wordInInput 24 = .ok (.iload_n 1, 1) := by decide +kernel
theorem dX8_wordInInput_25 : decode cX8_wordInInput 25 = .ok (.iaload, 1) := by decide +kernel
theorem dX8_wordInInput_26 : decode cX8_wordInInput 26 = .ok (.isub, 1) := by decide +kernel
theorem dX8_wordInInput_27 : decode cX8_wordInInput 27 = .ok (.if_icmp .ne 7, 3) := by decide +kernel
theorem dX8_wordInInput_30 : decode cX8_wordInInput 30 = .ok (.iconst 1, 1) := by decide +kernel
theorem dX8_wordInInput_31 : decode cX8_wordInInput 31 = .ok (.goto 4, 3) := by decide +kernel
theorem dX8_wordInInput_34 : decode cX8_wordInInput 34 = .ok (.iconst 0, 1) := by decide +kernel
theorem dX8_wordInInput_35 : decode cX8_wordInInput 35 = .ok (.istore_n 2, 1) := by decide +kernel
theorem dX8_wordInInput_36 : decode cX8_wordInInput 36 = .ok (.iconst 0, 1) := by decide +kernel
theorem dX8_wordInInput_37 : decode cX8_wordInInput 37 = .ok (.istore_n 3, 1) := by decide +kernel
theorem dX8_wordInInput_38 : decode cX8_wordInInput 38 = .ok (.iload_n 2, 1) := by decide +kernel
theorem dX8_wordInInput_39 : decode cX8_wordInInput 39 = .ok (.ifCond .eq 45, 3) := by decide +kernel
theorem dX8_wordInInput_42 : decode cX8_wordInInput 42 = .ok (.iload_n 3, 1) := by decide +kernel
theorem dX8_wordInInput_43 : decode cX8_wordInInput 43 = .ok (.aload_n 0, 1) := by decide +kernel
theorem dX8_wordInInput_44 : decode cX8_wordInInput 44 = .ok (.getfield 242, 3) := by decide +kernel
theorem dX8_wordInInput_47 : decode cX8_wordInInput 47 = .ok (.if_icmp .ge 37, 3) := by decide +kernel
theorem dX8_wordInInput_50 : decode cX8_wordInInput 50 = .ok (.aload_n 0, 1) := by decide +kernel
theorem dX8_wordInInput_51 : decode cX8_wordInInput 51 = .ok (.getfield 65, 3) := by decide +kernel
theorem dX8_wordInInput_54 : decode cX8_wordInInput 54 = .ok (.iload_n 3, 1) := by decide +kernel
theorem dX8_wordInInput_55 : decode cX8_wordInInput 55 = .ok (.iaload, 1) := by decide +kernel
theorem dX8_wordInInput_56 : decode cX8_wordInInput 56 = .ok (.aload_n 0, 1) := by decide +kernel
theorem dX8_wordInInput_57 : decode cX8_wordInInput 57 = .ok (.getfield 59, 3) := by decide +kernel
theorem dX8_wordInInput_60 : decode cX8_wordInInput 60 = .ok (.aload_n 0, 1) := by decide +kernel
theorem dX8_wordInInput_61 : decode cX8_wordInInput 61 = .ok (.getfield 62, 3) := by decide +kernel
theorem dX8_wordInInput_64 : decode cX8_wordInInput 64 = .ok (.iload_n 1, 1) := by decide +kernel
theorem dX8_wordInInput_65 : decode cX8_wordInInput 65 = .ok (.iaload, 1) := by decide +kernel
theorem dX8_wordInInput_66 : decode cX8_wordInInput 66 = .ok (.iload_n 3, 1) := by decide +kernel
theorem dX8_wordInInput_67 : decode cX8_wordInInput 67 = .ok (.iadd, 1) := by decide +kernel
theorem dX8_wordInInput_68 : decode cX8_wordInInput 68 = .ok (.iaload, 1) := by decide +kernel
theorem dX8_wordInInput_69 : decode cX8_wordInInput 69 = .ok (.if_icmp .ne 7, 3) := by decide +kernel
theorem dX8_wordInInput_72 : decode cX8_wordInInput 72 = .ok (.iconst 1, 1) := by decide +kernel
theorem dX8_wordInInput_73 : decode cX8_wordInInput 73 = .ok (.goto 4, 3) := by decide +kernel
theorem dX8_wordInInput_76 : decode cX8_wordInInput 76 = .ok (.iconst 0, 1) := by decide +kernel
theorem dX8_wordInInput_77 : decode cX8_wordInInput 77 = .ok (.istore_n 2, 1) := by decide +kernel
theorem dX8_wordInInput_78 : decode cX8_wordInInput 78 = .ok (.iinc 3 1, 3) := by decide +kernel
theorem dX8_wordInInput_81 : decode cX8_wordInInput 81 = .ok (.goto (-43), 3) := by decide +kernel
theorem dX8_wordInInput_84 : decode cX8_wordInInput 84 = .ok (.iload_n 2, 1) := by decide +kernel
theorem dX8_wordInInput_85 : decode cX8_wordInInput 85 = .ok (.ifCond .eq 5, 3) := by decide +kernel
theorem dX8_wordInInput_88 : decode cX8_wordInInput 88 = .ok (.iload_n 1, 1) := by decide +kernel
theorem dX8_wordInInput_89 : decode cX8_wordInInput 89 = .ok (.ireturn, 1) := by decide +kernel
theorem dX8_wordInInput_90 : decode cX8_wordInInput 90 = .ok (.iinc 1 1, 3) := by decide +kernel
theorem dX8_wordInInput_93 : decode cX8_wordInInput 93 = .ok (.goto (-91), 3) := by decide +kernel
theorem dX8_wordInInput_96 : decode cX8_wordInInput 96 = .ok (.bipush (-7), 2) := by decide +kernel
theorem dX8_wordInInput_98 : decode cX8_wordInInput 98 = .ok (.ireturn, 1) := by decide +kernel
theorem dX8_filterPartitions_0 : decode cX8_filterPartitions 0 = .ok (.aload_n 0, 1) := by decide +kernel
theorem dX8_filterPartitions_1 : decode cX8_filterPartitions 1 = .ok (.invokevirtual 245, 3) := by decide +kernel
theorem dX8_filterPartitions_4 : decode cX8_filterPartitions 4 = .ok (.istore_n 1, 1) := by decide +kernel
theorem dX8_filterPartitions_5 : decode cX8_filterPartitions 5 = .ok (.aload_n 0, 1) := by decide +kernel
theorem dX8_filterPartitions_6 : decode cX8_filterPartitions 6 = .ok (.iconst 0, 1) := by decide +kernel
theorem dX8_filterPartitions_7 : decode cX8_filterPartitions 7 = .ok (.putfield 242, 3) := by decide +kernel
theorem dX8_filterPartitions_10 : decode cX8_filterPartitions 10 = .ok (.iload_n 1, 1) := by decide +kernel
theorem dX8_filterPartitions_11 : decode cX8_filterPartitions 11 = .ok (.ifCond .ge 5, 3) := by decide +kernel
theorem dX8_filterPartitions_14 : decode cX8_filterPartitions 14 = .ok (.iconst (-1), 1) := by decide +kernel
theorem dX8_filterPartitions_15 : decode cX8_filterPartitions 15 = .ok (.ireturn, 1) := by decide +kernel
theorem dX8_filterPartitions_16 : decode cX8_filterPartitions 16 = .ok (.iconst 0, 1) := by decide +kernel
theorem dX8_filterPartitions_17 : decode cX8_filterPartitions 17 = .ok (.istore_n 2, 1) := by decide +kernel
theorem dX8_filterPartitions_18 : decode cX8_filterPartitions 18 = .ok (.iconst 0, 1) := by decide +kernel
theorem dX8_filterPartitions_19 : decode cX8_filterPartitions 19 = .ok (.istore_n 3, 1) := by decide +kernel
theorem dX8_filterPartitions_20 : decode cX8_filterPartitions 20 = .ok (.iload_n 3, 1) := by decide +kernel
theorem dX8_filterPartitions_21 : decode cX8_filterPartitions 21 = .ok (.aload_n 0, 1) := by decide +kernel
theorem dX8_filterPartitions_22 : decode cX8_filterPartitions 22 = .ok (.getfield 226, 3) := by decide +kernel
theorem dX8_filterPartitions_25 : decode cX8_filterPartitions 25 = .ok (.if_icmp .ge 59, 3) := by decide +kernel
theorem dX8_filterPartitions_28 : decode cX8_filterPartitions 28 = .ok (.aload_n 0, 1) := by decide +kernel
theorem dX8_filterPartitions_29 : decode cX8_filterPartitions 29 = .ok (.iload_n 3, 1) := by decide +kernel
theorem dX8_filterPartitions_30 : decode cX8_filterPartitions 30 = .ok (.iload_n 1, 1) := by decide +kernel
theorem dX8_filterPartitions_31 : decode cX8_filterPartitions 31 = .ok (.invokevirtual 249, 3) := by decide +kernel
theorem dX8_filterPartitions_34 : decode cX8_filterPartitions 34 = .ok (.ifCond .ne 6, 3) := by decide +kernel
theorem dX8_filterPartitions_37 : decode cX8_filterPartitions 37 = .ok (.goto 41, 3) := by decide +kernel
theorem dX8_filterPartitions_40 : decode cX8_filterPartitions 40 = .ok (.iconst 0, 1) := by decide +kernel
theorem dX8_filterPartitions_41 : decode cX8_filterPartitions 41 = .ok (.istore 4, 2) := by decide +kernel
theorem dX8_filterPartitions_43 : decode cX8_filterPartitions 43 = .ok (.iload 4, 2) := by decide +kernel
theorem dX8_filterPartitions_45 : decode cX8_filterPartitions 45 = .ok (.bipush 16, 2) := by decide +kernel
theorem dX8_filterPartitions_47 : decode cX8_filterPartitions 47 = .ok (.if_icmp .ge 28, 3) := by decide +kernel
theorem dX8_filterPartitions_50 : decode cX8_filterPartitions 50 = .ok (.aload_n 0, 1) := by decide +kernel
theorem dX8_filterPartitions_51 : decode cX8_filterPartitions 51 = .ok (.getfield 52, 3) := by decide +kernel
theorem dX8_filterPartitions_54 : decode cX8_filterPartitions 54 = .ok (.bipush 16, 2) := by decide +kernel
theorem dX8_filterPartitions_56 : decode cX8_filterPartitions 56 = .ok (.iload_n 2, 1) := by decide +kernel
theorem dX8_filterPartitions_57 : decode cX8_filterPartitions 57 = .ok (.imul, 1) := by decide +kernel
theorem dX8_filterPartitions_58 : decode cX8_filterPartitions 58 = .ok (.iload 4, 2) := by decide +kernel
theorem dX8_filterPartitions_60 : decode cX8_filterPartitions 60 = .ok (.iadd, 1) := by decide +kernel
theorem dX8_filterPartitions_61 : decode cX8_filterPartitions 61 = .ok (.aload_n 0, 1) := by decide +kernel
theorem dX8_filterPartitions_62 : decode cX8_filterPartitions 62 = .ok (.iload_n 3, 1) := by decide +kernel
theorem dX8_filterPartitions_63 : decode cX8_filterPartitions 63 = .ok (.iload 4, 2) := by decide +kernel
theorem dX8_filterPartitions_65 : decode cX8_filterPartitions 65 = .ok (.invokevirtual 232, 3) := by decide +kernel
theorem dX8_filterPartitions_68 : decode cX8_filterPartitions 68 = .ok (.iastore, 1) := by decide +kernel
theorem dX8_filterPartitions_69 : decode cX8_filterPartitions 69 = .ok (.iinc 4 1, 3) := by decide +kernel
theorem dX8_filterPartitions_72 : decode cX8_filterPartitions 72 = .ok (.goto (-29), 3) := by decide +kernel
theorem dX8_filterPartitions_75 : decode cX8_filterPartitions 75 = .ok (.iinc 2 1, 3) := by decide +kernel
theorem dX8_filterPartitions_78 : decode cX8_filterPartitions 78 = .ok (.iinc 3 1, 3) := by decide +kernel
theorem dX8_filterPartitions_81 : decode cX8_filterPartitions 81 = .ok (.goto (-61), 3) := by decide +kernel
theorem dX8_filterPartitions_84 : decode cX8_filterPartitions 84 = .ok (.aload_n 0, 1) := by decide +kernel
theorem dX8_filterPartitions_85 : decode cX8_filterPartitions 85 = .ok (.iload_n 2, 1) := by decide +kernel
theorem dX8_filterPartitions_86 : decode cX8_filterPartitions 86 = .ok (.putfield 226, 3) := by decide +kernel
theorem dX8_filterPartitions_89 : decode cX8_filterPartitions 89 = .ok (.aload_n 0, 1) := by decide +kernel
theorem dX8_filterPartitions_90 : decode cX8_filterPartitions 90 = .ok (.getfield 226, 3) := by decide +kernel
theorem dX8_filterPartitions_93 : decode cX8_filterPartitions 93 = .ok (.ireturn, 1) := by decide +kernel
theorem dX8_part_0 : decode cX8_part 0 = .ok (.iload_n 1, 1) := by decide +kernel
theorem dX8_part_1 : decode cX8_part 1 = .ok (.ifCond .lt 7, 3) := by decide +kernel
theorem dX8_part_4 : decode cX8_part 4 = .ok (.iload_n 2, 1) := by decide +kernel
theorem dX8_part_5 : decode cX8_part 5 = .ok (.ifCond .ge 5, 3) := by decide +kernel
theorem dX8_part_8 : decode cX8_part 8 = .ok (.iconst (-1), 1) := by decide +kernel
theorem dX8_part_9 : decode cX8_part 9 = .ok (.ireturn, 1) := by decide +kernel
theorem dX8_part_10 : decode cX8_part 10 = .ok (.iload_n 1, 1) := by decide +kernel
theorem dX8_part_11 : decode cX8_part 11 = .ok (.aload_n 0, 1) := by decide +kernel
theorem dX8_part_12 : decode cX8_part 12 = .ok (.getfield 226, 3) := by decide +kernel
theorem dX8_part_15 : decode cX8_part 15 = .ok (.if_icmp .ge 21, 3) := by decide +kernel
theorem dX8_part_18 : decode cX8_part 18 = .ok (.iload_n 2, 1) := by decide +kernel
theorem dX8_part_19 : decode cX8_part 19 = .ok (.aload_n 0, 1) := by decide +kernel
theorem dX8_part_20 : decode cX8_part 20 = .ok (.iload_n 1, 1) := by decide +kernel
theorem dX8_part_21 : decode cX8_part 21 = .ok (.invokevirtual 236, 3) := by decide +kernel
theorem dX8_part_24 : decode cX8_part 24 = .ok (.if_icmp .ge 12, 3) := by decide +kernel
theorem dX8_part_27 : decode cX8_part 27 = .ok (.aload_n 0, 1) := by decide +kernel
theorem dX8_part_28 : decode cX8_part 28 = .ok (.iload_n 1, 1) := by decide +kernel
theorem dX8_part_29 : decode cX8_part 29 = .ok (.iload_n 2, 1) := by decide +kernel
theorem dX8_part_30 : decode cX8_part 30 = .ok (.invokevirtual 232, 3) := by decide +kernel
theorem dX8_part_33 : decode cX8_part 33 = .ok (.goto 5, 3) := by decide +kernel
theorem dX8_part_36 : decode cX8_part 36 = .ok (.bipush (-7), 2) := by decide +kernel
theorem dX8_part_38 : decode cX8_part 38 = .ok (.ireturn, 1) := by decide +kernel
theorem dX8_append_0 : decode cX8_append 0 = .ok (.iload_n 2, 1) := by decide +kernel
theorem dX8_append_1 : decode cX8_append 1 = .ok (.i2l, 1) := by decide +kernel
theorem dX8_append_2 : decode cX8_append 2 = .ok (.lconst 1, 1) := by decide +kernel
theorem dX8_append_3 : decode cX8_append 3 = .ok (.ldc2_w 105, 3) := by decide +kernel
theorem dX8_append_6 : decode cX8_append 6 = .ok (.invokestatic 7, 3) := by decide +kernel
theorem dX8_append_9 : decode cX8_append 9 = .ok (.ifCond .ne 5, 3) := by decide +kernel
theorem dX8_append_12 : decode cX8_append 12 = .ok (.iconst (-1), 1) := by decide +kernel
theorem dX8_append_13 : decode cX8_append 13 = .ok (.ireturn, 1) := by decide +kernel
theorem dX8_append_14 : decode cX8_append 14 = .ok (.iconst 0, 1) := by decide +kernel
theorem dX8_append_15 : decode cX8_append 15 = .ok (.istore_n 3, 1) := by decide +kernel
theorem dX8_append_16 : decode cX8_append 16 = .ok (.iload_n 3, 1) := by decide +kernel
theorem dX8_append_17 : decode cX8_append 17 = .ok (.iload_n 2, 1) := by decide +kernel
theorem dX8_append_18 : decode cX8_append 18 = .ok (.if_icmp .ge 26, 3) := by decide +kernel
theorem dX8_append_21 : decode cX8_append 21 = .ok (.iload_n 1, 1) := by decide +kernel
theorem dX8_append_22 : decode cX8_append 22 = .ok (.bipush 8, 2) := by decide +kernel
theorem dX8_append_24 : decode cX8_append 24 = .ok (.iload_n 3, 1) := by decide +kernel
theorem dX8_append_25 : decode cX8_append 25 = .ok (.imul, 1) := by decide +kernel
theorem dX8_append_26 : decode cX8_append 26 = .ok (.ishr, 1) := by decide +kernel
theorem dX8_append_27 : decode cX8_append 27 = .ok (.sipush 255, 3) := by decide +kernel
theorem dX8_append_30 : decode cX8_append 30 = .ok (.iand, 1) := by decide +kernel
theorem dX8_append_31 : decode cX8_append 31 = .ok (.bipush 127, 2) := by decide +kernel
theorem dX8_append_33 : decode cX8_append 33 = .ok (.if_icmp .le 5, 3) := by decide +kernel
theorem dX8_append_36 : decode cX8_append 36 = .ok (.iconst (-1), 1) := by decide +kernel
theorem dX8_append_37 : decode cX8_append 37 = .ok (.ireturn, 1) := by decide +kernel
theorem dX8_append_38 : decode cX8_append 38 = .ok (.iinc 3 1, 3) := by decide +kernel
theorem dX8_append_41 : decode cX8_append 41 = .ok (.goto (-25), 3) := by decide +kernel
theorem dX8_append_44 : decode cX8_append 44 = .ok (.aload_n 0, 1) := by decide +kernel
theorem dX8_append_45 : decode cX8_append 45 = .ok (.getfield 242, 3) := by decide +kernel
theorem dX8_append_48 : decode cX8_append 48 = .ok (.iload_n 2, 1) := by decide +kernel
theorem dX8_append_49 : decode cX8_append 49 = .ok (.iadd, 1) := by decide +kernel
theorem dX8_append_50 : decode cX8_append 50 = .ok (.bipush 60, 2) := by decide +kernel
theorem dX8_append_52 : decode cX8_append 52 = .ok (.if_icmp .le 6, 3) := by decide +kernel
theorem dX8_append_55 : decode cX8_append 55 = .ok (.bipush (-6), 2) := by decide +kernel
theorem dX8_append_57 : decode cX8_append 57 = .ok (.ireturn, 1) := by decide +kernel
theorem dX8_append_58 : decode cX8_append 58 = .ok (.iload_n 2, 1) := by decide +kernel
theorem dX8_append_59 : decode cX8_append 59 = .ok (.iconst 1, 1) := by decide +kernel
theorem dX8_append_60 : decode cX8_append 60 = .ok (.isub, 1) := by decide +kernel
theorem dX8_append_61 : decode cX8_append 61 = .ok (.istore_n 3, 1) := by decide +kernel
theorem dX8_append_62 : decode cX8_append 62 = .ok (.iload_n 3, 1) := by decide +kernel
theorem dX8_append_63 : decode cX8_append 63 = .ok (.ifCond .lt 38, 3) := by decide +kernel
theorem dX8_append_66 : decode cX8_append 66 = .ok (.aload_n 0, 1) := by decide +kernel
theorem dX8_append_67 : decode cX8_append 67 = .ok (.getfield 65, 3) := by decide +kernel
theorem dX8_append_70 : decode cX8_append 70 = .ok (.aload_n 0, 1) := by decide +kernel
theorem dX8_append_71 : decode cX8_append 71 = .ok (.getfield 242, 3) := by decide +kernel
theorem dX8_append_74 : decode cX8_append 74 = .ok (.iload_n 1, 1) := by decide +kernel
theorem dX8_append_75 : decode cX8_append 75 = .ok (.bipush 8, 2) := by decide +kernel
theorem dX8_append_77 : decode cX8_append 77 = .ok (.iload_n 3, 1) := by decide +kernel
theorem dX8_append_78 : decode cX8_append 78 = .ok (.imul, 1) := by decide +kernel
theorem dX8_append_79 : decode cX8_append 79 = .ok (.ishr, 1) := by decide +kernel
theorem dX8_append_80 : decode cX8_append 80 = .ok (.sipush 255, 3) := by decide +kernel
theorem dX8_append_83 : decode cX8_append 83 = .ok (.iand, 1) := by decide +kernel
theorem dX8_append_84 : decode cX8_append 84 = .ok (.iastore, 1) := by decide +kernel
theorem dX8_append_85 : decode cX8_append 85 = .ok (.aload_n 0, 1) := by decide +kernel
theorem dX8_append_86 : decode cX8_append 86 = .ok (.dup, 1) := by decide +kernel
theorem dX8_append_87 : decode cX8_append 87 = .ok (.getfield 242, 3) := by decide +kernel
theorem dX8_append_90 : decode cX8_append 90 = .ok (.iconst 1, 1) := by decide +kernel
theorem dX8_append_91 : decode cX8_append 91 = .ok (.iadd, 1) := by decide +kernel
theorem dX8_append_92 : decode cX8_append 92 = .ok (.putfield 242, 3) := by decide +kernel
theorem dX8_append_95 : decode cX8_append 95 = .ok (.iinc 3 (-1), 3) := by decide +kernel
theorem dX8_append_98 : decode cX8_append 98 = .ok (.goto (-36), 3) := by decide +kernel
theorem dX8_append_101 : decode cX8_append 101 = .ok (.aload_n 0, 1) := by decide +kernel
theorem dX8_append_102 : decode cX8_append 102 = .ok (.getfield 242, 3) := by decide +kernel
theorem dX8_append_105 : decode cX8_append 105 = .ok (.ireturn, 1) := by decide +kernel
theorem dX8_clearInput_0 : decode cX8_clearInput 0 = .ok (.aload_n 0, 1) := by decide +kernel
theorem dX8_clearInput_1 : decode cX8_clearInput 1 = .ok (.getfield 242, 3) := by decide +kernel
theorem dX8_clearInput_4 : decode cX8_clearInput 4 = .ok (.istore_n 1, 1) := by decide +kernel
theorem dX8_clearInput_5 : decode cX8_clearInput 5 = .ok (.aload_n 0, 1) := by decide +kernel
theorem dX8_clearInput_6 : decode cX8_clearInput 6 = .ok (.iconst 0, 1) := by decide +kernel
theorem dX8_clearInput_7 : decode cX8_clearInput 7 = .ok (.putfield 242, 3) := by decide +kernel
theorem dX8_clearInput_10 : decode cX8_clearInput 10 = .ok (.iload_n 1, 1) := by decide +kernel
theorem dX8_clearInput_11 : decode cX8_clearInput 11 = .ok (.ireturn, 1) := by decide +kernel
theorem dX8_here_0 : decode cX8_here 0 = .ok (.aload_n 0, 1) := by decide +kernel
theorem dX8_here_1 : decode cX8_here 1 = .ok (.getfield 252, 3) := by decide +kernel
theorem dX8_here_4 : decode cX8_here 4 = .ok (.aload_n 0, 1) := by decide +kernel
theorem dX8_here_5 : decode cX8_here 5 = .ok (.getfield 242, 3) := by decide +kernel
theorem dX8_here_8 : decode cX8_here 8 = .ok (.if_icmp .ge 15, 3) := by decide +kernel
theorem dX8_here_11 : decode cX8_here 11 = .ok (.aload_n 0, 1) := by decide +kernel
theorem dX8_here_12 : decode cX8_here 12 = .ok (.getfield 65, 3) := by decide +kernel
theorem dX8_here_15 : decode cX8_here 15 = .ok (.aload_n 0, 1) := by decide +kernel
theorem dX8_here_16 : decode cX8_here 16 = .ok (.getfield 252, 3) := by decide +kernel
theorem dX8_here_19 : decode cX8_here 19 = .ok (.iaload, 1) := by decide +kernel
theorem dX8_here_20 : decode cX8_here 20 = .ok (.goto 4, 3) := by decide +kernel
theorem dX8_here_23 : decode cX8_here 23 = .ok (.iconst (-1), 1) := by decide +kernel
theorem dX8_here_24 : decode cX8_here 24 = .ok (.ireturn, 1) := by decide +kernel
theorem dX8_isDigit_0 : decode cX8_isDigit 0 = .ok (.aload_n 0, 1) := by decide +kernel
theorem dX8_isDigit_1 : decode cX8_isDigit 1 = .ok (.invokevirtual 255, 3) := by decide +kernel
theorem dX8_isDigit_4 : decode cX8_isDigit 4 = .ok (.i2l, 1) := by decide +kernel
theorem dX8_isDigit_5 : decode cX8_isDigit 5 = .ok (.ldc2_w 258, 3) := by decide +kernel
theorem dX8_isDigit_8 : decode cX8_isDigit 8 = .ok (.ldc2_w 260, 3) := by decide +kernel
theorem dX8_isDigit_11 : decode cX8_isDigit 11 = .ok (.invokestatic 7, 3) := by decide +kernel
theorem dX8_isDigit_14 : decode cX8_isDigit 14 = .ok (.ireturn, 1) := by decide +kernel
theorem dX8_readNumber_0 : decode cX8_readNumber 0 = .ok (.aload_n 0, 1) := by decide +kernel
theorem dX8_readNumber_1 : decode cX8_readNumber 1 = .ok (.invokevirtual 262, 3) := by decide +kernel
theorem dX8_readNumber_4 : decode cX8_readNumber 4 = .ok (.ifCond .eq 7, 3) := by decide +kernel
theorem dX8_readNumber_7 : decode cX8_readNumber 7 = .ok (.iconst 0, 1) := by decide +kernel
theorem dX8_readNumber_8 : decode cX8_readNumber 8 = .ok (.goto 4, 3) := by decide +kernel
theorem dX8_readNumber_11 : decode cX8_readNumber 11 = .ok (.iconst (-1), 1) := by decide +kernel
theorem dX8_readNumber_12 : decode cX8_readNumber 12 = .ok (.istore_n 2, 1) := by decide +kernel
theorem dX8_readNumber_13 : decode cX8_readNumber 13 = .ok (.iconst 0, 1) := by decide +kernel
theorem dX8_readNumber_14 : decode cX8_readNumber 14 = .ok (.istore_n 3, 1) := by decide +kernel
theorem dX8_readNumber_15 : decode cX8_readNumber 15 = .ok (.iload_n 3, 1) := by decide +kernel
theorem dX8_readNumber_16 : decode cX8_readNumber 16 = .ok (.iload_n 1, 1) := by decide +kernel
theorem dX8_readNumber_17 : decode cX8_readNumber 17 = .ok (.if_icmp .ge 39, 3) := by decide +kernel
theorem dX8_readNumber_20 : decode cX8_readNumber 20 = .ok (.aload_n 0, 1) := by decide +kernel
theorem dX8_readNumber_21 : decode cX8_readNumber 21 = .ok (.invokevirtual 262, 3) := by decide +kernel
theorem dX8_readNumber_24 : decode cX8_readNumber 24 = .ok (.ifCond .eq 32, 3) := by decide +kernel
theorem dX8_readNumber_27 : decode cX8_readNumber 27 = .ok (.bipush 10, 2) := by decide +kernel
theorem dX8_readNumber_29 : decode cX8_readNumber 29 = .ok (.iload_n 2, 1) := by decide +kernel
theorem dX8_readNumber_30 : decode cX8_readNumber 30 = .ok (.imul, 1) := by decide +kernel
theorem dX8_readNumber_31 : decode cX8_readNumber 31 = .ok (.aload_n 0, 1) := by decide +kernel
theorem dX8_readNumber_32 : decode cX8_readNumber 32 = .ok (.invokevirtual 255, 3) := by decide +kernel
theorem dX8_readNumber_35 : decode cX8_readNumber 35 = .ok (.iadd, 1) := by decide +kernel
theorem dX8_readNumber_36 : decode cX8_readNumber 36 = .ok (.bipush 48, 2) := by decide +kernel
theorem dX8_readNumber_38 : decode cX8_readNumber 38 = .ok (.isub, 1) := by decide +kernel
theorem dX8_readNumber_39 : decode cX8_readNumber 39 = .ok (.istore_n 2, 1) := by decide +kernel
theorem dX8_readNumber_40 : decode cX8_readNumber 40 = .ok (.aload_n 0, 1) := by decide +kernel
theorem dX8_readNumber_41 : decode cX8_readNumber 41 = .ok (.dup, 1) := by decide +kernel
theorem dX8_readNumber_42 : decode cX8_readNumber 42 = .ok (.getfield 252, 3) := by decide +kernel
theorem dX8_readNumber_45 : decode cX8_readNumber 45 = .ok (.iconst 1, 1) := by decide +kernel
theorem dX8_readNumber_46 : decode cX8_readNumber 46 = .ok (.iadd, 1) := by decide +kernel
theorem dX8_readNumber_47 : decode cX8_readNumber 47 = .ok (.putfield 252, 3) := by decide +kernel
theorem dX8_readNumber_50 : decode cX8_readNumber 50 = .ok (.iinc 3 1, 3) := by decide +kernel
theorem dX8_readNumber_53 : decode cX8_readNumber 53 = .ok (.goto (-38), 3) := by decide +kernel
theorem dX8_readNumber_56 : decode cX8_readNumber 56 = .ok (.iload_n 2, 1) := by decide +kernel
theorem dX8_readNumber_57 : decode cX8_readNumber 57 = .ok (.ireturn, 1) := by decide +kernel
theorem dX8_readsTerm_0 : decode cX8_readsTerm 0 = .ok (.aload_n 0, 1) := by decide +kernel
theorem dX8_readsTerm_1 : decode cX8_readsTerm 1 = .ok (.iconst 4, 1) := by decide +kernel
theorem dX8_readsTerm_2 : decode cX8_readsTerm 2 = .ok (.invokevirtual 265, 3) := by decide +kernel
theorem dX8_readsTerm_5 : decode cX8_readsTerm 5 = .ok (.istore_n 2, 1) := by decide +kernel
theorem dX8_readsTerm_6 : decode cX8_readsTerm 6 = .ok (.iconst 0, 1) := by decide +kernel
theorem dX8_readsTerm_7 : decode cX8_readsTerm 7 = .ok (.istore_n 3, 1) := by decide +kernel
theorem dX8_readsTerm_8 : decode cX8_readsTerm 8 = .ok (.aload_n 0, 1) := by decide +kernel
theorem dX8_readsTerm_9 : decode cX8_readsTerm 9 = .ok (.invokevirtual 255, 3) := by decide +kernel
theorem dX8_readsTerm_12 : decode cX8_readsTerm 12 = .ok (.bipush 113, 2) := by decide +kernel
theorem dX8_readsTerm_14 : decode cX8_readsTerm 14 = .ok (.if_icmp .ne 46, 3) := by decide +kernel
theorem dX8_readsTerm_17 : decode cX8_readsTerm 17 = .ok (.aload_n 0, 1) := by decide +kernel
theorem dX8_readsTerm_18 : decode cX8_readsTerm 18 = .ok (.dup, 1) := by decide +kernel
theorem dX8_readsTerm_19 : decode cX8_readsTerm 19 = .ok (.getfield 252, 3) := by decide +kernel
theorem dX8_readsTerm_22 : decode cX8_readsTerm 22 = .ok (.iconst 1, 1) := by decide +kernel
theorem dX8_readsTerm_23 : decode cX8_readsTerm 23 = .ok (.iadd, 1) := by decide +kernel
theorem dX8_readsTerm_24 : decode cX8_readsTerm 24 = .ok (.putfield 252, 3) := by decide +kernel
theorem dX8_readsTerm_27 : decode cX8_readsTerm 27 = .ok (.iconst 1, 1) := by decide +kernel
theorem dX8_readsTerm_28 : decode cX8_readsTerm 28 = .ok (.istore_n 3, 1) := by decide +kernel
theorem dX8_readsTerm_29 : decode cX8_readsTerm 29 = .ok (.aload_n 0, 1) := by decide +kernel
theorem dX8_readsTerm_30 : decode cX8_readsTerm 30 = .ok (.invokevirtual 255, 3) := by decide +kernel
theorem dX8_readsTerm_33 : decode cX8_readsTerm 33 = .ok (.bipush 94, 2) := by decide +kernel
theorem dX8_readsTerm_35 : decode cX8_readsTerm 35 = .ok (.if_icmp .ne 31, 3) := by decide +kernel
theorem dX8_readsTerm_38 : decode cX8_readsTerm 38 = .ok (.aload_n 0, 1) := by decide +kernel
theorem dX8_readsTerm_39 : decode cX8_readsTerm 39 = .ok (.dup, 1) := by decide +kernel
theorem dX8_readsTerm_40 : decode cX8_readsTerm 40 = .ok (.getfield 252, 3) := by decide +kernel
theorem dX8_readsTerm_43 : decode cX8_readsTerm 43 = .ok (.iconst 1, 1) := by decide +kernel
theorem dX8_readsTerm_44 : decode cX8_readsTerm 44 = .ok (.iadd, 1) := by decide +kernel
theorem dX8_readsTerm_45 : decode cX8_readsTerm 45 = .ok (.putfield 252, 3) := by decide +kernel
theorem dX8_readsTerm_48 : decode cX8_readsTerm 48 = .ok (.aload_n 0, 1) := by decide +kernel
theorem dX8_readsTerm_49 : decode cX8_readsTerm 49 = .ok (.iconst 2, 1) := by decide +kernel
theorem dX8_readsTerm_50 : decode cX8_readsTerm 50 = .ok (.invokevirtual 265, 3) := by decide +kernel
theorem dX8_readsTerm_53 : decode cX8_readsTerm 53 = .ok (.istore_n 3, 1) := by decide +kernel
theorem dX8_readsTerm_54 : decode cX8_readsTerm 54 = .ok (.iload_n 3, 1) := by decide +kernel
theorem dX8_readsTerm_55 : decode cX8_readsTerm 55 = .ok (.ifCond .ge 11, 3) := by decide +kernel
theorem dX8_readsTerm_58 : decode cX8_readsTerm 58 = .ok (.iconst 0, 1) := by decide +kernel
theorem dX8_readsTerm_59 : decode cX8_readsTerm 59 = .ok (.ireturn, 1) := by decide +kernel
theorem dX8_readsTerm_60 : decode cX8_readsTerm 60 = .ok (.iload_n 2, 1) := by decide +kernel
theorem dX8_readsTerm_61 : decode cX8_readsTerm 61 = .ok (.ifCond .ge 5, 3) := by decide +kernel
theorem dX8_readsTerm_64 : decode cX8_readsTerm 64 = .ok (.iconst 0, 1) := by decide +kernel
theorem dX8_readsTerm_65 : decode cX8_readsTerm 65 = .ok (.ireturn, 1) := by decide +kernel
theorem dX8_readsTerm_66 : decode cX8_readsTerm 66 = .ok (.iload_n 3, 1) := by decide +kernel
theorem dX8_readsTerm_67 : decode cX8_readsTerm 67 = .ok (.aload_n 0, 1) := by decide +kernel
theorem dX8_readsTerm_68 : decode cX8_readsTerm 68 = .ok (.getfield 17, 3) := by decide +kernel
theorem dX8_readsTerm_71 : decode cX8_readsTerm 71 = .ok (.if_icmp .ge 24, 3) := by decide +kernel
theorem dX8_readsTerm_74 : decode cX8_readsTerm 74 = .ok (.aload_n 0, 1) := by decide +kernel
theorem dX8_readsTerm_75 : decode cX8_readsTerm 75 = .ok (.getfield 34, 3) := by decide +kernel
theorem dX8_readsTerm_78 : decode cX8_readsTerm 78 = .ok (.iload_n 3, 1) := by decide +kernel
theorem dX8_readsTerm_79 : decode cX8_readsTerm 79 = .ok (.dup2, 1) := by decide +kernel
theorem dX8_readsTerm_80 : decode cX8_readsTerm 80 = .ok (.laload, 1) := by decide +kernel
theorem dX8_readsTerm_81 : decode cX8_readsTerm 81 = .ok (.iload_n 1, 1) := by decide +kernel
theorem dX8_readsTerm_82 : decode cX8_readsTerm 82 = .ok (.iload_n 2, 1) := by decide +kernel
theorem dX8_readsTerm_83 : decode cX8_readsTerm 83 = .ok (.ifCond .ge 7, 3) := by decide +kernel
theorem dX8_readsTerm_86 : decode cX8_readsTerm 86 = .ok (.iconst 1, 1) := by decide +kernel
theorem dX8_readsTerm_87 : decode cX8_readsTerm 87 = .ok (.goto 4, 3) := by decide +kernel
theorem dX8_readsTerm_90 : decode cX8_readsTerm 90 = .ok (.iload_n 2, 1) := by decide +kernel
theorem dX8_readsTerm_91 : decode cX8_readsTerm 91 = .ok (.imul, 1) := by decide +kernel
theorem dX8_readsTerm_92 : decode cX8_readsTerm 92 = .ok (.i2l, 1) := by decide +kernel
theorem dX8_readsTerm_93 : decode cX8_readsTerm 93 = .ok (.ladd, 1) := by decide +kernel
theorem dX8_readsTerm_94 : decode cX8_readsTerm 94 = .ok (.lastore, 1) := by decide +kernel
theorem dX8_readsTerm_95 : decode cX8_readsTerm 95 = .ok (.iconst 1, 1) := by decide +kernel
theorem dX8_readsTerm_96 : decode cX8_readsTerm 96 = .ok (.ireturn, 1) := by decide +kernel
theorem dX8_readsSeries_0 : decode cX8_readsSeries 0 = .ok (.aload_n 0, 1) := by decide +kernel
theorem dX8_readsSeries_1 : decode cX8_readsSeries 1 = .ok (.aload_n 0, 1) := by decide +kernel
theorem dX8_readsSeries_2 : decode cX8_readsSeries 2 = .ok (.getfield 34, 3) := by decide +kernel
theorem dX8_readsSeries_5 : decode cX8_readsSeries 5 = .ok (.invokevirtual 136, 3) := by decide +kernel
theorem dX8_readsSeries_8 : decode cX8_readsSeries 8 = .ok (.aload_n 0, 1) := by decide +kernel
theorem dX8_readsSeries_9 : decode cX8_readsSeries 9 = .ok (.iconst 0, 1) := by decide +kernel
theorem dX8_readsSeries_10 : decode cX8_readsSeries 10 = .ok (.putfield 252, 3) := by decide +kernel
theorem dX8_readsSeries_13 : decode cX8_readsSeries 13 = .ok (.aload_n 0, 1) := by decide +kernel
theorem dX8_readsSeries_14 : decode cX8_readsSeries 14 = .ok (.invokevirtual 255, 3) := by decide +kernel
theorem dX8_readsSeries_17 : decode cX8_readsSeries 17 = .ok (.bipush 45, 2) := by decide +kernel
theorem dX8_readsSeries_19 : decode cX8_readsSeries 19 = .ok (.if_icmp .ne 7, 3) := by decide +kernel
theorem dX8_readsSeries_22 : decode cX8_readsSeries 22 = .ok (.iconst (-1), 1) := by decide +kernel
theorem dX8_readsSeries_23 : decode cX8_readsSeries 23 = .ok (.goto 4, 3) := by decide +kernel
theorem dX8_readsSeries_26 : decode cX8_readsSeries 26 = .ok (.iconst 1, 1) := by decide +kernel
theorem dX8_readsSeries_27 : decode cX8_readsSeries 27 = .ok (.istore_n 1, 1) := by decide +kernel
theorem dX8_readsSeries_28 : decode cX8_readsSeries 28 = .ok (.aload_n 0, 1) := by decide +kernel
theorem dX8_readsSeries_29 : decode cX8_readsSeries 29 = .ok (.dup, 1) := by decide +kernel
theorem dX8_readsSeries_30 : decode cX8_readsSeries 30 = .ok (.getfield 252, 3) := by decide +kernel
theorem dX8_readsSeries_33 : decode cX8_readsSeries 33 = .ok (.iload_n 1, 1) := by decide +kernel
theorem dX8_readsSeries_34 : decode cX8_readsSeries 34 = .ok (.ifCond .ge 7, 3) := by decide +kernel
theorem dX8_readsSeries_37 : decode cX8_readsSeries 37 = .ok (.iconst 1, 1) := by decide +kernel
theorem dX8_readsSeries_38 : decode cX8_readsSeries 38 = .ok (.goto 4, 3) := by decide +kernel
theorem dX8_readsSeries_41 : decode cX8_readsSeries 41 = .ok (.iconst 0, 1) := by decide +kernel
theorem dX8_readsSeries_42 : decode cX8_readsSeries 42 = .ok (.iadd, 1) := by decide +kernel
theorem dX8_readsSeries_43 : decode cX8_readsSeries 43 = .ok (.putfield 252, 3) := by decide +kernel
theorem dX8_readsSeries_46 : decode cX8_readsSeries 46 = .ok (.aload_n 0, 1) := by decide +kernel
theorem dX8_readsSeries_47 : decode cX8_readsSeries 47 = .ok (.iload_n 1, 1) := by decide +kernel
theorem dX8_readsSeries_48 : decode cX8_readsSeries 48 = .ok (.invokevirtual 268, 3) := by decide +kernel
theorem dX8_readsSeries_51 : decode cX8_readsSeries 51 = .ok (.istore_n 2, 1) := by decide +kernel
theorem dX8_readsSeries_52 : decode cX8_readsSeries 52 = .ok (.iload_n 2, 1) := by decide +kernel
theorem dX8_readsSeries_53 : decode cX8_readsSeries 53 = .ok (.ifCond .eq 55, 3) := by decide +kernel
theorem dX8_readsSeries_56 : decode cX8_readsSeries 56 = .ok (.aload_n 0, 1) := by decide +kernel
theorem dX8_readsSeries_57 : decode cX8_readsSeries 57 = .ok (.invokevirtual 255, 3) := by decide +kernel
theorem dX8_readsSeries_60 : decode cX8_readsSeries 60 = .ok (.bipush 43, 2) := by decide +kernel
theorem dX8_readsSeries_62 : decode cX8_readsSeries 62 = .ok (.if_icmp .eq 12, 3) := by decide +kernel
theorem dX8_readsSeries_65 : decode cX8_readsSeries 65 = .ok (.aload_n 0, 1) := by decide +kernel
theorem dX8_readsSeries_66 : decode cX8_readsSeries 66 = .ok (.invokevirtual 255, 3) := by decide +kernel
theorem dX8_readsSeries_69 : decode cX8_readsSeries 69 = .ok (.bipush 45, 2) := by decide +kernel
theorem dX8_readsSeries_71 : decode cX8_readsSeries 71 = .ok (.if_icmp .ne 37, 3) := by decide +kernel
theorem dX8_readsSeries_74 : decode cX8_readsSeries 74 = .ok (.aload_n 0, 1) := by decide +kernel
theorem dX8_readsSeries_75 : decode cX8_readsSeries 75 = .ok (.invokevirtual 255, 3) := by decide +kernel
theorem dX8_readsSeries_78 : decode cX8_readsSeries 78 = .ok (.bipush 45, 2) := by decide +kernel
theorem dX8_readsSeries_80 : decode cX8_readsSeries 80 = .ok (.if_icmp .ne 7, 3) := by decide +kernel
theorem dX8_readsSeries_83 : decode cX8_readsSeries 83 = .ok (.iconst (-1), 1) := by decide +kernel
theorem dX8_readsSeries_84 : decode cX8_readsSeries 84 = .ok (.goto 4, 3) := by decide +kernel
theorem dX8_readsSeries_87 : decode cX8_readsSeries 87 = .ok (.iconst 1, 1) := by decide +kernel
theorem dX8_readsSeries_88 : decode cX8_readsSeries 88 = .ok (.istore_n 1, 1) := by decide +kernel
theorem dX8_readsSeries_89 : decode cX8_readsSeries 89 = .ok (.aload_n 0, 1) := by decide +kernel
theorem dX8_readsSeries_90 : decode cX8_readsSeries 90 = .ok (.dup, 1) := by decide +kernel
theorem dX8_readsSeries_91 : decode cX8_readsSeries 91 = .ok (.getfield 252, 3) := by decide +kernel
theorem dX8_readsSeries_94 : decode cX8_readsSeries 94 = .ok (.iconst 1, 1) := by decide +kernel
theorem dX8_readsSeries_95 : decode cX8_readsSeries 95 = .ok (.iadd, 1) := by decide +kernel
theorem dX8_readsSeries_96 : decode cX8_readsSeries 96 = .ok (.putfield 252, 3) := by decide +kernel
theorem dX8_readsSeries_99 : decode cX8_readsSeries 99 = .ok (.aload_n 0, 1) := by decide +kernel
theorem dX8_readsSeries_100 : decode cX8_readsSeries 100 = .ok (.iload_n 1, 1) := by decide +kernel
theorem dX8_readsSeries_101 : decode cX8_readsSeries 101 = .ok (.invokevirtual 268, 3) := by decide +kernel
theorem dX8_readsSeries_104 : decode cX8_readsSeries 104 = .ok (.istore_n 2, 1) := by decide +kernel
theorem dX8_readsSeries_105 : decode cX8_readsSeries 105 = .ok (.goto (-53), 3) := by decide +kernel
theorem dX8_readsSeries_108 : decode cX8_readsSeries 108 = .ok (.iload_n 2, 1) := by decide +kernel
theorem dX8_readsSeries_109 : decode cX8_readsSeries 109 = .ok (.ifCond .eq 18, 3) := by decide +kernel
theorem dX8_readsSeries_112 : decode cX8_readsSeries 112 = .ok (.aload_n 0, 1) := by decide +kernel
theorem dX8_readsSeries_113 : decode cX8_readsSeries 113 = .ok (.getfield 252, 3) := by decide +kernel
theorem dX8_readsSeries_116 : decode cX8_readsSeries 116 = .ok (.aload_n 0, 1) := by decide +kernel
theorem dX8_readsSeries_117 : decode cX8_readsSeries 117 = .ok (.getfield 242, 3) := by decide +kernel
theorem dX8_readsSeries_120 : decode cX8_readsSeries 120 = .ok (.if_icmp .ne 7, 3) := by decide +kernel
theorem dX8_readsSeries_123 : decode cX8_readsSeries 123 = .ok (.iconst 1, 1) := by decide +kernel
theorem dX8_readsSeries_124 : decode cX8_readsSeries 124 = .ok (.goto 4, 3) := by decide +kernel
theorem dX8_readsSeries_127 : decode cX8_readsSeries 127 = .ok (.iconst 0, 1) := by decide +kernel
theorem dX8_readsSeries_128 : decode cX8_readsSeries 128 = .ok (.ireturn, 1) := by decide +kernel
theorem dX8_parseSeries_0 : decode cX8_parseSeries 0 = .ok (.iload_n 1, 1) := by decide +kernel
theorem dX8_parseSeries_1 : decode cX8_parseSeries 1 = .ok (.invokestatic 112, 3) := by decide +kernel
theorem dX8_parseSeries_4 : decode cX8_parseSeries 4 = .ok (.ifCond .ne 6, 3) := by decide +kernel
theorem dX8_parseSeries_7 : decode cX8_parseSeries 7 = .ok (.bipush (-2), 2) := by decide +kernel
theorem dX8_parseSeries_9 : decode cX8_parseSeries 9 = .ok (.ireturn, 1) := by decide +kernel
theorem dX8_parseSeries_10 : decode cX8_parseSeries 10 = .ok (.aload_n 0, 1) := by decide +kernel
theorem dX8_parseSeries_11 : decode cX8_parseSeries 11 = .ok (.invokevirtual 271, 3) := by decide +kernel
theorem dX8_parseSeries_14 : decode cX8_parseSeries 14 = .ok (.istore_n 2, 1) := by decide +kernel
theorem dX8_parseSeries_15 : decode cX8_parseSeries 15 = .ok (.aload_n 0, 1) := by decide +kernel
theorem dX8_parseSeries_16 : decode cX8_parseSeries 16 = .ok (.iconst 0, 1) := by decide +kernel
theorem dX8_parseSeries_17 : decode cX8_parseSeries 17 = .ok (.putfield 242, 3) := by decide +kernel
theorem dX8_parseSeries_20 : decode cX8_parseSeries 20 = .ok (.iload_n 2, 1) := by decide +kernel
theorem dX8_parseSeries_21 : decode cX8_parseSeries 21 = .ok (.ifCond .eq 11, 3) := by decide +kernel
theorem dX8_parseSeries_24 : decode cX8_parseSeries 24 = .ok (.aload_n 0, 1) := by decide +kernel
theorem dX8_parseSeries_25 : decode cX8_parseSeries 25 = .ok (.iload_n 1, 1) := by decide +kernel
theorem dX8_parseSeries_26 : decode cX8_parseSeries 26 = .ok (.invokevirtual 133, 3) := by decide +kernel
theorem dX8_parseSeries_29 : decode cX8_parseSeries 29 = .ok (.goto 11, 3) := by decide +kernel
theorem dX8_parseSeries_32 : decode cX8_parseSeries 32 = .ok (.sipush (-1000), 3) := by decide +kernel
theorem dX8_parseSeries_35 : decode cX8_parseSeries 35 = .ok (.aload_n 0, 1) := by decide +kernel
theorem dX8_parseSeries_36 : decode cX8_parseSeries 36 = .ok (.getfield 252, 3) := by decide +kernel
theorem dX8_parseSeries_39 : decode cX8_parseSeries 39 = .ok (.isub, 1) := by decide +kernel
theorem dX8_parseSeries_40 : decode cX8_parseSeries 40 = .ok (.ireturn, 1) := by decide +kernel
theorem dX8_write_0 : decode cX8_write 0 = .ok (.aload_n 0, 1) := by decide +kernel
theorem dX8_write_1 : decode cX8_write 1 = .ok (.getfield 68, 3) := by decide +kernel
theorem dX8_write_4 : decode cX8_write 4 = .ok (.aload_n 0, 1) := by decide +kernel
theorem dX8_write_5 : decode cX8_write 5 = .ok (.getfield 274, 3) := by decide +kernel
theorem dX8_write_8 : decode cX8_write 8 = .ok (.iload_n 1, 1) := by decide +kernel
theorem dX8_write_9 : decode cX8_write 9 = .ok (.iastore, 1) := by decide +kernel
theorem dX8_write_10 : decode cX8_write 10 = .ok (.aload_n 0, 1) := by decide +kernel
theorem dX8_write_11 : decode cX8_write 11 = .ok (.dup, 1) := by decide +kernel
theorem dX8_write_12 : decode cX8_write 12 = .ok (.getfield 274, 3) := by decide +kernel
theorem dX8_write_15 : decode cX8_write 15 = .ok (.iconst 1, 1) := by decide +kernel
theorem dX8_write_16 : decode cX8_write 16 = .ok (.iadd, 1) := by decide +kernel
theorem dX8_write_17 : decode cX8_write 17 = .ok (.putfield 274, 3) := by decide +kernel
theorem dX8_write_20 : decode cX8_write 20 = .ok (.return_, 1) := by decide +kernel
theorem dX8_writeNumber_0 : decode cX8_writeNumber 0 = .ok (.lconst 1, 1) := by decide +kernel
theorem dX8_writeNumber_1 : decode cX8_writeNumber 1 = .ok (.lstore_n 3, 1) := by decide +kernel
theorem dX8_writeNumber_2 : decode cX8_writeNumber 2 = .ok (.lload_n 1, 1) := by decide +kernel
theorem dX8_writeNumber_3 : decode cX8_writeNumber 3 = .ok (.lload_n 3, 1) := by decide +kernel
theorem dX8_writeNumber_4 : decode cX8_writeNumber 4 = .ok (.ldiv, 1) := by decide +kernel
theorem dX8_writeNumber_5 : decode cX8_writeNumber 5 = .ok (.ldc2_w 127, 3) := by decide +kernel
theorem dX8_writeNumber_8 : decode cX8_writeNumber 8 = .ok (.lcmp, 1) := by decide +kernel
theorem dX8_writeNumber_9 : decode cX8_writeNumber 9 = .ok (.ifCond .le 12, 3) := by decide +kernel
theorem dX8_writeNumber_12 : decode cX8_writeNumber 12 = .ok (.lload_n 3, 1) := by decide +kernel
theorem dX8_writeNumber_13 : decode cX8_writeNumber 13 = .ok (.ldc2_w 277, 3) := by decide +kernel
theorem dX8_writeNumber_16 : decode cX8_writeNumber 16 = .ok (.lmul, 1) := by decide +kernel
theorem dX8_writeNumber_17 : decode cX8_writeNumber 17 = .ok (.lstore_n 3, 1) := by decide +kernel
theorem dX8_writeNumber_18 : decode cX8_writeNumber 18 = .ok (.goto (-16), 3) := by decide +kernel
theorem dX8_writeNumber_21 : decode cX8_writeNumber 21 = .ok (.lload_n 3, 1) := by decide +kernel
theorem dX8_writeNumber_22 : decode cX8_writeNumber 22 = .ok (.lstore 5, 2) := by decide +kernel
theorem dX8_writeNumber_24 : decode cX8_writeNumber 24 = .ok (.lload 5, 2) := by decide +kernel
theorem dX8_writeNumber_26 : decode cX8_writeNumber 26 = .ok (.lconst 0, 1) := by decide +kernel
theorem dX8_writeNumber_27 : decode cX8_writeNumber 27 = .ok (.lcmp, 1) := by decide +kernel
theorem dX8_writeNumber_28 : decode cX8_writeNumber 28 = .ok (.ifCond .le 31, 3) := by decide +kernel
theorem dX8_writeNumber_31 : decode cX8_writeNumber 31 = .ok (.aload_n 0, 1) := by decide +kernel
theorem dX8_writeNumber_32 : decode cX8_writeNumber 32 = .ok (.ldc2_w 258, 3) := by decide +kernel
theorem dX8_writeNumber_35 : decode cX8_writeNumber 35 = .ok (.lload_n 1, 1) := by decide +kernel
theorem dX8_writeNumber_36 : decode cX8_writeNumber 36 = .ok (.lload 5, 2) := by decide +kernel
theorem dX8_writeNumber_38 : decode cX8_writeNumber 38 = .ok (.ldiv, 1) := by decide +kernel
theorem dX8_writeNumber_39 : decode cX8_writeNumber 39 = .ok (.ldc2_w 277, 3) := by decide +kernel
theorem dX8_writeNumber_42 : decode cX8_writeNumber 42 = .ok (.lrem, 1) := by decide +kernel
theorem dX8_writeNumber_43 : decode cX8_writeNumber 43 = .ok (.ladd, 1) := by decide +kernel
theorem dX8_writeNumber_44 : decode cX8_writeNumber 44 = .ok (.l2i, 1) := by decide +kernel
theorem dX8_writeNumber_45 : decode cX8_writeNumber 45 = .ok (.invokevirtual 279, 3) := by decide +kernel
theorem dX8_writeNumber_48 : decode cX8_writeNumber 48 = .ok (.lload 5, 2) := by decide +kernel
theorem dX8_writeNumber_50 : decode cX8_writeNumber 50 = .ok (.ldc2_w 277, 3) := by decide +kernel
theorem dX8_writeNumber_53 : decode cX8_writeNumber 53 = .ok (.ldiv, 1) := by decide +kernel
theorem dX8_writeNumber_54 : decode cX8_writeNumber 54 = .ok (.lstore 5, 2) := by decide +kernel
theorem dX8_writeNumber_56 : decode cX8_writeNumber 56 = .ok (.goto (-32), 3) := by decide +kernel
theorem dX8_writeNumber_59 : decode cX8_writeNumber 59 = .ok (.return_, 1) := by decide +kernel
theorem dX8_format_0 : decode cX8_format 0 = .ok (.iload_n 1, 1) := by decide +kernel
theorem dX8_format_1 : decode cX8_format 1 = .ok (.invokestatic 112, 3) := by decide +kernel
theorem dX8_format_4 : decode cX8_format 4 = .ok (.ifCond .ne 6, 3) := by decide +kernel
theorem dX8_format_7 : decode cX8_format 7 = .ok (.bipush (-2), 2) := by decide +kernel
theorem dX8_format_9 : decode cX8_format 9 = .ok (.ireturn, 1) := by decide +kernel
theorem dX8_format_10 : decode cX8_format 10 = .ok (.aload_n 0, 1) := by decide +kernel
theorem dX8_format_11 : decode cX8_format 11 = .ok (.iconst 0, 1) := by decide +kernel
theorem dX8_format_12 : decode cX8_format 12 = .ok (.putfield 274, 3) := by decide +kernel
theorem dX8_format_15 : decode cX8_format 15 = .ok (.iconst 0, 1) := by decide +kernel
theorem dX8_format_16 : decode cX8_format 16 = .ok (.istore_n 2, 1) := by decide +kernel
theorem dX8_format_17 : decode cX8_format 17 = .ok (.iload_n 2, 1) := by decide +kernel
theorem dX8_format_18 : decode cX8_format 18 = .ok (.aload_n 0, 1) := by decide +kernel
theorem dX8_format_19 : decode cX8_format 19 = .ok (.getfield 17, 3) := by decide +kernel
theorem dX8_format_22 : decode cX8_format 22 = .ok (.if_icmp .ge 106, 3) := by decide +kernel
theorem dX8_format_25 : decode cX8_format 25 = .ok (.aload_n 0, 1) := by decide +kernel
theorem dX8_format_26 : decode cX8_format 26 = .ok (.getfield 21, 3) := by decide +kernel
theorem dX8_format_29 : decode cX8_format 29 = .ok (.bipush 24, 2) := by decide +kernel
theorem dX8_format_31 : decode cX8_format 31 = .ok (.iload_n 1, 1) := by decide +kernel
theorem dX8_format_32 : decode cX8_format 32 = .ok (.imul, 1) := by decide +kernel
theorem dX8_format_33 : decode cX8_format 33 = .ok (.iload_n 2, 1) := by decide +kernel
theorem dX8_format_34 : decode cX8_format 34 = .ok (.iadd, 1) := by decide +kernel
theorem dX8_format_35 : decode cX8_format 35 = .ok (.laload, 1) := by decide +kernel
theorem dX8_format_36 : decode cX8_format 36 = .ok (.lstore_n 3, 1) := by decide +kernel
theorem dX8_format_37 : decode cX8_format 37 = .ok (.lload_n 3, 1) := by decide +kernel
theorem dX8_format_38 : decode cX8_format 38 = .ok (.lconst 0, 1) := by decide +kernel
theorem dX8_format_39 : decode cX8_format 39 = .ok (.lcmp, 1) := by decide +kernel
theorem dX8_format_40 : decode cX8_format 40 = .ok (.ifCond .ne 6, 3) := by decide +kernel
theorem dX8_format_43 : decode cX8_format 43 = .ok (.goto 79, 3) := by decide +kernel
theorem dX8_format_46 : decode cX8_format 46 = .ok (.lload_n 3, 1) := by decide +kernel
theorem dX8_format_47 : decode cX8_format 47 = .ok (.lconst 0, 1) := by decide +kernel
theorem dX8_format_48 : decode cX8_format 48 = .ok (.lcmp, 1) := by decide +kernel
theorem dX8_format_49 : decode cX8_format 49 = .ok (.ifCond .ge 12, 3) := by decide +kernel
theorem dX8_format_52 : decode cX8_format 52 = .ok (.aload_n 0, 1) := by decide +kernel
theorem dX8_format_53 : decode cX8_format 53 = .ok (.bipush 45, 2) := by decide +kernel
theorem dX8_format_55 : decode cX8_format 55 = .ok (.invokevirtual 279, 3) := by decide +kernel
theorem dX8_format_58 : decode cX8_format 58 = .ok (.goto 16, 3) := by decide +kernel
theorem dX8_format_61 : decode cX8_format 61 = .ok (.aload_n 0, 1) := by decide +kernel
theorem dX8_format_62 : decode cX8_format 62 = .ok (.getfield 274, 3) := by decide +kernel
theorem dX8_format_65 : decode cX8_format 65 = .ok (.ifCond .le 9, 3) := by decide +kernel
theorem dX8_format_68 : decode cX8_format 68 = .ok (.aload_n 0, 1) := by decide +kernel
theorem dX8_format_69 : decode cX8_format 69 = .ok (.bipush 43, 2) := by decide +kernel
theorem dX8_format_71 : decode cX8_format 71 = .ok (.invokevirtual 279, 3) := by decide +kernel
theorem dX8_format_74 : decode cX8_format 74 = .ok (.iload_n 2, 1) := by decide +kernel
theorem dX8_format_75 : decode cX8_format 75 = .ok (.ifCond .eq 12, 3) := by decide +kernel
theorem dX8_format_78 : decode cX8_format 78 = .ok (.lload_n 3, 1) := by decide +kernel
theorem dX8_format_79 : decode cX8_format 79 = .ok (.invokestatic 169, 3) := by decide +kernel
theorem dX8_format_82 : decode cX8_format 82 = .ok (.lconst 1, 1) := by decide +kernel
theorem dX8_format_83 : decode cX8_format 83 = .ok (.lcmp, 1) := by decide +kernel
theorem dX8_format_84 : decode cX8_format 84 = .ok (.ifCond .eq 11, 3) := by decide +kernel
theorem dX8_format_87 : decode cX8_format 87 = .ok (.aload_n 0, 1) := by decide +kernel
theorem dX8_format_88 : decode cX8_format 88 = .ok (.lload_n 3, 1) := by decide +kernel
theorem dX8_format_89 : decode cX8_format 89 = .ok (.invokestatic 169, 3) := by decide +kernel
theorem dX8_format_92 : decode cX8_format 92 = .ok (.invokevirtual 283, 3) := by decide +kernel
theorem dX8_format_95 : decode cX8_format 95 = .ok (.iload_n 2, 1) := by decide +kernel
theorem dX8_format_96 : decode cX8_format 96 = .ok (.ifCond .le 9, 3) := by decide +kernel
theorem dX8_format_99 : decode cX8_format 99 = .ok (.aload_n 0, 1) := by decide +kernel
theorem dX8_format_100 : decode cX8_format 100 = .ok (.bipush 113, 2) := by decide +kernel
theorem dX8_format_102 : decode cX8_format 102 = .ok (.invokevirtual 279, 3) := by decide +kernel
theorem dX8_format_105 : decode cX8_format 105 = .ok (.iload_n 2, 1) := by decide +kernel
theorem dX8_format_106 : decode cX8_format 106 = .ok (.iconst 1, 1) := by decide +kernel
theorem dX8_format_107 : decode cX8_format 107 = .ok (.if_icmp .le 15, 3) := by decide +kernel
theorem dX8_format_110 : decode cX8_format 110 = .ok (.aload_n 0, 1) := by decide +kernel
theorem dX8_format_111 : decode cX8_format 111 = .ok (.bipush 94, 2) := by decide +kernel
theorem dX8_format_113 : decode cX8_format 113 = .ok (.invokevirtual 279, 3) := by decide +kernel
theorem dX8_format_116 : decode cX8_format 116 = .ok (.aload_n 0, 1) := by decide +kernel
theorem dX8_format_117 : decode cX8_format 117 = .ok (.iload_n 2, 1) := by decide +kernel
theorem dX8_format_118 : decode cX8_format 118 = .ok (.i2l, 1) := by decide +kernel
theorem dX8_format_119 : decode cX8_format 119 = .ok (.invokevirtual 283, 3) := by decide +kernel
theorem dX8_format_122 : decode cX8_format 122 = .ok (.iinc 2 1, 3) := by decide +kernel
theorem dX8_format_125 : decode cX8_format 125 = .ok (.goto (-108), 3) := by decide +kernel
theorem dX8_format_128 : decode cX8_format 128 = .ok (.aload_n 0, 1) := by decide +kernel
theorem dX8_format_129 : decode cX8_format 129 = .ok (.getfield 274, 3) := by decide +kernel
theorem dX8_format_132 : decode cX8_format 132 = .ok (.ifCond .ne 9, 3) := by decide +kernel
theorem dX8_format_135 : decode cX8_format 135 = .ok (.aload_n 0, 1) := by decide +kernel
theorem dX8_format_136 : decode cX8_format 136 = .ok (.bipush 48, 2) := by decide +kernel
theorem dX8_format_138 : decode cX8_format 138 = .ok (.invokevirtual 279, 3) := by decide +kernel
theorem dX8_format_141 : decode cX8_format 141 = .ok (.aload_n 0, 1) := by decide +kernel
theorem dX8_format_142 : decode cX8_format 142 = .ok (.getfield 274, 3) := by decide +kernel
theorem dX8_format_145 : decode cX8_format 145 = .ok (.ireturn, 1) := by decide +kernel
theorem dX8_outputByte_0 : decode cX8_outputByte 0 = .ok (.iload_n 1, 1) := by decide +kernel
theorem dX8_outputByte_1 : decode cX8_outputByte 1 = .ok (.i2l, 1) := by decide +kernel
theorem dX8_outputByte_2 : decode cX8_outputByte 2 = .ok (.lconst 0, 1) := by decide +kernel
theorem dX8_outputByte_3 : decode cX8_outputByte 3 = .ok (.aload_n 0, 1) := by decide +kernel
theorem dX8_outputByte_4 : decode cX8_outputByte 4 = .ok (.getfield 274, 3) := by decide +kernel
theorem dX8_outputByte_7 : decode cX8_outputByte 7 = .ok (.iconst 1, 1) := by decide +kernel
theorem dX8_outputByte_8 : decode cX8_outputByte 8 = .ok (.isub, 1) := by decide +kernel
theorem dX8_outputByte_9 : decode cX8_outputByte 9 = .ok (.i2l, 1) := by decide +kernel
theorem dX8_outputByte_10 : decode cX8_outputByte 10 = .ok (.invokestatic 7, 3) := by decide +kernel
theorem dX8_outputByte_13 : decode cX8_outputByte 13 = .ok (.ifCond .eq 12, 3) := by decide +kernel
theorem dX8_outputByte_16 : decode cX8_outputByte 16 = .ok (.aload_n 0, 1) := by decide +kernel
theorem dX8_outputByte_17 : decode cX8_outputByte 17 = .ok (.getfield 68, 3) := by decide +kernel
theorem dX8_outputByte_20 : decode cX8_outputByte 20 = .ok (.iload_n 1, 1) := by decide +kernel
theorem dX8_outputByte_21 : decode cX8_outputByte 21 = .ok (.iaload, 1) := by decide +kernel
theorem dX8_outputByte_22 : decode cX8_outputByte 22 = .ok (.goto 5, 3) := by decide +kernel
theorem dX8_outputByte_25 : decode cX8_outputByte 25 = .ok (.bipush (-7), 2) := by decide +kernel
theorem dX8_outputByte_27 : decode cX8_outputByte 27 = .ok (.ireturn, 1) := by decide +kernel
theorem dX8_isSlot_0 : decode cX8_isSlot 0 = .ok (.iload_n 0, 1) := by decide +kernel
theorem dX8_isSlot_1 : decode cX8_isSlot 1 = .ok (.i2l, 1) := by decide +kernel
theorem dX8_isSlot_2 : decode cX8_isSlot 2 = .ok (.lconst 0, 1) := by decide +kernel
theorem dX8_isSlot_3 : decode cX8_isSlot 3 = .ok (.ldc2_w 158, 3) := by decide +kernel
theorem dX8_isSlot_6 : decode cX8_isSlot 6 = .ok (.invokestatic 7, 3) := by decide +kernel
theorem dX8_isSlot_9 : decode cX8_isSlot 9 = .ok (.ireturn, 1) := by decide +kernel
theorem dX8_narrow_0 : decode cX8_narrow 0 = .ok (.iload_n 0, 1) := by decide +kernel
theorem dX8_narrow_1 : decode cX8_narrow 1 = .ok (.ifCond .ne 10, 3) := by decide +kernel
theorem dX8_narrow_4 : decode cX8_narrow 4 = .ok (.lload_n 1, 1) := by decide +kernel
theorem dX8_narrow_5 : decode cX8_narrow 5 = .ok (.l2i, 1) := by decide +kernel
theorem dX8_narrow_6 : decode cX8_narrow 6 = .ok (.i2b, 1) := by decide +kernel
theorem dX8_narrow_7 : decode cX8_narrow 7 = .ok (.i2l, 1) := by decide +kernel
theorem dX8_narrow_8 : decode cX8_narrow 8 = .ok (.goto 27, 3) := by decide +kernel
theorem dX8_narrow_11 : decode cX8_narrow 11 = .ok (.iload_n 0, 1) := by decide +kernel
theorem dX8_narrow_12 : decode cX8_narrow 12 = .ok (.iconst 1, 1) := by decide +kernel
theorem dX8_narrow_13 : decode cX8_narrow 13 = .ok (.if_icmp .ne 10, 3) := by decide +kernel
theorem dX8_narrow_16 : decode cX8_narrow 16 = .ok (.lload_n 1, 1) := by decide +kernel
theorem dX8_narrow_17 : decode cX8_narrow 17 = .ok (.l2i, 1) := by decide +kernel
theorem dX8_narrow_18 : decode cX8_narrow 18 = .ok (.i2s, 1) := by decide +kernel
theorem dX8_narrow_19 : decode cX8_narrow 19 = .ok (.i2l, 1) := by decide +kernel
theorem dX8_narrow_20 : decode cX8_narrow 20 = .ok (.goto 15, 3) := by decide +kernel
theorem dX8_narrow_23 : decode cX8_narrow 23 = .ok (.iload_n 0, 1) := by decide +kernel
theorem dX8_narrow_24 : decode cX8_narrow 24 = .ok (.iconst 2, 1) := by decide +kernel
theorem dX8_narrow_25 : decode cX8_narrow 25 = .ok (.if_icmp .ne 9, 3) := by decide +kernel
theorem dX8_narrow_28 : decode cX8_narrow 28 = .ok (.lload_n 1, 1) := by decide +kernel
theorem dX8_narrow_29 : decode cX8_narrow 29 = .ok (.l2i, 1) := by decide +kernel
theorem dX8_narrow_30 : decode cX8_narrow 30 = .ok (.i2l, 1) := by decide +kernel
theorem dX8_narrow_31 : decode cX8_narrow 31 = .ok (.goto 4, 3) := by decide +kernel
theorem dX8_narrow_34 : decode cX8_narrow 34 = .ok (.lload_n 1, 1) := by decide +kernel
theorem dX8_narrow_35 : decode cX8_narrow 35 = .ok (.lreturn, 1) := by decide +kernel
theorem dX8_allocate_0 : decode cX8_allocate 0 = .ok (.iload_n 1, 1) := by decide +kernel
theorem dX8_allocate_1 : decode cX8_allocate 1 = .ok (.invokestatic 287, 3) := by decide +kernel
theorem dX8_allocate_4 : decode cX8_allocate 4 = .ok (.ifCond .eq 21, 3) := by decide +kernel
theorem dX8_allocate_7 : decode cX8_allocate 7 = .ok (.iload_n 2, 1) := by decide +kernel
theorem dX8_allocate_8 : decode cX8_allocate 8 = .ok (.i2l, 1) := by decide +kernel
theorem dX8_allocate_9 : decode cX8_allocate 9 = .ok (.lconst 0, 1) := by decide +kernel
theorem dX8_allocate_10 : decode cX8_allocate 10 = .ok (.ldc2_w 158, 3) := by decide +kernel
theorem dX8_allocate_13 : decode cX8_allocate 13 = .ok (.invokestatic 7, 3) := by decide +kernel
theorem dX8_allocate_16 : decode cX8_allocate 16 = .ok (.ifCond .eq 9, 3) := by decide +kernel
theorem dX8_allocate_19 : decode cX8_allocate 19 = .ok (.iload_n 3, 1) := by decide +kernel
theorem dX8_allocate_20 : decode cX8_allocate 20 = .ok (.bipush 40, 2) := by decide +kernel
theorem dX8_allocate_22 : decode cX8_allocate 22 = .ok (.if_icmp .le 5, 3) := by decide +kernel
theorem dX8_allocate_25 : decode cX8_allocate 25 = .ok (.iconst (-1), 1) := by decide +kernel
theorem dX8_allocate_26 : decode cX8_allocate 26 = .ok (.ireturn, 1) := by decide +kernel
theorem dX8_allocate_27 : decode cX8_allocate 27 = .ok (.iload_n 3, 1) := by decide +kernel
theorem dX8_allocate_28 : decode cX8_allocate 28 = .ok (.ifCond .ge 6, 3) := by decide +kernel
theorem dX8_allocate_31 : decode cX8_allocate 31 = .ok (.bipush (-14), 2) := by decide +kernel
theorem dX8_allocate_33 : decode cX8_allocate 33 = .ok (.ireturn, 1) := by decide +kernel
theorem dX8_allocate_34 : decode cX8_allocate 34 = .ok (.aload_n 0, 1) := by decide +kernel
theorem dX8_allocate_35 : decode cX8_allocate 35 = .ok (.getfield 71, 3) := by decide +kernel
theorem dX8_allocate_38 : decode cX8_allocate 38 = .ok (.iload_n 1, 1) := by decide +kernel
theorem dX8_allocate_39 : decode cX8_allocate 39 = .ok (.iload_n 2, 1) := by decide +kernel
theorem dX8_allocate_40 : decode cX8_allocate 40 = .ok (.iastore, 1) := by decide +kernel
theorem dX8_allocate_41 : decode cX8_allocate 41 = .ok (.aload_n 0, 1) := by decide +kernel
theorem dX8_allocate_42 : decode cX8_allocate 42 = .ok (.getfield 74, 3) := by decide +kernel
theorem dX8_allocate_45 : decode cX8_allocate 45 = .ok (.iload_n 1, 1) := by decide +kernel
theorem dX8_allocate_46 : decode cX8_allocate 46 = .ok (.iload_n 3, 1) := by decide +kernel
theorem dX8_allocate_47 : decode cX8_allocate 47 = .ok (.iastore, 1) := by decide +kernel
theorem dX8_allocate_48 : decode cX8_allocate 48 = .ok (.iconst 0, 1) := by decide +kernel
theorem dX8_allocate_49 : decode cX8_allocate 49 = .ok (.istore 4, 2) := by decide +kernel
theorem dX8_allocate_51 : decode cX8_allocate 51 = .ok (.iload 4, 2) := by decide +kernel
theorem dX8_allocate_53 : decode cX8_allocate 53 = .ok (.bipush 40, 2) := by decide +kernel
theorem dX8_allocate_55 : decode cX8_allocate 55 = .ok (.if_icmp .ge 22, 3) := by decide +kernel
theorem dX8_allocate_58 : decode cX8_allocate 58 = .ok (.aload_n 0, 1) := by decide +kernel
theorem dX8_allocate_59 : decode cX8_allocate 59 = .ok (.getfield 77, 3) := by decide +kernel
theorem dX8_allocate_62 : decode cX8_allocate 62 = .ok (.bipush 40, 2) := by decide +kernel
theorem dX8_allocate_64 : decode cX8_allocate 64 = .ok (.iload_n 1, 1) := by decide +kernel
theorem dX8_allocate_65 : decode cX8_allocate 65 = .ok (.imul, 1) := by decide +kernel
theorem dX8_allocate_66 : decode cX8_allocate 66 = .ok (.iload 4, 2) := by decide +kernel
theorem dX8_allocate_68 : decode cX8_allocate 68 = .ok (.iadd, 1) := by decide +kernel
theorem dX8_allocate_69 : decode cX8_allocate 69 = .ok (.lconst 0, 1) := by decide +kernel
theorem dX8_allocate_70 : decode cX8_allocate 70 = .ok (.lastore, 1) := by decide +kernel
theorem dX8_allocate_71 : decode cX8_allocate 71 = .ok (.iinc 4 1, 3) := by decide +kernel
theorem dX8_allocate_74 : decode cX8_allocate 74 = .ok (.goto (-23), 3) := by decide +kernel
theorem dX8_allocate_77 : decode cX8_allocate 77 = .ok (.iload_n 3, 1) := by decide +kernel
theorem dX8_allocate_78 : decode cX8_allocate 78 = .ok (.ireturn, 1) := by decide +kernel
theorem dX8_release_0 : decode cX8_release 0 = .ok (.iload_n 1, 1) := by decide +kernel
theorem dX8_release_1 : decode cX8_release 1 = .ok (.invokestatic 287, 3) := by decide +kernel
theorem dX8_release_4 : decode cX8_release 4 = .ok (.ifCond .ne 5, 3) := by decide +kernel
theorem dX8_release_7 : decode cX8_release 7 = .ok (.iconst (-1), 1) := by decide +kernel
theorem dX8_release_8 : decode cX8_release 8 = .ok (.ireturn, 1) := by decide +kernel
theorem dX8_release_9 : decode cX8_release 9 = .ok (.aload_n 0, 1) := by decide +kernel
theorem dX8_release_10 : decode cX8_release 10 = .ok (.getfield 74, 3) := by decide +kernel
theorem dX8_release_13 : decode cX8_release 13 = .ok (.iload_n 1, 1) := by decide +kernel
theorem dX8_release_14 : decode cX8_release 14 = .ok (.iaload, 1) := by decide +kernel
theorem dX8_release_15 : decode cX8_release 15 = .ok (.ifCond .ge 7, 3) := by decide +kernel
theorem dX8_release_18 : decode cX8_release 18 = .ok (.iconst 0, 1) := by decide +kernel
theorem dX8_release_19 : decode cX8_release 19 = .ok (.goto 4, 3) := by decide +kernel
theorem dX8_release_22 : decode cX8_release 22 = .ok (.iconst 1, 1) := by decide +kernel
theorem dX8_release_23 : decode cX8_release 23 = .ok (.istore_n 2, 1) := by decide +kernel
theorem dX8_release_24 : decode cX8_release 24 = .ok (.aload_n 0, 1) := by decide +kernel
theorem dX8_release_25 : decode cX8_release 25 = .ok (.getfield 74, 3) := by decide +kernel
theorem dX8_release_28 : decode cX8_release 28 = .ok (.iload_n 1, 1) := by decide +kernel
theorem dX8_release_29 : decode cX8_release 29 = .ok (.iconst (-1), 1) := by decide +kernel
theorem dX8_release_30 : decode cX8_release 30 = .ok (.iastore, 1) := by decide +kernel
theorem dX8_release_31 : decode cX8_release 31 = .ok (.iload_n 2, 1) := by decide +kernel
theorem dX8_release_32 : decode cX8_release 32 = .ok (.ireturn, 1) := by decide +kernel
theorem dX8_putElement_0 : decode cX8_putElement 0 = .ok (.iload_n 1, 1) := by decide +kernel
theorem dX8_putElement_1 : decode cX8_putElement 1 = .ok (.invokestatic 287, 3) := by decide +kernel
theorem dX8_putElement_4 : decode cX8_putElement 4 = .ok (.ifCond .ne 5, 3) := by decide +kernel
theorem dX8_putElement_7 : decode cX8_putElement 7 = .ok (.iconst (-1), 1) := by decide +kernel
theorem dX8_putElement_8 : decode cX8_putElement 8 = .ok (.ireturn, 1) := by decide +kernel
theorem dX8_putElement_9 : decode cX8_putElement 9 = .ok (.aload_n 0, 1) := by decide +kernel
theorem dX8_putElement_10 : decode cX8_putElement 10 = .ok (.getfield 74, 3) := by decide +kernel
theorem dX8_putElement_13 : decode cX8_putElement 13 = .ok (.iload_n 1, 1) := by decide +kernel
theorem dX8_putElement_14 : decode cX8_putElement 14 = .ok (.iaload, 1) := by decide +kernel
theorem dX8_putElement_15 : decode cX8_putElement 15 = .ok (.ifCond .ge 6, 3) := by decide +kernel
theorem dX8_putElement_18 : decode cX8_putElement 18 = .ok (.bipush (-11), 2) := by decide +kernel
theorem dX8_putElement_20 : decode cX8_putElement 20 = .ok (.ireturn, 1) := by decide +kernel
theorem dX8_putElement_21 : decode cX8_putElement 21 = .ok (.iload_n 2, 1) := by decide +kernel
theorem dX8_putElement_22 : decode cX8_putElement 22 = .ok (.i2l, 1) := by decide +kernel
theorem dX8_putElement_23 : decode cX8_putElement 23 = .ok (.lconst 0, 1) := by decide +kernel
theorem dX8_putElement_24 : decode cX8_putElement 24 = .ok (.aload_n 0, 1) := by decide +kernel
theorem dX8_putElement_25 : decode cX8_putElement 25 = .ok (.getfield 74, 3) := by decide +kernel
theorem dX8_putElement_28 : decode cX8_putElement 28 = .ok (.iload_n 1, 1) := by decide +kernel
theorem dX8_putElement_29 : decode cX8_putElement 29 = .ok (.iaload, 1) := by decide +kernel
theorem dX8_putElement_30 : decode cX8_putElement 30 = .ok (.iconst 1, 1) := by decide +kernel
theorem dX8_putElement_31 : decode cX8_putElement 31 = .ok (.isub, 1) := by decide +kernel
theorem dX8_putElement_32 : decode cX8_putElement 32 = .ok (.i2l, 1) := by decide +kernel
theorem dX8_putElement_33 : decode cX8_putElement 33 = .ok (.invokestatic 7, 3) := by decide +kernel
theorem dX8_putElement_36 : decode cX8_putElement 36 = .ok (.ifCond .ne 6, 3) := by decide +kernel
theorem dX8_putElement_39 : decode cX8_putElement 39 = .ok (.bipush (-13), 2) := by decide +kernel
theorem dX8_putElement_41 : decode cX8_putElement 41 = .ok (.ireturn, 1) := by decide +kernel
theorem dX8_putElement_42 : decode cX8_putElement 42 = .ok (.aload_n 0, 1) := by decide +kernel
theorem dX8_putElement_43 : decode cX8_putElement 43 = .ok (.getfield 77, 3) := by decide +kernel
theorem dX8_putElement_46 : decode cX8_putElement 46 = .ok (.bipush 40, 2) := by decide +kernel
theorem dX8_putElement_48 : decode cX8_putElement 48 = .ok (.iload_n 1, 1) := by decide +kernel
theorem dX8_putElement_49 : decode cX8_putElement 49 = .ok (.imul, 1) := by decide +kernel
theorem dX8_putElement_50 : decode cX8_putElement 50 = .ok (.iload_n 2, 1) := by decide +kernel
theorem dX8_putElement_51 : decode cX8_putElement 51 = .ok (.iadd, 1) := by decide +kernel
theorem dX8_putElement_52 : decode cX8_putElement 52 = .ok (.aload_n 0, 1) := by decide +kernel
theorem dX8_putElement_53 : decode cX8_putElement 53 = .ok (.getfield 71, 3) := by decide +kernel
theorem dX8_putElement_56 : decode cX8_putElement 56 = .ok (.iload_n 1, 1) := by decide +kernel
theorem dX8_putElement_57 : decode cX8_putElement 57 = .ok (.iaload, 1) := by decide +kernel
theorem dX8_putElement_58 : decode cX8_putElement 58 = .ok (.lload_n 3, 1) := by decide +kernel
theorem dX8_putElement_59 : decode cX8_putElement 59 = .ok (.invokestatic 290, 3) := by decide +kernel
theorem dX8_putElement_62 : decode cX8_putElement 62 = .ok (.lastore, 1) := by decide +kernel
theorem dX8_putElement_63 : decode cX8_putElement 63 = .ok (.iconst 1, 1) := by decide +kernel
theorem dX8_putElement_64 : decode cX8_putElement 64 = .ok (.ireturn, 1) := by decide +kernel
theorem dX8_element_0 : decode cX8_element 0 = .ok (.iload_n 1, 1) := by decide +kernel
theorem dX8_element_1 : decode cX8_element 1 = .ok (.invokestatic 287, 3) := by decide +kernel
theorem dX8_element_4 : decode cX8_element 4 = .ok (.ifCond .eq 35, 3) := by decide +kernel
theorem dX8_element_7 : decode cX8_element 7 = .ok (.iload_n 2, 1) := by decide +kernel
theorem dX8_element_8 : decode cX8_element 8 = .ok (.i2l, 1) := by decide +kernel
theorem dX8_element_9 : decode cX8_element 9 = .ok (.lconst 0, 1) := by decide +kernel
theorem dX8_element_10 : decode cX8_element 10 = .ok (.aload_n 0, 1) := by decide +kernel
theorem dX8_element_11 : decode cX8_element 11 = .ok (.getfield 74, 3) := by decide +kernel
theorem dX8_element_14 : decode cX8_element 14 = .ok (.iload_n 1, 1) := by decide +kernel
theorem dX8_element_15 : decode cX8_element 15 = .ok (.iaload, 1) := by decide +kernel
theorem dX8_element_16 : decode cX8_element 16 = .ok (.iconst 1, 1) := by decide +kernel
theorem dX8_element_17 : decode cX8_element 17 = .ok (.isub, 1) := by decide +kernel
theorem dX8_element_18 : decode cX8_element 18 = .ok (.i2l, 1) := by decide +kernel
theorem dX8_element_19 : decode cX8_element 19 = .ok (.invokestatic 7, 3) := by decide +kernel
theorem dX8_element_22 : decode cX8_element 22 = .ok (.ifCond .eq 17, 3) := by decide +kernel
theorem dX8_element_25 : decode cX8_element 25 = .ok (.aload_n 0, 1) := by decide +kernel
theorem dX8_element_26 : decode cX8_element 26 = .ok (.getfield 77, 3) := by decide +kernel
theorem dX8_element_29 : decode cX8_element 29 = .ok (.bipush 40, 2) := by decide +kernel
theorem dX8_element_31 : decode cX8_element 31 = .ok (.iload_n 1, 1) := by decide +kernel
theorem dX8_element_32 : decode cX8_element 32 = .ok (.imul, 1) := by decide +kernel
theorem dX8_element_33 : decode cX8_element 33 = .ok (.iload_n 2, 1) := by decide +kernel
theorem dX8_element_34 : decode cX8_element 34 = .ok (.iadd, 1) := by decide +kernel
theorem dX8_element_35 : decode cX8_element 35 = .ok (.laload, 1) := by decide +kernel
theorem dX8_element_36 : decode cX8_element 36 = .ok (.goto 6, 3) := by decide +kernel
theorem dX8_element_39 : decode cX8_element 39 = .ok (.ldc2_w 116, 3) := by decide +kernel
theorem dX8_element_42 : decode cX8_element 42 = .ok (.lreturn, 1) := by decide +kernel
theorem dX8_copyElements_0 : decode cX8_copyElements 0 = .ok (.iload_n 1, 1) := by decide +kernel
theorem dX8_copyElements_1 : decode cX8_copyElements 1 = .ok (.invokestatic 287, 3) := by decide +kernel
theorem dX8_copyElements_4 : decode cX8_copyElements 4 = .ok (.ifCond .eq 10, 3) := by decide +kernel
theorem dX8_copyElements_7 : decode cX8_copyElements 7 = .ok (.iload_n 3, 1) := by decide +kernel
theorem dX8_copyElements_8 : decode cX8_copyElements 8 = .ok (.invokestatic 287, 3) := by decide +kernel
theorem dX8_copyElements_11 : decode cX8_copyElements 11 = .ok (.ifCond .ne 5, 3) := by decide +kernel
theorem dX8_copyElements_14 : decode cX8_copyElements 14 = .ok (.iconst (-1), 1) := by decide +kernel
theorem dX8_copyElements_15 : decode cX8_copyElements 15 = .ok (.ireturn, 1) := by decide +kernel
theorem dX8_copyElements_16 : decode cX8_copyElements 16 = .ok (.aload_n 0, 1) := by decide +kernel
theorem dX8_copyElements_17 : decode cX8_copyElements 17 = .ok (.getfield 74, 3) := by decide +kernel
theorem dX8_copyElements_20 : decode cX8_copyElements 20 = .ok (.iload_n 1, 1) := by decide +kernel
theorem dX8_copyElements_21 : decode cX8_copyElements 21 = .ok (.iaload, 1) := by decide +kernel
theorem dX8_copyElements_22 : decode cX8_copyElements 22 = .ok (.ifCond .lt 12, 3) := by decide +kernel
theorem dX8_copyElements_25 : decode cX8_copyElements 25 = .ok (.aload_n 0, 1) := by decide +kernel
theorem dX8_copyElements_26 : decode cX8_copyElements 26 = .ok (.getfield 74, 3) := by decide +kernel
theorem dX8_copyElements_29 : decode cX8_copyElements 29 = .ok (.iload_n 3, 1) := by decide +kernel
theorem dX8_copyElements_30 : decode cX8_copyElements 30 = .ok (.iaload, 1) := by decide +kernel
theorem dX8_copyElements_31 : decode cX8_copyElements 31 = .ok (.ifCond .ge 6, 3) := by decide +kernel
theorem dX8_copyElements_34 : decode cX8_copyElements 34 = .ok (.bipush (-11), 2) := by decide +kernel
theorem dX8_copyElements_36 : decode cX8_copyElements 36 = .ok (.ireturn, 1) := by decide +kernel
theorem dX8_copyElements_37 : decode cX8_copyElements 37 = .ok (.aload_n 0, 1) := by decide +kernel
theorem dX8_copyElements_38 : decode cX8_copyElements 38 = .ok (.getfield 71, 3) := by decide +kernel
theorem dX8_copyElements_41 : decode cX8_copyElements 41 = .ok (.iload_n 1, 1) := by decide +kernel
theorem dX8_copyElements_42 : decode cX8_copyElements 42 = .ok (.iaload, 1) := by decide +kernel
theorem dX8_copyElements_43 : decode cX8_copyElements 43 = .ok (.aload_n 0, 1) := by decide +kernel
theorem dX8_copyElements_44 : decode cX8_copyElements 44 = .ok (.getfield 71, 3) := by decide +kernel
theorem dX8_copyElements_47 : decode cX8_copyElements 47 = .ok (.iload_n 3, 1) := by decide +kernel
theorem dX8_copyElements_48 : decode cX8_copyElements 48 = .ok (.iaload, 1) := by decide +kernel
theorem dX8_copyElements_49 : decode cX8_copyElements 49 = .ok (.if_icmp .eq 6, 3) := by decide +kernel
theorem dX8_copyElements_52 : decode cX8_copyElements 52 = .ok (.bipush (-12), 2) := by decide +kernel
theorem dX8_copyElements_54 : decode cX8_copyElements 54 = .ok (.ireturn, 1) := by decide +kernel
theorem dX8_copyElements_55 : decode cX8_copyElements 55 = .ok (.iload_n 2, 1) := by decide +kernel
theorem dX8_copyElements_56 : decode cX8_copyElements 56 = .ok (.ifCond .lt 48, 3) := by decide +kernel
theorem dX8_copyElements_59 : decode cX8_copyElements 59 = .ok (.iload 4, 2) := by decide +kernel
theorem dX8_copyElements_61 : decode cX8_copyElements 61 = .ok (.ifCond .lt 43, 3) := by decide +kernel
theorem dX8_copyElements_64 : decode cX8_copyElements 64 = .ok (.iload 5, 2) := by decide +kernel
theorem dX8_copyElements_66 : decode cX8_copyElements 66 = .ok (.ifCond .lt 38, 3) := by decide +kernel
theorem dX8_copyElements_69 : decode cX8_copyElements 69 = .ok (.iload_n 2, 1) := by decide +kernel
theorem dX8_copyElements_70 : decode cX8_copyElements 70 = .ok (.i2l, 1) := by decide +kernel
theorem dX8_copyElements_71 : decode cX8_copyElements 71 = .ok (.iload 5, 2) := by decide +kernel
theorem dX8_copyElements_73 : decode cX8_copyElements 73 = .ok (.i2l, 1) := by decide +kernel
theorem dX8_copyElements_74 : decode cX8_copyElements 74 = .ok (.ladd, 1) := by decide +kernel
theorem dX8_copyElements_75 : decode cX8_copyElements 75 = .ok (.aload_n 0, 1) := by decide +kernel
theorem dX8_copyElements_76 : decode cX8_copyElements 76 = .ok (.getfield 74, 3) := by decide +kernel
theorem dX8_copyElements_79 : decode cX8_copyElements 79 = .ok (.iload_n 1, 1) := by decide +kernel
theorem dX8_copyElements_80 : decode cX8_copyElements 80 = .ok (.iaload, 1) := by decide +kernel
theorem dX8_copyElements_81 : decode cX8_copyElements 81 = .ok (.i2l, 1) := by decide +kernel
theorem dX8_copyElements_82 : decode cX8_copyElements 82 = .ok (.lcmp, 1) := by decide +kernel
theorem dX8_copyElements_83 : decode cX8_copyElements 83 = .ok (.ifCond .gt 21, 3) := by decide +kernel
theorem dX8_copyElements_86 : decode cX8_copyElements 86 = .ok (.iload 4, 2) := by decide +kernel
theorem dX8_copyElements_88 : decode cX8_copyElements 88 = .ok (.i2l, 1) := by decide +kernel
theorem dX8_copyElements_89 : decode cX8_copyElements 89 = .ok (.iload 5, 2) := by decide +kernel
theorem dX8_copyElements_91 : decode cX8_copyElements 91 = .ok (.i2l, 1) := by decide +kernel
theorem dX8_copyElements_92 : decode cX8_copyElements 92 = .ok (.ladd, 1) := by decide +kernel
theorem dX8_copyElements_93 : decode cX8_copyElements 93 = .ok (.aload_n 0, 1) := by decide +kernel
theorem dX8_copyElements_94 : decode cX8_copyElements 94 = .ok (.getfield 74, 3) := by decide +kernel
theorem dX8_copyElements_97 : decode cX8_copyElements 97 = .ok (.iload_n 3, 1) := by decide +kernel
theorem dX8_copyElements_98 : decode cX8_copyElements 98 = .ok (.iaload, 1) := by decide +kernel
theorem dX8_copyElements_99 : decode cX8_copyElements 99 = .ok (.i2l, 1) := by decide +kernel
theorem dX8_copyElements_100 : decode cX8_copyElements 100 = .ok (.lcmp, 1) := by decide +kernel
theorem dX8_copyElements_101 : decode cX8_copyElements 101 = .ok (.ifCond .le 6, 3) := by decide +kernel
theorem dX8_copyElements_104 : decode cX8_copyElements 104 = .ok (.bipush (-13), 2) := by decide +kernel
theorem dX8_copyElements_106 : decode cX8_copyElements 106 = .ok (.ireturn, 1) := by decide +kernel
theorem dX8_copyElements_107 : decode cX8_copyElements 107 = .ok (.iconst 0, 1) := by decide +kernel
theorem dX8_copyElements_108 : decode cX8_copyElements 108 = .ok (.istore 6, 2) := by decide +kernel
theorem dX8_copyElements_110 : decode cX8_copyElements 110 = .ok (.iload 6, 2) := by decide +kernel
theorem dX8_copyElements_112 : decode cX8_copyElements 112 = .ok (.iload 5, 2) := by decide +kernel
theorem dX8_copyElements_114 : decode cX8_copyElements 114 = .ok (.if_icmp .ge 30, 3) := by decide +kernel
theorem dX8_copyElements_117 : decode cX8_copyElements 117 = .ok (.aload_n 0, 1) := by decide +kernel
theorem dX8_copyElements_118 : decode cX8_copyElements 118 = .ok (.getfield 80, 3) := by decide +kernel
theorem dX8_copyElements_121 : decode cX8_copyElements 121 = .ok (.iload 6, 2) := by decide +kernel
theorem dX8_copyElements_123 : decode cX8_copyElements 123 = .ok (.aload_n 0, 1) := by decide +kernel
theorem dX8_copyElements_124 : decode cX8_copyElements 124 = .ok (.getfield 77, 3) := by decide +kernel
theorem dX8_copyElements_127 : decode cX8_copyElements 127 = .ok (.bipush 40, 2) := by decide +kernel
theorem dX8_copyElements_129 : decode cX8_copyElements 129 = .ok (.iload_n 1, 1) := by decide +kernel
theorem dX8_copyElements_130 : decode cX8_copyElements 130 = .ok (.imul, 1) := by decide +kernel
theorem dX8_copyElements_131 : decode cX8_copyElements 131 = .ok (.iload_n 2, 1) := by decide +kernel
theorem dX8_copyElements_132 : decode cX8_copyElements 132 = .ok (.iadd, 1) := by decide +kernel
theorem dX8_copyElements_133 : decode cX8_copyElements 133 = .ok (.iload 6, 2) := by decide +kernel
theorem dX8_copyElements_135 : decode cX8_copyElements 135 = .ok (.iadd, 1) := by decide +kernel
theorem dX8_copyElements_136 : decode cX8_copyElements 136 = .ok (.laload, 1) := by decide +kernel
theorem dX8_copyElements_137 : decode cX8_copyElements 137 = .ok (.lastore, 1) := by decide +kernel
theorem dX8_copyElements_138 : decode cX8_copyElements 138 = .ok (.iinc 6 1, 3) := by decide +kernel
theorem dX8_copyElements_141 : decode cX8_copyElements 141 = .ok (.goto (-31), 3) := by decide +kernel
theorem dX8_copyElements_144 : decode cX8_copyElements 144 = .ok (.iconst 0, 1) := by decide +kernel
theorem dX8_copyElements_145 : decode cX8_copyElements 145 = .ok (.istore 6, 2) := by decide +kernel
theorem dX8_copyElements_147 : decode cX8_copyElements 147 = .ok (.iload 6, 2) := by decide +kernel
theorem dX8_copyElements_149 : decode cX8_copyElements 149 = .ok (.iload 5, 2) := by decide +kernel
theorem dX8_copyElements_151 : decode cX8_copyElements 151 = .ok (.if_icmp .ge 31, 3) := by decide +kernel
theorem dX8_copyElements_154 : decode cX8_copyElements 154 = .ok (.aload_n 0, 1) := by decide +kernel
theorem dX8_copyElements_155 : decode cX8_copyElements 155 = .ok (.getfield 77, 3) := by decide +kernel
theorem dX8_copyElements_158 : decode cX8_copyElements 158 = .ok (.bipush 40, 2) := by decide +kernel
theorem dX8_copyElements_160 : decode cX8_copyElements 160 = .ok (.iload_n 3, 1) := by decide +kernel
theorem dX8_copyElements_161 : decode cX8_copyElements 161 = .ok (.imul, 1) := by decide +kernel
theorem dX8_copyElements_162 : decode cX8_copyElements 162 = .ok (.iload 4, 2) := by decide +kernel
theorem dX8_copyElements_164 : decode cX8_copyElements 164 = .ok (.iadd, 1) := by decide +kernel
theorem dX8_copyElements_165 : decode cX8_copyElements 165 = .ok (.iload 6, 2) := by decide +kernel
theorem dX8_copyElements_167 : decode cX8_copyElements 167 = .ok (.iadd, 1) := by decide +kernel
theorem dX8_copyElements_168 : decode cX8_copyElements 168 = .ok (.aload_n 0, 1) := by decide +kernel
theorem dX8_copyElements_169 : decode cX8_copyElements 169 = .ok (.getfield 80, 3) := by decide +kernel
theorem dX8_copyElements_172 : decode cX8_copyElements 172 = .ok (.iload 6, 2) := by decide +kernel
theorem dX8_copyElements_174 : decode cX8_copyElements 174 = .ok (.laload, 1) := by decide +kernel
theorem dX8_copyElements_175 : decode cX8_copyElements 175 = .ok (.lastore, 1) := by decide +kernel
theorem dX8_copyElements_176 : decode cX8_copyElements 176 = .ok (.iinc 6 1, 3) := by decide +kernel
theorem dX8_copyElements_179 : decode cX8_copyElements 179 = .ok (.goto (-32), 3) := by decide +kernel
theorem dX8_copyElements_182 : decode cX8_copyElements 182 = .ok (.iload 5, 2) := by decide +kernel
theorem dX8_copyElements_184 : decode cX8_copyElements 184 = .ok (.ireturn, 1) := by decide +kernel
theorem dX8_compareWithArray_0 : decode cX8_compareWithArray 0 = .ok (.iload_n 1, 1) := by decide +kernel
theorem dX8_compareWithArray_1 : decode cX8_compareWithArray 1 = .ok (.invokestatic 287, 3) := by decide +kernel
theorem dX8_compareWithArray_4 : decode cX8_compareWithArray 4 = .ok (.ifCond .ne 5, 3) := by decide +kernel
theorem dX8_compareWithArray_7 : decode cX8_compareWithArray 7 = .ok (.iconst (-1), 1) := by decide +kernel
theorem dX8_compareWithArray_8 : decode cX8_compareWithArray 8 = .ok (.ireturn, 1) := by decide +kernel
theorem dX8_compareWithArray_9 : decode cX8_compareWithArray 9 = .ok (.iload_n 2, 1) := by decide +kernel
theorem dX8_compareWithArray_10 : decode cX8_compareWithArray 10 = .ok (.invokestatic 112, 3) := by decide +kernel
theorem dX8_compareWithArray_13 : decode cX8_compareWithArray 13 = .ok (.ifCond .ne 6, 3) := by decide +kernel
theorem dX8_compareWithArray_16 : decode cX8_compareWithArray 16 = .ok (.bipush (-2), 2) := by decide +kernel
theorem dX8_compareWithArray_18 : decode cX8_compareWithArray 18 = .ok (.ireturn, 1) := by decide +kernel
theorem dX8_compareWithArray_19 : decode cX8_compareWithArray 19 = .ok (.aload_n 0, 1) := by decide +kernel
theorem dX8_compareWithArray_20 : decode cX8_compareWithArray 20 = .ok (.getfield 74, 3) := by decide +kernel
theorem dX8_compareWithArray_23 : decode cX8_compareWithArray 23 = .ok (.iload_n 1, 1) := by decide +kernel
theorem dX8_compareWithArray_24 : decode cX8_compareWithArray 24 = .ok (.iaload, 1) := by decide +kernel
theorem dX8_compareWithArray_25 : decode cX8_compareWithArray 25 = .ok (.ifCond .ge 6, 3) := by decide +kernel
theorem dX8_compareWithArray_28 : decode cX8_compareWithArray 28 = .ok (.bipush (-11), 2) := by decide +kernel
theorem dX8_compareWithArray_30 : decode cX8_compareWithArray 30 = .ok (.ireturn, 1) := by decide +kernel
theorem dX8_compareWithArray_31 : decode cX8_compareWithArray 31 = .ok (.aload_n 0, 1) := by decide +kernel
theorem dX8_compareWithArray_32 : decode cX8_compareWithArray 32 = .ok (.getfield 74, 3) := by decide +kernel
theorem dX8_compareWithArray_35 : decode cX8_compareWithArray 35 = .ok (.iload_n 1, 1) := by decide +kernel
theorem dX8_compareWithArray_36 : decode cX8_compareWithArray 36 = .ok (.iaload, 1) := by decide +kernel
theorem dX8_compareWithArray_37 : decode cX8_compareWithArray 37 = .ok (.istore_n 3, 1) := by decide +kernel
theorem dX8_compareWithArray_38 : decode cX8_compareWithArray 38 = .ok (.iload_n 3, 1) := by decide +kernel
theorem dX8_compareWithArray_39 : decode cX8_compareWithArray 39 = .ok (.aload_n 0, 1) := by decide +kernel
theorem dX8_compareWithArray_40 : decode cX8_compareWithArray 40 = .ok (.getfield 17, 3) := by decide +kernel
theorem dX8_compareWithArray_43 : decode cX8_compareWithArray 43 = .ok (.if_icmp .ge 7, 3) := by decide +kernel
theorem dX8_compareWithArray_46 : decode cX8_compareWithArray 46 = .ok (.iload_n 3, 1) := by decide +kernel
theorem dX8_compareWithArray_47 : decode cX8_compareWithArray 47 = .ok (.goto 7, 3) := by decide +kernel
theorem dX8_compareWithArray_50 : decode cX8_compareWithArray 50 = .ok (.aload_n 0, 1) := by decide +kernel
theorem dX8_compareWithArray_51 : decode cX8_compareWithArray 51 = .ok (.getfield 17, 3) := by decide +kernel
theorem dX8_compareWithArray_54 : decode cX8_compareWithArray 54 = .ok (.istore 4, 2) := by decide +kernel
theorem dX8_compareWithArray_56 : decode cX8_compareWithArray 56 = .ok (.iconst 0, 1) := by decide +kernel
theorem dX8_compareWithArray_57 : decode cX8_compareWithArray 57 = .ok (.istore 5, 2) := by decide +kernel
theorem dX8_compareWithArray_59 : decode cX8_compareWithArray 59 = .ok (.iload 5, 2) := by decide +kernel
theorem dX8_compareWithArray_61 : decode cX8_compareWithArray 61 = .ok (.iload 4, 2) := by decide +kernel
theorem dX8_compareWithArray_63 : decode cX8_compareWithArray 63 = .ok (.if_icmp .ge 40, 3) := by decide +kernel
theorem dX8_compareWithArray_66 : decode cX8_compareWithArray 66 = .ok (.aload_n 0, 1) := by decide +kernel
theorem dX8_compareWithArray_67 : decode cX8_compareWithArray 67 = .ok (.getfield 77, 3) := by decide +kernel
theorem dX8_compareWithArray_70 : decode cX8_compareWithArray 70 = .ok (.bipush 40, 2) := by decide +kernel
theorem dX8_compareWithArray_72 : decode cX8_compareWithArray 72 = .ok (.iload_n 1, 1) := by decide +kernel
theorem dX8_compareWithArray_73 : decode cX8_compareWithArray 73 = .ok (.imul, 1) := by decide +kernel
theorem dX8_compareWithArray_74 : decode cX8_compareWithArray 74 = .ok (.iload 5, 2) := by decide +kernel
theorem dX8_compareWithArray_76 : decode cX8_compareWithArray 76 = .ok (.iadd, 1) := by decide +kernel
theorem dX8_compareWithArray_77 : decode cX8_compareWithArray 77 = .ok (.laload, 1) := by decide +kernel
theorem dX8_compareWithArray_78 : decode cX8_compareWithArray 78 = .ok (.aload_n 0, 1) := by decide +kernel
theorem dX8_compareWithArray_79 : decode cX8_compareWithArray 79 = .ok (.getfield 21, 3) := by decide +kernel
theorem dX8_compareWithArray_82 : decode cX8_compareWithArray 82 = .ok (.bipush 24, 2) := by decide +kernel
theorem dX8_compareWithArray_84 : decode cX8_compareWithArray 84 = .ok (.iload_n 2, 1) := by decide +kernel
theorem dX8_compareWithArray_85 : decode cX8_compareWithArray 85 = .ok (.imul, 1) := by decide +kernel
theorem dX8_compareWithArray_86 : decode cX8_compareWithArray 86 = .ok (.iload 5, 2) := by decide +kernel
theorem dX8_compareWithArray_88 : decode cX8_compareWithArray 88 = .ok (.iadd, 1) := by decide +kernel
theorem dX8_compareWithArray_89 : decode cX8_compareWithArray 89 = .ok (.laload, 1) := by decide +kernel
theorem dX8_compareWithArray_90 : decode cX8_compareWithArray 90 = .ok (.lcmp, 1) := by decide +kernel
theorem dX8_compareWithArray_91 : decode cX8_compareWithArray 91 = .ok (.ifCond .eq 6, 3) := by decide +kernel
theorem dX8_compareWithArray_94 : decode cX8_compareWithArray 94 = .ok (.iload 5, 2) := by decide +kernel
theorem dX8_compareWithArray_96 : decode cX8_compareWithArray 96 = .ok (.ireturn, 1) := by decide +kernel
theorem dX8_compareWithArray_97 : decode cX8_compareWithArray 97 = .ok (.iinc 5 1, 3) := by decide +kernel
theorem dX8_compareWithArray_100 : decode cX8_compareWithArray 100 = .ok (.goto (-41), 3) := by decide +kernel
theorem dX8_compareWithArray_103 : decode cX8_compareWithArray 103 = .ok (.iload_n 3, 1) := by decide +kernel
theorem dX8_compareWithArray_104 : decode cX8_compareWithArray 104 = .ok (.aload_n 0, 1) := by decide +kernel
theorem dX8_compareWithArray_105 : decode cX8_compareWithArray 105 = .ok (.getfield 17, 3) := by decide +kernel
theorem dX8_compareWithArray_108 : decode cX8_compareWithArray 108 = .ok (.if_icmp .ne 8, 3) := by decide +kernel
theorem dX8_compareWithArray_111 : decode cX8_compareWithArray 111 = .ok (.bipush (-7), 2) := by decide +kernel
theorem dX8_compareWithArray_113 : decode cX8_compareWithArray 113 = .ok (.goto 5, 3) := by decide +kernel
theorem dX8_compareWithArray_116 : decode cX8_compareWithArray 116 = .ok (.iload 4, 2) := by decide +kernel
theorem dX8_compareWithArray_118 : decode cX8_compareWithArray 118 = .ok (.ireturn, 1) := by decide +kernel
theorem dX8_pass_0 : decode cX8_pass 0 = .ok (.aload_n 0, 1) := by decide +kernel
theorem dX8_pass_1 : decode cX8_pass 1 = .ok (.getfield 294, 3) := by decide +kernel
theorem dX8_pass_4 : decode cX8_pass 4 = .ok (.ifCond .eq 7, 3) := by decide +kernel
theorem dX8_pass_7 : decode cX8_pass 7 = .ok (.lload_n 1, 1) := by decide +kernel
theorem dX8_pass_8 : decode cX8_pass 8 = .ok (.goto 12, 3) := by decide +kernel
theorem dX8_pass_11 : decode cX8_pass 11 = .ok (.aload_n 0, 1) := by decide +kernel
theorem dX8_pass_12 : decode cX8_pass 12 = .ok (.getfield 83, 3) := by decide +kernel
theorem dX8_pass_15 : decode cX8_pass 15 = .ok (.aload_n 0, 1) := by decide +kernel
theorem dX8_pass_16 : decode cX8_pass 16 = .ok (.getfield 298, 3) := by decide +kernel
theorem dX8_pass_19 : decode cX8_pass 19 = .ok (.laload, 1) := by decide +kernel
theorem dX8_pass_20 : decode cX8_pass 20 = .ok (.lstore_n 3, 1) := by decide +kernel
theorem dX8_pass_21 : decode cX8_pass 21 = .ok (.aload_n 0, 1) := by decide +kernel
theorem dX8_pass_22 : decode cX8_pass 22 = .ok (.getfield 83, 3) := by decide +kernel
theorem dX8_pass_25 : decode cX8_pass 25 = .ok (.aload_n 0, 1) := by decide +kernel
theorem dX8_pass_26 : decode cX8_pass 26 = .ok (.getfield 298, 3) := by decide +kernel
theorem dX8_pass_29 : decode cX8_pass 29 = .ok (.lload_n 3, 1) := by decide +kernel
theorem dX8_pass_30 : decode cX8_pass 30 = .ok (.lastore, 1) := by decide +kernel
theorem dX8_pass_31 : decode cX8_pass 31 = .ok (.aload_n 0, 1) := by decide +kernel
theorem dX8_pass_32 : decode cX8_pass 32 = .ok (.dup, 1) := by decide +kernel
theorem dX8_pass_33 : decode cX8_pass 33 = .ok (.getfield 298, 3) := by decide +kernel
theorem dX8_pass_36 : decode cX8_pass 36 = .ok (.iconst 1, 1) := by decide +kernel
theorem dX8_pass_37 : decode cX8_pass 37 = .ok (.iadd, 1) := by decide +kernel
theorem dX8_pass_38 : decode cX8_pass 38 = .ok (.putfield 298, 3) := by decide +kernel
theorem dX8_pass_41 : decode cX8_pass 41 = .ok (.lload_n 3, 1) := by decide +kernel
theorem dX8_pass_42 : decode cX8_pass 42 = .ok (.lreturn, 1) := by decide +kernel
theorem dX8_passAll_0 : decode cX8_passAll 0 = .ok (.iconst 0, 1) := by decide +kernel
theorem dX8_passAll_1 : decode cX8_passAll 1 = .ok (.istore_n 2, 1) := by decide +kernel
theorem dX8_passAll_2 : decode cX8_passAll 2 = .ok (.iload_n 2, 1) := by decide +kernel
theorem dX8_passAll_3 : decode cX8_passAll 3 = .ok (.aload_n 1, 1) := by decide +kernel
theorem dX8_passAll_4 : decode cX8_passAll 4 = .ok (.arraylength, 1) := by decide +kernel
theorem dX8_passAll_5 : decode cX8_passAll 5 = .ok (.if_icmp .ge 19, 3) := by decide +kernel
theorem dX8_passAll_8 : decode cX8_passAll 8 = .ok (.aload_n 1, 1) := by decide +kernel
theorem dX8_passAll_9 : decode cX8_passAll 9 = .ok (.iload_n 2, 1) := by decide +kernel
theorem dX8_passAll_10 : decode cX8_passAll 10 = .ok (.aload_n 0, 1) := by decide +kernel
theorem dX8_passAll_11 : decode cX8_passAll 11 = .ok (.aload_n 1, 1) := by decide +kernel
theorem dX8_passAll_12 : decode cX8_passAll 12 = .ok (.iload_n 2, 1) := by decide +kernel
theorem dX8_passAll_13 : decode cX8_passAll 13 = .ok (.laload, 1) := by decide +kernel
theorem dX8_passAll_14 : decode cX8_passAll 14 = .ok (.invokevirtual 301, 3) := by decide +kernel
theorem dX8_passAll_17 : decode cX8_passAll 17 = .ok (.lastore, 1) := by decide +kernel
theorem dX8_passAll_18 : decode cX8_passAll 18 = .ok (.iinc 2 1, 3) := by decide +kernel
theorem dX8_passAll_21 : decode cX8_passAll 21 = .ok (.goto (-19), 3) := by decide +kernel
theorem dX8_passAll_24 : decode cX8_passAll 24 = .ok (.return_, 1) := by decide +kernel
theorem dX8_passState_0 : decode cX8_passState 0 = .ok (.aload_n 0, 1) := by decide +kernel
theorem dX8_passState_1 : decode cX8_passState 1 = .ok (.iload_n 1, 1) := by decide +kernel
theorem dX8_passState_2 : decode cX8_passState 2 = .ok (.putfield 294, 3) := by decide +kernel
theorem dX8_passState_5 : decode cX8_passState 5 = .ok (.aload_n 0, 1) := by decide +kernel
theorem dX8_passState_6 : decode cX8_passState 6 = .ok (.iconst 0, 1) := by decide +kernel
theorem dX8_passState_7 : decode cX8_passState 7 = .ok (.putfield 298, 3) := by decide +kernel
theorem dX8_passState_10 : decode cX8_passState 10 = .ok (.aload_n 0, 1) := by decide +kernel
theorem dX8_passState_11 : decode cX8_passState 11 = .ok (.aload_n 0, 1) := by decide +kernel
theorem dX8_passState_12 : decode cX8_passState 12 = .ok (.aload_n 0, 1) := by decide +kernel
theorem dX8_passState_13 : decode cX8_passState 13 = .ok (.getfield 17, 3) := by decide +kernel
theorem dX8_passState_16 : decode cX8_passState 16 = .ok (.i2l, 1) := by decide +kernel
theorem dX8_passState_17 : decode cX8_passState 17 = .ok (.invokevirtual 301, 3) := by decide +kernel
theorem dX8_passState_20 : decode cX8_passState 20 = .ok (.l2i, 1) := by decide +kernel
theorem dX8_passState_21 : decode cX8_passState 21 = .ok (.putfield 17, 3) := by decide +kernel
theorem dX8_passState_24 : decode cX8_passState 24 = .ok (.aload_n 0, 1) := by decide +kernel
theorem dX8_passState_25 : decode cX8_passState 25 = .ok (.aload_n 0, 1) := by decide +kernel
theorem dX8_passState_26 : decode cX8_passState 26 = .ok (.aload_n 0, 1) := by decide +kernel
theorem dX8_passState_27 : decode cX8_passState 27 = .ok (.getfield 109, 3) := by decide +kernel
theorem dX8_passState_30 : decode cX8_passState 30 = .ok (.i2l, 1) := by decide +kernel
theorem dX8_passState_31 : decode cX8_passState 31 = .ok (.invokevirtual 301, 3) := by decide +kernel
theorem dX8_passState_34 : decode cX8_passState 34 = .ok (.l2i, 1) := by decide +kernel
theorem dX8_passState_35 : decode cX8_passState 35 = .ok (.putfield 109, 3) := by decide +kernel
theorem dX8_passState_38 : decode cX8_passState 38 = .ok (.aload_n 0, 1) := by decide +kernel
theorem dX8_passState_39 : decode cX8_passState 39 = .ok (.aload_n 0, 1) := by decide +kernel
theorem dX8_passState_40 : decode cX8_passState 40 = .ok (.aload_n 0, 1) := by decide +kernel
theorem dX8_passState_41 : decode cX8_passState 41 = .ok (.getfield 190, 3) := by decide +kernel
theorem dX8_passState_44 : decode cX8_passState 44 = .ok (.i2l, 1) := by decide +kernel
theorem dX8_passState_45 : decode cX8_passState 45 = .ok (.invokevirtual 301, 3) := by decide +kernel
theorem dX8_passState_48 : decode cX8_passState 48 = .ok (.l2i, 1) := by decide +kernel
theorem dX8_passState_49 : decode cX8_passState 49 = .ok (.putfield 190, 3) := by decide +kernel
theorem dX8_passState_52 : decode cX8_passState 52 = .ok (.aload_n 0, 1) := by decide +kernel
theorem dX8_passState_53 : decode cX8_passState 53 = .ok (.aload_n 0, 1) := by decide +kernel
theorem dX8_passState_54 : decode cX8_passState 54 = .ok (.aload_n 0, 1) := by decide +kernel
theorem dX8_passState_55 : decode cX8_passState 55 = .ok (.getfield 193, 3) := by decide +kernel
theorem dX8_passState_58 : decode cX8_passState 58 = .ok (.i2l, 1) := by decide +kernel
theorem dX8_passState_59 : decode cX8_passState 59 = .ok (.invokevirtual 301, 3) := by decide +kernel
theorem dX8_passState_62 : decode cX8_passState 62 = .ok (.l2i, 1) := by decide +kernel
theorem dX8_passState_63 : decode cX8_passState 63 = .ok (.putfield 193, 3) := by decide +kernel
theorem dX8_passState_66 : decode cX8_passState 66 = .ok (.aload_n 0, 1) := by decide +kernel
theorem dX8_passState_67 : decode cX8_passState 67 = .ok (.aload_n 0, 1) := by decide +kernel
theorem dX8_passState_68 : decode cX8_passState 68 = .ok (.getfield 21, 3) := by decide +kernel
theorem dX8_passState_71 : decode cX8_passState 71 = .ok (.invokevirtual 304, 3) := by decide +kernel
theorem dX8_passState_74 : decode cX8_passState 74 = .ok (.aload_n 0, 1) := by decide +kernel
theorem dX8_passState_75 : decode cX8_passState 75 = .ok (.aload_n 0, 1) := by decide +kernel
theorem dX8_passState_76 : decode cX8_passState 76 = .ok (.getfield 25, 3) := by decide +kernel
theorem dX8_passState_79 : decode cX8_passState 79 = .ok (.invokevirtual 304, 3) := by decide +kernel
theorem dX8_passState_82 : decode cX8_passState 82 = .ok (.aload_n 0, 1) := by decide +kernel
theorem dX8_passState_83 : decode cX8_passState 83 = .ok (.aload_n 0, 1) := by decide +kernel
theorem dX8_passState_84 : decode cX8_passState 84 = .ok (.getfield 28, 3) := by decide +kernel
theorem dX8_passState_87 : decode cX8_passState 87 = .ok (.invokevirtual 304, 3) := by decide +kernel
theorem dX8_passState_90 : decode cX8_passState 90 = .ok (.aload_n 0, 1) := by decide +kernel
theorem dX8_passState_91 : decode cX8_passState 91 = .ok (.aload_n 0, 1) := by decide +kernel
theorem dX8_passState_92 : decode cX8_passState 92 = .ok (.getfield 31, 3) := by decide +kernel
theorem dX8_passState_95 : decode cX8_passState 95 = .ok (.invokevirtual 304, 3) := by decide +kernel
theorem dX8_passState_98 : decode cX8_passState 98 = .ok (.return_, 1) := by decide +kernel
theorem dX8_snapshot_0 : decode cX8_snapshot 0 = .ok (.aload_n 0, 1) := by decide +kernel
theorem dX8_snapshot_1 : decode cX8_snapshot 1 = .ok (.iconst 1, 1) := by decide +kernel
theorem dX8_snapshot_2 : decode cX8_snapshot 2 = .ok (.invokevirtual 307, 3) := by decide +kernel
theorem dX8_snapshot_5 : decode cX8_snapshot 5 = .ok (.aload_n 0, 1) := by decide +kernel
theorem dX8_snapshot_6 : decode cX8_snapshot 6 = .ok (.iconst 1, 1) := by decide +kernel
theorem dX8_snapshot_7 : decode cX8_snapshot 7 = .ok (.putfield 311, 3) := by decide +kernel
theorem dX8_snapshot_10 : decode cX8_snapshot 10 = .ok (.aload_n 0, 1) := by decide +kernel
theorem dX8_snapshot_11 : decode cX8_snapshot 11 = .ok (.getfield 17, 3) := by decide +kernel
theorem dX8_snapshot_14 : decode cX8_snapshot 14 = .ok (.ireturn, 1) := by decide +kernel
theorem dX8_restore_0 : decode cX8_restore 0 = .ok (.aload_n 0, 1) := by decide +kernel
theorem dX8_restore_1 : decode cX8_restore 1 = .ok (.getfield 311, 3) := by decide +kernel
theorem dX8_restore_4 : decode cX8_restore 4 = .ok (.ifCond .ne 6, 3) := by decide +kernel
theorem dX8_restore_7 : decode cX8_restore 7 = .ok (.bipush (-5), 2) := by decide +kernel
theorem dX8_restore_9 : decode cX8_restore 9 = .ok (.ireturn, 1) := by decide +kernel
theorem dX8_restore_10 : decode cX8_restore 10 = .ok (.aload_n 0, 1) := by decide +kernel
theorem dX8_restore_11 : decode cX8_restore 11 = .ok (.iconst 0, 1) := by decide +kernel
theorem dX8_restore_12 : decode cX8_restore 12 = .ok (.invokevirtual 307, 3) := by decide +kernel
theorem dX8_restore_15 : decode cX8_restore 15 = .ok (.aload_n 0, 1) := by decide +kernel
theorem dX8_restore_16 : decode cX8_restore 16 = .ok (.getfield 17, 3) := by decide +kernel
theorem dX8_restore_19 : decode cX8_restore 19 = .ok (.ireturn, 1) := by decide +kernel
