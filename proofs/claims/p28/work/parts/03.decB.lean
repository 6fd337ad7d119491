theorem dL_cell_0 : decode cL_cell 0 = .ok (.iload_n 1, 1) := by decide +kernel
theorem dL_cell_1 : decode cL_cell 1 = .ok (.aload_n 0, 1) := by decide +kernel
theorem dL_cell_2 : decode cL_cell 2 = .ok (.arraylength, 1) := by decide +kernel
theorem dL_cell_3 : decode cL_cell 3 = .ok (.if_icmp .ge 9, 3) := by decide +kernel
theorem dL_cell_6 : decode cL_cell 6 = .ok (.aload_n 0, 1) := by decide +kernel
theorem dL_cell_7 : decode cL_cell 7 = .ok (.iload_n 1, 1) := by decide +kernel
theorem dL_cell_8 : decode cL_cell 8 = .ok (.iaload, 1) := by decide +kernel
theorem dL_cell_9 : decode cL_cell 9 = .ok (.goto 9, 3) := by decide +kernel
theorem dL_cell_12 : decode cL_cell 12 = .ok (.ldc 7, 2) := by decide +kernel
theorem dL_cell_14 : decode cL_cell 14 = .ok (.iload_n 1, 1) := by decide +kernel
theorem dL_cell_15 : decode cL_cell 15 = .ok (.iconst 3, 1) := by decide +kernel
theorem dL_cell_16 : decode cL_cell 16 = .ok (.iadd, 1) := by decide +kernel
theorem dL_cell_17 : decode cL_cell 17 = .ok (.imul, 1) := by decide +kernel
theorem dL_cell_18 : decode cL_cell 18 = .ok (.ireturn, 1) := by decide +kernel
theorem dL_low_0 : decode cL_low 0 = .ok (.iload_n 0, 1) := by decide +kernel
theorem dL_low_1 : decode cL_low 1 = .ok (.ldc 8, 2) := by decide +kernel
theorem dL_low_3 : decode cL_low 3 = .ok (.iand, 1) := by decide +kernel
theorem dL_low_4 : decode cL_low 4 = .ok (.iload_n 1, 1) := by decide +kernel
theorem dL_low_5 : decode cL_low 5 = .ok (.irem, 1) := by decide +kernel
theorem dL_low_6 : decode cL_low 6 = .ok (.ireturn, 1) := by decide +kernel
theorem dL_mass_0 : decode cL_mass 0 = .ok (.iconst 0, 1) := by decide +kernel
theorem dL_mass_1 : decode cL_mass 1 = .ok (.istore_n 3, 1) := by decide +kernel
theorem dL_mass_2 : decode cL_mass 2 = .ok (.iconst 4, 1) := by decide +kernel
theorem dL_mass_3 : decode cL_mass 3 = .ok (.iload_n 1, 1) := by decide +kernel
theorem dL_mass_4 : decode cL_mass 4 = .ok (.imul, 1) := by decide +kernel
theorem dL_mass_5 : decode cL_mass 5 = .ok (.istore 4, 2) := by decide +kernel
theorem dL_mass_7 : decode cL_mass 7 = .ok (.iload 4, 2) := by decide +kernel
theorem dL_mass_9 : decode cL_mass 9 = .ok (.iconst 4, 1) := by decide +kernel
theorem dL_mass_10 : decode cL_mass 10 = .ok (.iload_n 2, 1) := by decide +kernel
theorem dL_mass_11 : decode cL_mass 11 = .ok (.imul, 1) := by decide +kernel
theorem dL_mass_12 : decode cL_mass 12 = .ok (.iconst 3, 1) := by decide +kernel
theorem dL_mass_13 : decode cL_mass 13 = .ok (.iadd, 1) := by decide +kernel
theorem dL_mass_14 : decode cL_mass 14 = .ok (.if_icmp .gt 16, 3) := by decide +kernel
theorem dL_mass_17 : decode cL_mass 17 = .ok (.iload_n 3, 1) := by decide +kernel
theorem dL_mass_18 : decode cL_mass 18 = .ok (.aload_n 0, 1) := by decide +kernel
theorem dL_mass_19 : decode cL_mass 19 = .ok (.iload 4, 2) := by decide +kernel
theorem dL_mass_21 : decode cL_mass 21 = .ok (.iaload, 1) := by decide +kernel
theorem dL_mass_22 : decode cL_mass 22 = .ok (.iadd, 1) := by decide +kernel
theorem dL_mass_23 : decode cL_mass 23 = .ok (.istore_n 3, 1) := by decide +kernel
theorem dL_mass_24 : decode cL_mass 24 = .ok (.iinc 4 1, 3) := by decide +kernel
theorem dL_mass_27 : decode cL_mass 27 = .ok (.goto (-20), 3) := by decide +kernel
theorem dL_mass_30 : decode cL_mass 30 = .ok (.iload_n 3, 1) := by decide +kernel
theorem dL_mass_31 : decode cL_mass 31 = .ok (.ireturn, 1) := by decide +kernel
theorem dL_feed_0 : decode cL_feed 0 = .ok (.aload_n 0, 1) := by decide +kernel
theorem dL_feed_1 : decode cL_feed 1 = .ok (.iconst 0, 1) := by decide +kernel
theorem dL_feed_2 : decode cL_feed 2 = .ok (.iaload, 1) := by decide +kernel
theorem dL_feed_3 : decode cL_feed 3 = .ok (.istore_n 3, 1) := by decide +kernel
theorem dL_feed_4 : decode cL_feed 4 = .ok (.iload_n 3, 1) := by decide +kernel
theorem dL_feed_5 : decode cL_feed 5 = .ok (.ifCond .le 92, 3) := by decide +kernel
theorem dL_feed_8 : decode cL_feed 8 = .ok (.aload_n 0, 1) := by decide +kernel
theorem dL_feed_9 : decode cL_feed 9 = .ok (.bipush 13, 2) := by decide +kernel
theorem dL_feed_11 : decode cL_feed 11 = .ok (.iaload, 1) := by decide +kernel
theorem dL_feed_12 : decode cL_feed 12 = .ok (.ifCond .le 85, 3) := by decide +kernel
theorem dL_feed_15 : decode cL_feed 15 = .ok (.aload_n 2, 1) := by decide +kernel
theorem dL_feed_16 : decode cL_feed 16 = .ok (.iconst 1, 1) := by decide +kernel
theorem dL_feed_17 : decode cL_feed 17 = .ok (.iaload, 1) := by decide +kernel
theorem dL_feed_18 : decode cL_feed 18 = .ok (.iload_n 3, 1) := by decide +kernel
theorem dL_feed_19 : decode cL_feed 19 = .ok (.if_icmp .gt 57, 3) := by decide +kernel
theorem dL_feed_22 : decode cL_feed 22 = .ok (.aload_n 1, 1) := by decide +kernel
theorem dL_feed_23 : decode cL_feed 23 = .ok (.aload_n 2, 1) := by decide +kernel
theorem dL_feed_24 : decode cL_feed 24 = .ok (.iconst 0, 1) := by decide +kernel
theorem dL_feed_25 : decode cL_feed 25 = .ok (.iaload, 1) := by decide +kernel
theorem dL_feed_26 : decode cL_feed 26 = .ok (.dup2, 1) := by decide +kernel
theorem dL_feed_27 : decode cL_feed 27 = .ok (.iaload, 1) := by decide +kernel
theorem dL_feed_28 : decode cL_feed 28 = .ok (.aload_n 2, 1) := by decide +kernel
theorem dL_feed_29 : decode cL_feed 29 = .ok (.iconst 1, 1) := by decide +kernel
theorem dL_feed_30 : decode cL_feed 30 = .ok (.iaload, 1) := by decide +kernel
theorem dL_feed_31 : decode cL_feed 31 = .ok (.iadd, 1) := by decide +kernel
theorem dL_feed_32 : decode cL_feed 32 = .ok (.iastore, 1) := by decide +kernel
theorem dL_feed_33 : decode cL_feed 33 = .ok (.iload_n 3, 1) := by decide +kernel
theorem dL_feed_34 : decode cL_feed 34 = .ok (.aload_n 2, 1) := by decide +kernel
theorem dL_feed_35 : decode cL_feed 35 = .ok (.iconst 1, 1) := by decide +kernel
theorem dL_feed_36 : decode cL_feed 36 = .ok (.iaload, 1) := by decide +kernel
theorem dL_feed_37 : decode cL_feed 37 = .ok (.isub, 1) := by decide +kernel
theorem dL_feed_38 : decode cL_feed 38 = .ok (.istore_n 3, 1) := by decide +kernel
theorem dL_feed_39 : decode cL_feed 39 = .ok (.iconst 0, 1) := by decide +kernel
theorem dL_feed_40 : decode cL_feed 40 = .ok (.istore 4, 2) := by decide +kernel
theorem dL_feed_42 : decode cL_feed 42 = .ok (.iload 4, 2) := by decide +kernel
theorem dL_feed_44 : decode cL_feed 44 = .ok (.bipush 10, 2) := by decide +kernel
theorem dL_feed_46 : decode cL_feed 46 = .ok (.if_icmp .ge 19, 3) := by decide +kernel
theorem dL_feed_49 : decode cL_feed 49 = .ok (.aload_n 2, 1) := by decide +kernel
theorem dL_feed_50 : decode cL_feed 50 = .ok (.iload 4, 2) := by decide +kernel
theorem dL_feed_52 : decode cL_feed 52 = .ok (.aload_n 2, 1) := by decide +kernel
theorem dL_feed_53 : decode cL_feed 53 = .ok (.iload 4, 2) := by decide +kernel
theorem dL_feed_55 : decode cL_feed 55 = .ok (.iconst 2, 1) := by decide +kernel
theorem dL_feed_56 : decode cL_feed 56 = .ok (.iadd, 1) := by decide +kernel
theorem dL_feed_57 : decode cL_feed 57 = .ok (.iaload, 1) := by decide +kernel
theorem dL_feed_58 : decode cL_feed 58 = .ok (.iastore, 1) := by decide +kernel
theorem dL_feed_59 : decode cL_feed 59 = .ok (.iinc 4 1, 3) := by decide +kernel
theorem dL_feed_62 : decode cL_feed 62 = .ok (.goto (-20), 3) := by decide +kernel
theorem dL_feed_65 : decode cL_feed 65 = .ok (.aload_n 0, 1) := by decide +kernel
theorem dL_feed_66 : decode cL_feed 66 = .ok (.bipush 13, 2) := by decide +kernel
theorem dL_feed_68 : decode cL_feed 68 = .ok (.dup2, 1) := by decide +kernel
theorem dL_feed_69 : decode cL_feed 69 = .ok (.iaload, 1) := by decide +kernel
theorem dL_feed_70 : decode cL_feed 70 = .ok (.iconst 1, 1) := by decide +kernel
theorem dL_feed_71 : decode cL_feed 71 = .ok (.isub, 1) := by decide +kernel
theorem dL_feed_72 : decode cL_feed 72 = .ok (.iastore, 1) := by decide +kernel
theorem dL_feed_73 : decode cL_feed 73 = .ok (.goto (-69), 3) := by decide +kernel
theorem dL_feed_76 : decode cL_feed 76 = .ok (.aload_n 1, 1) := by decide +kernel
theorem dL_feed_77 : decode cL_feed 77 = .ok (.aload_n 2, 1) := by decide +kernel
theorem dL_feed_78 : decode cL_feed 78 = .ok (.iconst 0, 1) := by decide +kernel
theorem dL_feed_79 : decode cL_feed 79 = .ok (.iaload, 1) := by decide +kernel
theorem dL_feed_80 : decode cL_feed 80 = .ok (.dup2, 1) := by decide +kernel
theorem dL_feed_81 : decode cL_feed 81 = .ok (.iaload, 1) := by decide +kernel
theorem dL_feed_82 : decode cL_feed 82 = .ok (.iload_n 3, 1) := by decide +kernel
theorem dL_feed_83 : decode cL_feed 83 = .ok (.iadd, 1) := by decide +kernel
theorem dL_feed_84 : decode cL_feed 84 = .ok (.iastore, 1) := by decide +kernel
theorem dL_feed_85 : decode cL_feed 85 = .ok (.aload_n 2, 1) := by decide +kernel
theorem dL_feed_86 : decode cL_feed 86 = .ok (.iconst 1, 1) := by decide +kernel
theorem dL_feed_87 : decode cL_feed 87 = .ok (.dup2, 1) := by decide +kernel
theorem dL_feed_88 : decode cL_feed 88 = .ok (.iaload, 1) := by decide +kernel
theorem dL_feed_89 : decode cL_feed 89 = .ok (.iload_n 3, 1) := by decide +kernel
theorem dL_feed_90 : decode cL_feed 90 = .ok (.isub, 1) := by decide +kernel
theorem dL_feed_91 : decode cL_feed 91 = .ok (.iastore, 1) := by decide +kernel
theorem dL_feed_92 : decode cL_feed 92 = .ok (.iconst 0, 1) := by decide +kernel
theorem dL_feed_93 : decode cL_feed 93 = .ok (.istore_n 3, 1) := by decide +kernel
theorem dL_feed_94 : decode cL_feed 94 = .ok (.goto (-90), 3) := by decide +kernel
theorem dL_feed_97 : decode cL_feed 97 = .ok (.iconst 3, 1) := by decide +kernel
theorem dL_feed_98 : decode cL_feed 98 = .ok (.istore 4, 2) := by decide +kernel
theorem dL_feed_100 : decode cL_feed 100 = .ok (.iload 4, 2) := by decide +kernel
theorem dL_feed_102 : decode cL_feed 102 = .ok (.ifCond .lt 78, 3) := by decide +kernel
theorem dL_feed_105 : decode cL_feed 105 = .ok (.aload_n 1, 1) := by decide +kernel
theorem dL_feed_106 : decode cL_feed 106 = .ok (.iconst 0, 1) := by decide +kernel
theorem dL_feed_107 : decode cL_feed 107 = .ok (.iconst 0, 1) := by decide +kernel
theorem dL_feed_108 : decode cL_feed 108 = .ok (.invokestatic 9, 3) := by decide +kernel
theorem dL_feed_111 : decode cL_feed 111 = .ok (.aload_n 0, 1) := by decide +kernel
theorem dL_feed_112 : decode cL_feed 112 = .ok (.bipush 18, 2) := by decide +kernel
theorem dL_feed_114 : decode cL_feed 114 = .ok (.iaload, 1) := by decide +kernel
theorem dL_feed_115 : decode cL_feed 115 = .ok (.isub, 1) := by decide +kernel
theorem dL_feed_116 : decode cL_feed 116 = .ok (.istore 5, 2) := by decide +kernel
theorem dL_feed_118 : decode cL_feed 118 = .ok (.iload 5, 2) := by decide +kernel
theorem dL_feed_120 : decode cL_feed 120 = .ok (.aload_n 1, 1) := by decide +kernel
theorem dL_feed_121 : decode cL_feed 121 = .ok (.iload 4, 2) := by decide +kernel
theorem dL_feed_123 : decode cL_feed 123 = .ok (.iaload, 1) := by decide +kernel
theorem dL_feed_124 : decode cL_feed 124 = .ok (.if_icmp .ge 8, 3) := by decide +kernel
theorem dL_feed_127 : decode cL_feed 127 = .ok (.iload 5, 2) := by decide +kernel
theorem dL_feed_129 : decode cL_feed 129 = .ok (.goto 7, 3) := by decide +kernel
theorem dL_feed_132 : decode cL_feed 132 = .ok (.aload_n 1, 1) := by decide +kernel
theorem dL_feed_133 : decode cL_feed 133 = .ok (.iload 4, 2) := by decide +kernel
theorem dL_feed_135 : decode cL_feed 135 = .ok (.iaload, 1) := by decide +kernel
theorem dL_feed_136 : decode cL_feed 136 = .ok (.istore 6, 2) := by decide +kernel
theorem dL_feed_138 : decode cL_feed 138 = .ok (.aload_n 1, 1) := by decide +kernel
theorem dL_feed_139 : decode cL_feed 139 = .ok (.iload 4, 2) := by decide +kernel
theorem dL_feed_141 : decode cL_feed 141 = .ok (.dup2, 1) := by decide +kernel
theorem dL_feed_142 : decode cL_feed 142 = .ok (.iaload, 1) := by decide +kernel
theorem dL_feed_143 : decode cL_feed 143 = .ok (.iload 6, 2) := by decide +kernel
theorem dL_feed_145 : decode cL_feed 145 = .ok (.ifCond .le 8, 3) := by decide +kernel
theorem dL_feed_148 : decode cL_feed 148 = .ok (.iload 6, 2) := by decide +kernel
theorem dL_feed_150 : decode cL_feed 150 = .ok (.goto 4, 3) := by decide +kernel
theorem dL_feed_153 : decode cL_feed 153 = .ok (.iconst 0, 1) := by decide +kernel
theorem dL_feed_154 : decode cL_feed 154 = .ok (.isub, 1) := by decide +kernel
theorem dL_feed_155 : decode cL_feed 155 = .ok (.iastore, 1) := by decide +kernel
theorem dL_feed_156 : decode cL_feed 156 = .ok (.aload_n 0, 1) := by decide +kernel
theorem dL_feed_157 : decode cL_feed 157 = .ok (.bipush 10, 2) := by decide +kernel
theorem dL_feed_159 : decode cL_feed 159 = .ok (.dup2, 1) := by decide +kernel
theorem dL_feed_160 : decode cL_feed 160 = .ok (.iaload, 1) := by decide +kernel
theorem dL_feed_161 : decode cL_feed 161 = .ok (.iload 6, 2) := by decide +kernel
theorem dL_feed_163 : decode cL_feed 163 = .ok (.ifCond .le 8, 3) := by decide +kernel
theorem dL_feed_166 : decode cL_feed 166 = .ok (.iload 6, 2) := by decide +kernel
theorem dL_feed_168 : decode cL_feed 168 = .ok (.goto 4, 3) := by decide +kernel
theorem dL_feed_171 : decode cL_feed 171 = .ok (.iconst 0, 1) := by decide +kernel
theorem dL_feed_172 : decode cL_feed 172 = .ok (.iadd, 1) := by decide +kernel
theorem dL_feed_173 : decode cL_feed 173 = .ok (.iastore, 1) := by decide +kernel
theorem dL_feed_174 : decode cL_feed 174 = .ok (.iinc 4 (-1), 3) := by decide +kernel
theorem dL_feed_177 : decode cL_feed 177 = .ok (.goto (-77), 3) := by decide +kernel
theorem dL_feed_180 : decode cL_feed 180 = .ok (.return_, 1) := by decide +kernel
theorem dL_tick_0 : decode cL_tick 0 = .ok (.aload_n 0, 1) := by decide +kernel
theorem dL_tick_1 : decode cL_tick 1 = .ok (.iconst 2, 1) := by decide +kernel
theorem dL_tick_2 : decode cL_tick 2 = .ok (.dup2, 1) := by decide +kernel
theorem dL_tick_3 : decode cL_tick 3 = .ok (.iaload, 1) := by decide +kernel
theorem dL_tick_4 : decode cL_tick 4 = .ok (.iconst 1, 1) := by decide +kernel
theorem dL_tick_5 : decode cL_tick 5 = .ok (.iadd, 1) := by decide +kernel
theorem dL_tick_6 : decode cL_tick 6 = .ok (.iastore, 1) := by decide +kernel
theorem dL_tick_7 : decode cL_tick 7 = .ok (.aload_n 0, 1) := by decide +kernel
theorem dL_tick_8 : decode cL_tick 8 = .ok (.iconst 3, 1) := by decide +kernel
theorem dL_tick_9 : decode cL_tick 9 = .ok (.dup2, 1) := by decide +kernel
theorem dL_tick_10 : decode cL_tick 10 = .ok (.iaload, 1) := by decide +kernel
theorem dL_tick_11 : decode cL_tick 11 = .ok (.aload_n 0, 1) := by decide +kernel
theorem dL_tick_12 : decode cL_tick 12 = .ok (.iconst 2, 1) := by decide +kernel
theorem dL_tick_13 : decode cL_tick 13 = .ok (.iaload, 1) := by decide +kernel
theorem dL_tick_14 : decode cL_tick 14 = .ok (.aload_n 0, 1) := by decide +kernel
theorem dL_tick_15 : decode cL_tick 15 = .ok (.bipush 19, 2) := by decide +kernel
theorem dL_tick_17 : decode cL_tick 17 = .ok (.iaload, 1) := by decide +kernel
theorem dL_tick_18 : decode cL_tick 18 = .ok (.irem, 1) := by decide +kernel
theorem dL_tick_19 : decode cL_tick 19 = .ok (.ifCond .ne 10, 3) := by decide +kernel
theorem dL_tick_22 : decode cL_tick 22 = .ok (.aload_n 0, 1) := by decide +kernel
theorem dL_tick_23 : decode cL_tick 23 = .ok (.bipush 20, 2) := by decide +kernel
theorem dL_tick_25 : decode cL_tick 25 = .ok (.iaload, 1) := by decide +kernel
theorem dL_tick_26 : decode cL_tick 26 = .ok (.goto 4, 3) := by decide +kernel
theorem dL_tick_29 : decode cL_tick 29 = .ok (.iconst 0, 1) := by decide +kernel
theorem dL_tick_30 : decode cL_tick 30 = .ok (.iadd, 1) := by decide +kernel
theorem dL_tick_31 : decode cL_tick 31 = .ok (.iastore, 1) := by decide +kernel
theorem dL_tick_32 : decode cL_tick 32 = .ok (.aload_n 0, 1) := by decide +kernel
theorem dL_tick_33 : decode cL_tick 33 = .ok (.bipush 15, 2) := by decide +kernel
theorem dL_tick_35 : decode cL_tick 35 = .ok (.iaload, 1) := by decide +kernel
theorem dL_tick_36 : decode cL_tick 36 = .ok (.ifCond .le 34, 3) := by decide +kernel
theorem dL_tick_39 : decode cL_tick 39 = .ok (.aload_n 1, 1) := by decide +kernel
theorem dL_tick_40 : decode cL_tick 40 = .ok (.iconst 0, 1) := by decide +kernel
theorem dL_tick_41 : decode cL_tick 41 = .ok (.bipush 11, 2) := by decide +kernel
theorem dL_tick_43 : decode cL_tick 43 = .ok (.invokestatic 9, 3) := by decide +kernel
theorem dL_tick_46 : decode cL_tick 46 = .ok (.aload_n 0, 1) := by decide +kernel
theorem dL_tick_47 : decode cL_tick 47 = .ok (.bipush 17, 2) := by decide +kernel
theorem dL_tick_49 : decode cL_tick 49 = .ok (.iaload, 1) := by decide +kernel
theorem dL_tick_50 : decode cL_tick 50 = .ok (.iadd, 1) := by decide +kernel
theorem dL_tick_51 : decode cL_tick 51 = .ok (.aload_n 0, 1) := by decide +kernel
theorem dL_tick_52 : decode cL_tick 52 = .ok (.bipush 15, 2) := by decide +kernel
theorem dL_tick_54 : decode cL_tick 54 = .ok (.iaload, 1) := by decide +kernel
theorem dL_tick_55 : decode cL_tick 55 = .ok (.if_icmp .ge 10, 3) := by decide +kernel
theorem dL_tick_58 : decode cL_tick 58 = .ok (.aload_n 0, 1) := by decide +kernel
theorem dL_tick_59 : decode cL_tick 59 = .ok (.bipush 13, 2) := by decide +kernel
theorem dL_tick_61 : decode cL_tick 61 = .ok (.iaload, 1) := by decide +kernel
theorem dL_tick_62 : decode cL_tick 62 = .ok (.ifCond .gt 8, 3) := by decide +kernel
theorem dL_tick_65 : decode cL_tick 65 = .ok (.aload_n 0, 1) := by decide +kernel
theorem dL_tick_66 : decode cL_tick 66 = .ok (.bipush 16, 2) := by decide +kernel
theorem dL_tick_68 : decode cL_tick 68 = .ok (.iconst 1, 1) := by decide +kernel
theorem dL_tick_69 : decode cL_tick 69 = .ok (.iastore, 1) := by decide +kernel
theorem dL_tick_70 : decode cL_tick 70 = .ok (.aload_n 0, 1) := by decide +kernel
theorem dL_tick_71 : decode cL_tick 71 = .ok (.bipush 15, 2) := by decide +kernel
theorem dL_tick_73 : decode cL_tick 73 = .ok (.iaload, 1) := by decide +kernel
theorem dL_tick_74 : decode cL_tick 74 = .ok (.ifCond .ne 18, 3) := by decide +kernel
theorem dL_tick_77 : decode cL_tick 77 = .ok (.aload_n 0, 1) := by decide +kernel
theorem dL_tick_78 : decode cL_tick 78 = .ok (.iconst 1, 1) := by decide +kernel
theorem dL_tick_79 : decode cL_tick 79 = .ok (.iaload, 1) := by decide +kernel
theorem dL_tick_80 : decode cL_tick 80 = .ok (.ifCond .ne 12, 3) := by decide +kernel
theorem dL_tick_83 : decode cL_tick 83 = .ok (.aload_n 0, 1) := by decide +kernel
theorem dL_tick_84 : decode cL_tick 84 = .ok (.bipush 8, 2) := by decide +kernel
theorem dL_tick_86 : decode cL_tick 86 = .ok (.dup2, 1) := by decide +kernel
theorem dL_tick_87 : decode cL_tick 87 = .ok (.iaload, 1) := by decide +kernel
theorem dL_tick_88 : decode cL_tick 88 = .ok (.iconst 1, 1) := by decide +kernel
theorem dL_tick_89 : decode cL_tick 89 = .ok (.iadd, 1) := by decide +kernel
theorem dL_tick_90 : decode cL_tick 90 = .ok (.iastore, 1) := by decide +kernel
theorem dL_tick_91 : decode cL_tick 91 = .ok (.return_, 1) := by decide +kernel
theorem dL_tick_92 : decode cL_tick 92 = .ok (.bipush 6, 2) := by decide +kernel
theorem dL_tick_94 : decode cL_tick 94 = .ok (.aload_n 0, 1) := by decide +kernel
theorem dL_tick_95 : decode cL_tick 95 = .ok (.bipush 12, 2) := by decide +kernel
theorem dL_tick_97 : decode cL_tick 97 = .ok (.iaload, 1) := by decide +kernel
theorem dL_tick_98 : decode cL_tick 98 = .ok (.imul, 1) := by decide +kernel
theorem dL_tick_99 : decode cL_tick 99 = .ok (.bipush 6, 2) := by decide +kernel
theorem dL_tick_101 : decode cL_tick 101 = .ok (.isub, 1) := by decide +kernel
theorem dL_tick_102 : decode cL_tick 102 = .ok (.istore 5, 2) := by decide +kernel
theorem dL_tick_104 : decode cL_tick 104 = .ok (.aload_n 1, 1) := by decide +kernel
theorem dL_tick_105 : decode cL_tick 105 = .ok (.bipush 11, 2) := by decide +kernel
theorem dL_tick_107 : decode cL_tick 107 = .ok (.bipush 11, 2) := by decide +kernel
theorem dL_tick_109 : decode cL_tick 109 = .ok (.invokestatic 9, 3) := by decide +kernel
theorem dL_tick_112 : decode cL_tick 112 = .ok (.istore 6, 2) := by decide +kernel
theorem dL_tick_114 : decode cL_tick 114 = .ok (.aload_n 0, 1) := by decide +kernel
theorem dL_tick_115 : decode cL_tick 115 = .ok (.bipush 11, 2) := by decide +kernel
theorem dL_tick_117 : decode cL_tick 117 = .ok (.dup2, 1) := by decide +kernel
theorem dL_tick_118 : decode cL_tick 118 = .ok (.iaload, 1) := by decide +kernel
theorem dL_tick_119 : decode cL_tick 119 = .ok (.iload 6, 2) := by decide +kernel
theorem dL_tick_121 : decode cL_tick 121 = .ok (.iadd, 1) := by decide +kernel
theorem dL_tick_122 : decode cL_tick 122 = .ok (.iastore, 1) := by decide +kernel
theorem dL_tick_123 : decode cL_tick 123 = .ok (.aload_n 0, 1) := by decide +kernel
theorem dL_tick_124 : decode cL_tick 124 = .ok (.bipush 10, 2) := by decide +kernel
theorem dL_tick_126 : decode cL_tick 126 = .ok (.dup2, 1) := by decide +kernel
theorem dL_tick_127 : decode cL_tick 127 = .ok (.iaload, 1) := by decide +kernel
theorem dL_tick_128 : decode cL_tick 128 = .ok (.iload 5, 2) := by decide +kernel
theorem dL_tick_130 : decode cL_tick 130 = .ok (.ifCond .ge 8, 3) := by decide +kernel
theorem dL_tick_133 : decode cL_tick 133 = .ok (.iload 6, 2) := by decide +kernel
theorem dL_tick_135 : decode cL_tick 135 = .ok (.goto 4, 3) := by decide +kernel
theorem dL_tick_138 : decode cL_tick 138 = .ok (.iconst 0, 1) := by decide +kernel
theorem dL_tick_139 : decode cL_tick 139 = .ok (.iadd, 1) := by decide +kernel
theorem dL_tick_140 : decode cL_tick 140 = .ok (.iastore, 1) := by decide +kernel
theorem dL_tick_141 : decode cL_tick 141 = .ok (.iconst 0, 1) := by decide +kernel
theorem dL_tick_142 : decode cL_tick 142 = .ok (.istore 7, 2) := by decide +kernel
theorem dL_tick_144 : decode cL_tick 144 = .ok (.iload 7, 2) := by decide +kernel
theorem dL_tick_146 : decode cL_tick 146 = .ok (.iconst 4, 1) := by decide +kernel
theorem dL_tick_147 : decode cL_tick 147 = .ok (.if_icmp .ge 70, 3) := by decide +kernel
theorem dL_tick_150 : decode cL_tick 150 = .ok (.iload 5, 2) := by decide +kernel
theorem dL_tick_152 : decode cL_tick 152 = .ok (.ifCond .lt 65, 3) := by decide +kernel
theorem dL_tick_155 : decode cL_tick 155 = .ok (.aload_n 3, 1) := by decide +kernel
theorem dL_tick_156 : decode cL_tick 156 = .ok (.iload 5, 2) := by decide +kernel
theorem dL_tick_158 : decode cL_tick 158 = .ok (.iload 7, 2) := by decide +kernel
theorem dL_tick_160 : decode cL_tick 160 = .ok (.iadd, 1) := by decide +kernel
theorem dL_tick_161 : decode cL_tick 161 = .ok (.dup2, 1) := by decide +kernel
theorem dL_tick_162 : decode cL_tick 162 = .ok (.iaload, 1) := by decide +kernel
theorem dL_tick_163 : decode cL_tick 163 = .ok (.aload_n 1, 1) := by decide +kernel
theorem dL_tick_164 : decode cL_tick 164 = .ok (.bipush 44, 2) := by decide +kernel
theorem dL_tick_166 : decode cL_tick 166 = .ok (.iload 7, 2) := by decide +kernel
theorem dL_tick_168 : decode cL_tick 168 = .ok (.iadd, 1) := by decide +kernel
theorem dL_tick_169 : decode cL_tick 169 = .ok (.iaload, 1) := by decide +kernel
theorem dL_tick_170 : decode cL_tick 170 = .ok (.iadd, 1) := by decide +kernel
theorem dL_tick_171 : decode cL_tick 171 = .ok (.iastore, 1) := by decide +kernel
theorem dL_tick_172 : decode cL_tick 172 = .ok (.aload_n 0, 1) := by decide +kernel
theorem dL_tick_173 : decode cL_tick 173 = .ok (.bipush 17, 2) := by decide +kernel
theorem dL_tick_175 : decode cL_tick 175 = .ok (.dup2, 1) := by decide +kernel
theorem dL_tick_176 : decode cL_tick 176 = .ok (.iaload, 1) := by decide +kernel
theorem dL_tick_177 : decode cL_tick 177 = .ok (.aload_n 1, 1) := by decide +kernel
theorem dL_tick_178 : decode cL_tick 178 = .ok (.bipush 44, 2) := by decide +kernel
theorem dL_tick_180 : decode cL_tick 180 = .ok (.iload 7, 2) := by decide +kernel
theorem dL_tick_182 : decode cL_tick 182 = .ok (.iadd, 1) := by decide +kernel
theorem dL_tick_183 : decode cL_tick 183 = .ok (.iaload, 1) := by decide +kernel
theorem dL_tick_184 : decode cL_tick 184 = .ok (.iadd, 1) := by decide +kernel
theorem dL_tick_185 : decode cL_tick 185 = .ok (.iastore, 1) := by decide +kernel
theorem dL_tick_186 : decode cL_tick 186 = .ok (.aload 4, 2) := by decide +kernel
theorem dL_tick_188 : decode cL_tick 188 = .ok (.iconst 2, 1) := by decide +kernel
theorem dL_tick_189 : decode cL_tick 189 = .ok (.aload 4, 2) := by decide +kernel
theorem dL_tick_191 : decode cL_tick 191 = .ok (.bipush 16, 2) := by decide +kernel
theorem dL_tick_193 : decode cL_tick 193 = .ok (.iload 7, 2) := by decide +kernel
theorem dL_tick_195 : decode cL_tick 195 = .ok (.iadd, 1) := by decide +kernel
theorem dL_tick_196 : decode cL_tick 196 = .ok (.iaload, 1) := by decide +kernel
theorem dL_tick_197 : decode cL_tick 197 = .ok (.imul, 1) := by decide +kernel
theorem dL_tick_198 : decode cL_tick 198 = .ok (.iconst 1, 1) := by decide +kernel
theorem dL_tick_199 : decode cL_tick 199 = .ok (.iadd, 1) := by decide +kernel
theorem dL_tick_200 : decode cL_tick 200 = .ok (.dup2, 1) := by decide +kernel
theorem dL_tick_201 : decode cL_tick 201 = .ok (.iaload, 1) := by decide +kernel
theorem dL_tick_202 : decode cL_tick 202 = .ok (.aload_n 1, 1) := by decide +kernel
theorem dL_tick_203 : decode cL_tick 203 = .ok (.bipush 44, 2) := by decide +kernel
theorem dL_tick_205 : decode cL_tick 205 = .ok (.iload 7, 2) := by decide +kernel
theorem dL_tick_207 : decode cL_tick 207 = .ok (.iadd, 1) := by decide +kernel
theorem dL_tick_208 : decode cL_tick 208 = .ok (.iaload, 1) := by decide +kernel
theorem dL_tick_209 : decode cL_tick 209 = .ok (.iadd, 1) := by decide +kernel
theorem dL_tick_210 : decode cL_tick 210 = .ok (.iastore, 1) := by decide +kernel
theorem dL_tick_211 : decode cL_tick 211 = .ok (.iinc 7 1, 3) := by decide +kernel
theorem dL_tick_214 : decode cL_tick 214 = .ok (.goto (-70), 3) := by decide +kernel
theorem dL_tick_217 : decode cL_tick 217 = .ok (.bipush 47, 2) := by decide +kernel
theorem dL_tick_219 : decode cL_tick 219 = .ok (.istore 7, 2) := by decide +kernel
theorem dL_tick_221 : decode cL_tick 221 = .ok (.iload 7, 2) := by decide +kernel
theorem dL_tick_223 : decode cL_tick 223 = .ok (.ifCond .lt 29, 3) := by decide +kernel
theorem dL_tick_226 : decode cL_tick 226 = .ok (.aload_n 1, 1) := by decide +kernel
theorem dL_tick_227 : decode cL_tick 227 = .ok (.iload 7, 2) := by decide +kernel
theorem dL_tick_229 : decode cL_tick 229 = .ok (.iload 7, 2) := by decide +kernel
theorem dL_tick_231 : decode cL_tick 231 = .ok (.iconst 3, 1) := by decide +kernel
theorem dL_tick_232 : decode cL_tick 232 = .ok (.if_icmp .le 12, 3) := by decide +kernel
theorem dL_tick_235 : decode cL_tick 235 = .ok (.aload_n 1, 1) := by decide +kernel
theorem dL_tick_236 : decode cL_tick 236 = .ok (.iload 7, 2) := by decide +kernel
theorem dL_tick_238 : decode cL_tick 238 = .ok (.iconst 4, 1) := by decide +kernel
theorem dL_tick_239 : decode cL_tick 239 = .ok (.isub, 1) := by decide +kernel
theorem dL_tick_240 : decode cL_tick 240 = .ok (.iaload, 1) := by decide +kernel
theorem dL_tick_241 : decode cL_tick 241 = .ok (.goto 4, 3) := by decide +kernel
theorem dL_tick_244 : decode cL_tick 244 = .ok (.iconst 0, 1) := by decide +kernel
theorem dL_tick_245 : decode cL_tick 245 = .ok (.iastore, 1) := by decide +kernel
theorem dL_tick_246 : decode cL_tick 246 = .ok (.iinc 7 (-1), 3) := by decide +kernel
theorem dL_tick_249 : decode cL_tick 249 = .ok (.goto (-28), 3) := by decide +kernel
theorem dL_tick_252 : decode cL_tick 252 = .ok (.aload_n 0, 1) := by decide +kernel
theorem dL_tick_253 : decode cL_tick 253 = .ok (.bipush 16, 2) := by decide +kernel
theorem dL_tick_255 : decode cL_tick 255 = .ok (.iaload, 1) := by decide +kernel
theorem dL_tick_256 : decode cL_tick 256 = .ok (.ifCond .eq 10, 3) := by decide +kernel
theorem dL_tick_259 : decode cL_tick 259 = .ok (.aload_n 0, 1) := by decide +kernel
theorem dL_tick_260 : decode cL_tick 260 = .ok (.bipush 15, 2) := by decide +kernel
theorem dL_tick_262 : decode cL_tick 262 = .ok (.iaload, 1) := by decide +kernel
theorem dL_tick_263 : decode cL_tick 263 = .ok (.ifCond .ne 9, 3) := by decide +kernel
theorem dL_tick_266 : decode cL_tick 266 = .ok (.aload_n 0, 1) := by decide +kernel
theorem dL_tick_267 : decode cL_tick 267 = .ok (.aload_n 1, 1) := by decide +kernel
theorem dL_tick_268 : decode cL_tick 268 = .ok (.aload_n 2, 1) := by decide +kernel
theorem dL_tick_269 : decode cL_tick 269 = .ok (.invokestatic 15, 3) := by decide +kernel
theorem dL_tick_272 : decode cL_tick 272 = .ok (.aload_n 1, 1) := by decide +kernel
theorem dL_tick_273 : decode cL_tick 273 = .ok (.iconst 4, 1) := by decide +kernel
theorem dL_tick_274 : decode cL_tick 274 = .ok (.bipush 7, 2) := by decide +kernel
theorem dL_tick_276 : decode cL_tick 276 = .ok (.invokestatic 9, 3) := by decide +kernel
theorem dL_tick_279 : decode cL_tick 279 = .ok (.aload_n 0, 1) := by decide +kernel
theorem dL_tick_280 : decode cL_tick 280 = .ok (.iconst 3, 1) := by decide +kernel
theorem dL_tick_281 : decode cL_tick 281 = .ok (.iaload, 1) := by decide +kernel
theorem dL_tick_282 : decode cL_tick 282 = .ok (.iadd, 1) := by decide +kernel
theorem dL_tick_283 : decode cL_tick 283 = .ok (.aload_n 0, 1) := by decide +kernel
theorem dL_tick_284 : decode cL_tick 284 = .ok (.iconst 4, 1) := by decide +kernel
theorem dL_tick_285 : decode cL_tick 285 = .ok (.iaload, 1) := by decide +kernel
theorem dL_tick_286 : decode cL_tick 286 = .ok (.isub, 1) := by decide +kernel
theorem dL_tick_287 : decode cL_tick 287 = .ok (.aload_n 0, 1) := by decide +kernel
theorem dL_tick_288 : decode cL_tick 288 = .ok (.bipush 6, 2) := by decide +kernel
theorem dL_tick_290 : decode cL_tick 290 = .ok (.iaload, 1) := by decide +kernel
theorem dL_tick_291 : decode cL_tick 291 = .ok (.iadd, 1) := by decide +kernel
theorem dL_tick_292 : decode cL_tick 292 = .ok (.istore 7, 2) := by decide +kernel
theorem dL_tick_294 : decode cL_tick 294 = .ok (.iload 7, 2) := by decide +kernel
theorem dL_tick_296 : decode cL_tick 296 = .ok (.ifCond .ge 9, 3) := by decide +kernel
theorem dL_tick_299 : decode cL_tick 299 = .ok (.iload 7, 2) := by decide +kernel
theorem dL_tick_301 : decode cL_tick 301 = .ok (.ineg, 1) := by decide +kernel
theorem dL_tick_302 : decode cL_tick 302 = .ok (.goto 5, 3) := by decide +kernel
theorem dL_tick_305 : decode cL_tick 305 = .ok (.iload 7, 2) := by decide +kernel
theorem dL_tick_307 : decode cL_tick 307 = .ok (.iconst 4, 1) := by decide +kernel
theorem dL_tick_308 : decode cL_tick 308 = .ok (.idiv, 1) := by decide +kernel
theorem dL_tick_309 : decode cL_tick 309 = .ok (.istore 8, 2) := by decide +kernel
theorem dL_tick_311 : decode cL_tick 311 = .ok (.iload 7, 2) := by decide +kernel
theorem dL_tick_313 : decode cL_tick 313 = .ok (.ifCond .ge 9, 3) := by decide +kernel
theorem dL_tick_316 : decode cL_tick 316 = .ok (.iload 8, 2) := by decide +kernel
theorem dL_tick_318 : decode cL_tick 318 = .ok (.ineg, 1) := by decide +kernel
theorem dL_tick_319 : decode cL_tick 319 = .ok (.goto 5, 3) := by decide +kernel
theorem dL_tick_322 : decode cL_tick 322 = .ok (.iload 8, 2) := by decide +kernel
theorem dL_tick_324 : decode cL_tick 324 = .ok (.istore 8, 2) := by decide +kernel
theorem dL_tick_326 : decode cL_tick 326 = .ok (.aload_n 0, 1) := by decide +kernel
theorem dL_tick_327 : decode cL_tick 327 = .ok (.iconst 5, 1) := by decide +kernel
theorem dL_tick_328 : decode cL_tick 328 = .ok (.dup2, 1) := by decide +kernel
theorem dL_tick_329 : decode cL_tick 329 = .ok (.iaload, 1) := by decide +kernel
theorem dL_tick_330 : decode cL_tick 330 = .ok (.iload 8, 2) := by decide +kernel
theorem dL_tick_332 : decode cL_tick 332 = .ok (.iadd, 1) := by decide +kernel
theorem dL_tick_333 : decode cL_tick 333 = .ok (.iastore, 1) := by decide +kernel
theorem dL_tick_334 : decode cL_tick 334 = .ok (.aload_n 0, 1) := by decide +kernel
theorem dL_tick_335 : decode cL_tick 335 = .ok (.bipush 6, 2) := by decide +kernel
theorem dL_tick_337 : decode cL_tick 337 = .ok (.iload 7, 2) := by decide +kernel
theorem dL_tick_339 : decode cL_tick 339 = .ok (.iconst 4, 1) := by decide +kernel
theorem dL_tick_340 : decode cL_tick 340 = .ok (.iload 8, 2) := by decide +kernel
theorem dL_tick_342 : decode cL_tick 342 = .ok (.imul, 1) := by decide +kernel
theorem dL_tick_343 : decode cL_tick 343 = .ok (.isub, 1) := by decide +kernel
theorem dL_tick_344 : decode cL_tick 344 = .ok (.iastore, 1) := by decide +kernel
theorem dL_tick_345 : decode cL_tick 345 = .ok (.aload_n 0, 1) := by decide +kernel
theorem dL_tick_346 : decode cL_tick 346 = .ok (.bipush 8, 2) := by decide +kernel
theorem dL_tick_348 : decode cL_tick 348 = .ok (.iconst 0, 1) := by decide +kernel
theorem dL_tick_349 : decode cL_tick 349 = .ok (.iastore, 1) := by decide +kernel
theorem dL_tick_350 : decode cL_tick 350 = .ok (.iload 5, 2) := by decide +kernel
theorem dL_tick_352 : decode cL_tick 352 = .ok (.ifCond .lt 33, 3) := by decide +kernel
theorem dL_tick_355 : decode cL_tick 355 = .ok (.aload_n 3, 1) := by decide +kernel
theorem dL_tick_356 : decode cL_tick 356 = .ok (.iload 5, 2) := by decide +kernel
theorem dL_tick_358 : decode cL_tick 358 = .ok (.iconst 4, 1) := by decide +kernel
theorem dL_tick_359 : decode cL_tick 359 = .ok (.iadd, 1) := by decide +kernel
theorem dL_tick_360 : decode cL_tick 360 = .ok (.dup2, 1) := by decide +kernel
theorem dL_tick_361 : decode cL_tick 361 = .ok (.iaload, 1) := by decide +kernel
theorem dL_tick_362 : decode cL_tick 362 = .ok (.iload 8, 2) := by decide +kernel
theorem dL_tick_364 : decode cL_tick 364 = .ok (.iadd, 1) := by decide +kernel
theorem dL_tick_365 : decode cL_tick 365 = .ok (.iastore, 1) := by decide +kernel
theorem dL_tick_366 : decode cL_tick 366 = .ok (.aload_n 3, 1) := by decide +kernel
theorem dL_tick_367 : decode cL_tick 367 = .ok (.iload 5, 2) := by decide +kernel
theorem dL_tick_369 : decode cL_tick 369 = .ok (.iconst 5, 1) := by decide +kernel
theorem dL_tick_370 : decode cL_tick 370 = .ok (.iadd, 1) := by decide +kernel
theorem dL_tick_371 : decode cL_tick 371 = .ok (.dup2, 1) := by decide +kernel
theorem dL_tick_372 : decode cL_tick 372 = .ok (.iaload, 1) := by decide +kernel
theorem dL_tick_373 : decode cL_tick 373 = .ok (.iload 6, 2) := by decide +kernel
theorem dL_tick_375 : decode cL_tick 375 = .ok (.ifCond .le 7, 3) := by decide +kernel
theorem dL_tick_378 : decode cL_tick 378 = .ok (.iconst 1, 1) := by decide +kernel
theorem dL_tick_379 : decode cL_tick 379 = .ok (.goto 4, 3) := by decide +kernel
theorem dL_tick_382 : decode cL_tick 382 = .ok (.iconst 0, 1) := by decide +kernel
theorem dL_tick_383 : decode cL_tick 383 = .ok (.iadd, 1) := by decide +kernel
theorem dL_tick_384 : decode cL_tick 384 = .ok (.iastore, 1) := by decide +kernel
theorem dL_tick_385 : decode cL_tick 385 = .ok (.aload_n 0, 1) := by decide +kernel
theorem dL_tick_386 : decode cL_tick 386 = .ok (.bipush 15, 2) := by decide +kernel
theorem dL_tick_388 : decode cL_tick 388 = .ok (.iaload, 1) := by decide +kernel
theorem dL_tick_389 : decode cL_tick 389 = .ok (.ifCond .le 26, 3) := by decide +kernel
theorem dL_tick_392 : decode cL_tick 392 = .ok (.aload_n 0, 1) := by decide +kernel
theorem dL_tick_393 : decode cL_tick 393 = .ok (.bipush 16, 2) := by decide +kernel
theorem dL_tick_395 : decode cL_tick 395 = .ok (.iaload, 1) := by decide +kernel
theorem dL_tick_396 : decode cL_tick 396 = .ok (.iconst 1, 1) := by decide +kernel
theorem dL_tick_397 : decode cL_tick 397 = .ok (.if_icmp .ne 18, 3) := by decide +kernel
theorem dL_tick_400 : decode cL_tick 400 = .ok (.aload_n 1, 1) := by decide +kernel
theorem dL_tick_401 : decode cL_tick 401 = .ok (.iconst 0, 1) := by decide +kernel
theorem dL_tick_402 : decode cL_tick 402 = .ok (.bipush 11, 2) := by decide +kernel
theorem dL_tick_404 : decode cL_tick 404 = .ok (.invokestatic 9, 3) := by decide +kernel
theorem dL_tick_407 : decode cL_tick 407 = .ok (.ifCond .ne 8, 3) := by decide +kernel
theorem dL_tick_410 : decode cL_tick 410 = .ok (.aload_n 0, 1) := by decide +kernel
theorem dL_tick_411 : decode cL_tick 411 = .ok (.bipush 15, 2) := by decide +kernel
theorem dL_tick_413 : decode cL_tick 413 = .ok (.iconst 0, 1) := by decide +kernel
theorem dL_tick_414 : decode cL_tick 414 = .ok (.iastore, 1) := by decide +kernel
theorem dL_tick_415 : decode cL_tick 415 = .ok (.return_, 1) := by decide +kernel
theorem dL_runs_0 : decode cL_runs 0 = .ok (.iload 6, 2) := by decide +kernel
theorem dL_runs_2 : decode cL_runs 2 = .ok (.ifCond .ne 78, 3) := by decide +kernel
theorem dL_runs_5 : decode cL_runs 5 = .ok (.iconst 1, 1) := by decide +kernel
theorem dL_runs_6 : decode cL_runs 6 = .ok (.iload 7, 2) := by decide +kernel
theorem dL_runs_8 : decode cL_runs 8 = .ok (.iload 7, 2) := by decide +kernel
theorem dL_runs_10 : decode cL_runs 10 = .ok (.iconst 5, 1) := by decide +kernel
theorem dL_runs_11 : decode cL_runs 11 = .ok (.irem, 1) := by decide +kernel
theorem dL_runs_12 : decode cL_runs 12 = .ok (.ifCond .ne 8, 3) := by decide +kernel
theorem dL_runs_15 : decode cL_runs 15 = .ok (.bipush 60, 2) := by decide +kernel
theorem dL_runs_17 : decode cL_runs 17 = .ok (.goto 5, 3) := by decide +kernel
theorem dL_runs_20 : decode cL_runs 20 = .ok (.bipush 9, 2) := by decide +kernel
theorem dL_runs_22 : decode cL_runs 22 = .ok (.irem, 1) := by decide +kernel
theorem dL_runs_23 : decode cL_runs 23 = .ok (.iadd, 1) := by decide +kernel
theorem dL_runs_24 : decode cL_runs 24 = .ok (.istore 8, 2) := by decide +kernel
theorem dL_runs_26 : decode cL_runs 26 = .ok (.aload_n 1, 1) := by decide +kernel
theorem dL_runs_27 : decode cL_runs 27 = .ok (.bipush 11, 2) := by decide +kernel
theorem dL_runs_29 : decode cL_runs 29 = .ok (.iaload, 1) := by decide +kernel
theorem dL_runs_30 : decode cL_runs 30 = .ok (.istore 9, 2) := by decide +kernel
theorem dL_runs_32 : decode cL_runs 32 = .ok (.iconst 0, 1) := by decide +kernel
theorem dL_runs_33 : decode cL_runs 33 = .ok (.istore 10, 2) := by decide +kernel
theorem dL_runs_35 : decode cL_runs 35 = .ok (.iload 10, 2) := by decide +kernel
theorem dL_runs_37 : decode cL_runs 37 = .ok (.iload 8, 2) := by decide +kernel
theorem dL_runs_39 : decode cL_runs 39 = .ok (.if_icmp .ge 19, 3) := by decide +kernel
theorem dL_runs_42 : decode cL_runs 42 = .ok (.aload_n 1, 1) := by decide +kernel
theorem dL_runs_43 : decode cL_runs 43 = .ok (.aload_n 2, 1) := by decide +kernel
theorem dL_runs_44 : decode cL_runs 44 = .ok (.aload_n 3, 1) := by decide +kernel
theorem dL_runs_45 : decode cL_runs 45 = .ok (.aload 4, 2) := by decide +kernel
theorem dL_runs_47 : decode cL_runs 47 = .ok (.aload 5, 2) := by decide +kernel
theorem dL_runs_49 : decode cL_runs 49 = .ok (.invokestatic 19, 3) := by decide +kernel
theorem dL_runs_52 : decode cL_runs 52 = .ok (.iinc 10 1, 3) := by decide +kernel
theorem dL_runs_55 : decode cL_runs 55 = .ok (.goto (-20), 3) := by decide +kernel
theorem dL_runs_58 : decode cL_runs 58 = .ok (.aload_n 0, 1) := by decide +kernel
theorem dL_runs_59 : decode cL_runs 59 = .ok (.iload 8, 2) := by decide +kernel
theorem dL_runs_61 : decode cL_runs 61 = .ok (.invokevirtual 23, 3) := by decide +kernel
theorem dL_runs_64 : decode cL_runs 64 = .ok (.aload_n 1, 1) := by decide +kernel
theorem dL_runs_65 : decode cL_runs 65 = .ok (.bipush 11, 2) := by decide +kernel
theorem dL_runs_67 : decode cL_runs 67 = .ok (.iaload, 1) := by decide +kernel
theorem dL_runs_68 : decode cL_runs 68 = .ok (.iload 9, 2) := by decide +kernel
theorem dL_runs_70 : decode cL_runs 70 = .ok (.isub, 1) := by decide +kernel
theorem dL_runs_71 : decode cL_runs 71 = .ok (.if_icmp .ne 7, 3) := by decide +kernel
theorem dL_runs_74 : decode cL_runs 74 = .ok (.iconst 1, 1) := by decide +kernel
theorem dL_runs_75 : decode cL_runs 75 = .ok (.goto 4, 3) := by decide +kernel
theorem dL_runs_78 : decode cL_runs 78 = .ok (.iconst 0, 1) := by decide +kernel
theorem dL_runs_79 : decode cL_runs 79 = .ok (.ireturn, 1) := by decide +kernel
theorem dL_runs_80 : decode cL_runs 80 = .ok (.iload 6, 2) := by decide +kernel
theorem dL_runs_82 : decode cL_runs 82 = .ok (.iconst 1, 1) := by decide +kernel
theorem dL_runs_83 : decode cL_runs 83 = .ok (.if_icmp .ne 67, 3) := by decide +kernel
theorem dL_runs_86 : decode cL_runs 86 = .ok (.aload_n 1, 1) := by decide +kernel
theorem dL_runs_87 : decode cL_runs 87 = .ok (.bipush 15, 2) := by decide +kernel
theorem dL_runs_89 : decode cL_runs 89 = .ok (.iaload, 1) := by decide +kernel
theorem dL_runs_90 : decode cL_runs 90 = .ok (.ifCond .le 22, 3) := by decide +kernel
theorem dL_runs_93 : decode cL_runs 93 = .ok (.aload_n 0, 1) := by decide +kernel
theorem dL_runs_94 : decode cL_runs 94 = .ok (.iload 7, 2) := by decide +kernel
theorem dL_runs_96 : decode cL_runs 96 = .ok (.iconst 2, 1) := by decide +kernel
theorem dL_runs_97 : decode cL_runs 97 = .ok (.irem, 1) := by decide +kernel
theorem dL_runs_98 : decode cL_runs 98 = .ok (.invokevirtual 28, 3) := by decide +kernel
theorem dL_runs_101 : decode cL_runs 101 = .ok (.ldc 31, 2) := by decide +kernel
theorem dL_runs_103 : decode cL_runs 103 = .ok (.if_icmp .ne 7, 3) := by decide +kernel
theorem dL_runs_106 : decode cL_runs 106 = .ok (.iconst 1, 1) := by decide +kernel
theorem dL_runs_107 : decode cL_runs 107 = .ok (.goto 4, 3) := by decide +kernel
theorem dL_runs_110 : decode cL_runs 110 = .ok (.iconst 0, 1) := by decide +kernel
theorem dL_runs_111 : decode cL_runs 111 = .ok (.ireturn, 1) := by decide +kernel
theorem dL_runs_112 : decode cL_runs 112 = .ok (.aload_n 1, 1) := by decide +kernel
theorem dL_runs_113 : decode cL_runs 113 = .ok (.iconst 1, 1) := by decide +kernel
theorem dL_runs_114 : decode cL_runs 114 = .ok (.iaload, 1) := by decide +kernel
theorem dL_runs_115 : decode cL_runs 115 = .ok (.istore 8, 2) := by decide +kernel
theorem dL_runs_117 : decode cL_runs 117 = .ok (.aload_n 1, 1) := by decide +kernel
theorem dL_runs_118 : decode cL_runs 118 = .ok (.iconst 1, 1) := by decide +kernel
theorem dL_runs_119 : decode cL_runs 119 = .ok (.iload 7, 2) := by decide +kernel
theorem dL_runs_121 : decode cL_runs 121 = .ok (.iconst 3, 1) := by decide +kernel
theorem dL_runs_122 : decode cL_runs 122 = .ok (.irem, 1) := by decide +kernel
theorem dL_runs_123 : decode cL_runs 123 = .ok (.ifCond .le 7, 3) := by decide +kernel
theorem dL_runs_126 : decode cL_runs 126 = .ok (.iconst 1, 1) := by decide +kernel
theorem dL_runs_127 : decode cL_runs 127 = .ok (.goto 4, 3) := by decide +kernel
theorem dL_runs_130 : decode cL_runs 130 = .ok (.iconst 0, 1) := by decide +kernel
theorem dL_runs_131 : decode cL_runs 131 = .ok (.iastore, 1) := by decide +kernel
theorem dL_runs_132 : decode cL_runs 132 = .ok (.aload_n 0, 1) := by decide +kernel
theorem dL_runs_133 : decode cL_runs 133 = .ok (.aload_n 1, 1) := by decide +kernel
theorem dL_runs_134 : decode cL_runs 134 = .ok (.iconst 1, 1) := by decide +kernel
theorem dL_runs_135 : decode cL_runs 135 = .ok (.iaload, 1) := by decide +kernel
theorem dL_runs_136 : decode cL_runs 136 = .ok (.invokevirtual 28, 3) := by decide +kernel
theorem dL_runs_139 : decode cL_runs 139 = .ok (.iload 8, 2) := by decide +kernel
theorem dL_runs_141 : decode cL_runs 141 = .ok (.if_icmp .ne 7, 3) := by decide +kernel
theorem dL_runs_144 : decode cL_runs 144 = .ok (.iconst 1, 1) := by decide +kernel
theorem dL_runs_145 : decode cL_runs 145 = .ok (.goto 4, 3) := by decide +kernel
theorem dL_runs_148 : decode cL_runs 148 = .ok (.iconst 0, 1) := by decide +kernel
theorem dL_runs_149 : decode cL_runs 149 = .ok (.ireturn, 1) := by decide +kernel
theorem dL_runs_150 : decode cL_runs 150 = .ok (.iload 6, 2) := by decide +kernel
theorem dL_runs_152 : decode cL_runs 152 = .ok (.iconst 2, 1) := by decide +kernel
theorem dL_runs_153 : decode cL_runs 153 = .ok (.if_icmp .ne 103, 3) := by decide +kernel
theorem dL_runs_156 : decode cL_runs 156 = .ok (.aload_n 1, 1) := by decide +kernel
theorem dL_runs_157 : decode cL_runs 157 = .ok (.bipush 15, 2) := by decide +kernel
theorem dL_runs_159 : decode cL_runs 159 = .ok (.iaload, 1) := by decide +kernel
theorem dL_runs_160 : decode cL_runs 160 = .ok (.ifCond .gt 12, 3) := by decide +kernel
theorem dL_runs_163 : decode cL_runs 163 = .ok (.aload_n 1, 1) := by decide +kernel
theorem dL_runs_164 : decode cL_runs 164 = .ok (.bipush 12, 2) := by decide +kernel
theorem dL_runs_166 : decode cL_runs 166 = .ok (.iaload, 1) := by decide +kernel
theorem dL_runs_167 : decode cL_runs 167 = .ok (.bipush 8, 2) := by decide +kernel
theorem dL_runs_169 : decode cL_runs 169 = .ok (.if_icmp .ne 30, 3) := by decide +kernel
theorem dL_runs_172 : decode cL_runs 172 = .ok (.aload_n 0, 1) := by decide +kernel
theorem dL_runs_173 : decode cL_runs 173 = .ok (.invokevirtual 32, 3) := by decide +kernel
theorem dL_runs_176 : decode cL_runs 176 = .ok (.aload_n 1, 1) := by decide +kernel
theorem dL_runs_177 : decode cL_runs 177 = .ok (.bipush 15, 2) := by decide +kernel
theorem dL_runs_179 : decode cL_runs 179 = .ok (.iaload, 1) := by decide +kernel
theorem dL_runs_180 : decode cL_runs 180 = .ok (.ifCond .le 8, 3) := by decide +kernel
theorem dL_runs_183 : decode cL_runs 183 = .ok (.ldc 31, 2) := by decide +kernel
theorem dL_runs_185 : decode cL_runs 185 = .ok (.goto 5, 3) := by decide +kernel
theorem dL_runs_188 : decode cL_runs 188 = .ok (.ldc 36, 2) := by decide +kernel
theorem dL_runs_190 : decode cL_runs 190 = .ok (.if_icmp .ne 7, 3) := by decide +kernel
theorem dL_runs_193 : decode cL_runs 193 = .ok (.iconst 1, 1) := by decide +kernel
theorem dL_runs_194 : decode cL_runs 194 = .ok (.goto 4, 3) := by decide +kernel
theorem dL_runs_197 : decode cL_runs 197 = .ok (.iconst 0, 1) := by decide +kernel
theorem dL_runs_198 : decode cL_runs 198 = .ok (.ireturn, 1) := by decide +kernel
theorem dL_runs_199 : decode cL_runs 199 = .ok (.iconst 0, 1) := by decide +kernel
theorem dL_runs_200 : decode cL_runs 200 = .ok (.istore 8, 2) := by decide +kernel
theorem dL_runs_202 : decode cL_runs 202 = .ok (.iload 8, 2) := by decide +kernel
theorem dL_runs_204 : decode cL_runs 204 = .ok (.bipush 6, 2) := by decide +kernel
theorem dL_runs_206 : decode cL_runs 206 = .ok (.if_icmp .ge 23, 3) := by decide +kernel
theorem dL_runs_209 : decode cL_runs 209 = .ok (.aload 4, 2) := by decide +kernel
theorem dL_runs_211 : decode cL_runs 211 = .ok (.bipush 6, 2) := by decide +kernel
theorem dL_runs_213 : decode cL_runs 213 = .ok (.aload_n 1, 1) := by decide +kernel
theorem dL_runs_214 : decode cL_runs 214 = .ok (.bipush 12, 2) := by decide +kernel
theorem dL_runs_216 : decode cL_runs 216 = .ok (.iaload, 1) := by decide +kernel
theorem dL_runs_217 : decode cL_runs 217 = .ok (.imul, 1) := by decide +kernel
theorem dL_runs_218 : decode cL_runs 218 = .ok (.iload 8, 2) := by decide +kernel
theorem dL_runs_220 : decode cL_runs 220 = .ok (.iadd, 1) := by decide +kernel
theorem dL_runs_221 : decode cL_runs 221 = .ok (.iconst 0, 1) := by decide +kernel
theorem dL_runs_222 : decode cL_runs 222 = .ok (.iastore, 1) := by decide +kernel
theorem dL_runs_223 : decode cL_runs 223 = .ok (.iinc 8 1, 3) := by decide +kernel
theorem dL_runs_226 : decode cL_runs 226 = .ok (.goto (-24), 3) := by decide +kernel
theorem dL_runs_229 : decode cL_runs 229 = .ok (.aload_n 1, 1) := by decide +kernel
theorem dL_runs_230 : decode cL_runs 230 = .ok (.bipush 12, 2) := by decide +kernel
theorem dL_runs_232 : decode cL_runs 232 = .ok (.dup2, 1) := by decide +kernel
theorem dL_runs_233 : decode cL_runs 233 = .ok (.iaload, 1) := by decide +kernel
theorem dL_runs_234 : decode cL_runs 234 = .ok (.iconst 1, 1) := by decide +kernel
theorem dL_runs_235 : decode cL_runs 235 = .ok (.iadd, 1) := by decide +kernel
theorem dL_runs_236 : decode cL_runs 236 = .ok (.iastore, 1) := by decide +kernel
theorem dL_runs_237 : decode cL_runs 237 = .ok (.aload_n 0, 1) := by decide +kernel
theorem dL_runs_238 : decode cL_runs 238 = .ok (.invokevirtual 32, 3) := by decide +kernel
theorem dL_runs_241 : decode cL_runs 241 = .ok (.aload_n 1, 1) := by decide +kernel
theorem dL_runs_242 : decode cL_runs 242 = .ok (.bipush 12, 2) := by decide +kernel
theorem dL_runs_244 : decode cL_runs 244 = .ok (.iaload, 1) := by decide +kernel
theorem dL_runs_245 : decode cL_runs 245 = .ok (.iconst 1, 1) := by decide +kernel
theorem dL_runs_246 : decode cL_runs 246 = .ok (.isub, 1) := by decide +kernel
theorem dL_runs_247 : decode cL_runs 247 = .ok (.if_icmp .ne 7, 3) := by decide +kernel
theorem dL_runs_250 : decode cL_runs 250 = .ok (.iconst 1, 1) := by decide +kernel
theorem dL_runs_251 : decode cL_runs 251 = .ok (.goto 4, 3) := by decide +kernel
theorem dL_runs_254 : decode cL_runs 254 = .ok (.iconst 0, 1) := by decide +kernel
theorem dL_runs_255 : decode cL_runs 255 = .ok (.ireturn, 1) := by decide +kernel
theorem dL_runs_256 : decode cL_runs 256 = .ok (.iconst 1, 1) := by decide +kernel
theorem dL_runs_257 : decode cL_runs 257 = .ok (.iload 7, 2) := by decide +kernel
theorem dL_runs_259 : decode cL_runs 259 = .ok (.iload 7, 2) := by decide +kernel
theorem dL_runs_261 : decode cL_runs 261 = .ok (.iconst 4, 1) := by decide +kernel
theorem dL_runs_262 : decode cL_runs 262 = .ok (.irem, 1) := by decide +kernel
theorem dL_runs_263 : decode cL_runs 263 = .ok (.ifCond .ne 9, 3) := by decide +kernel
theorem dL_runs_266 : decode cL_runs 266 = .ok (.sipush 9999, 3) := by decide +kernel
theorem dL_runs_269 : decode cL_runs 269 = .ok (.goto 6, 3) := by decide +kernel
theorem dL_runs_272 : decode cL_runs 272 = .ok (.sipush 700, 3) := by decide +kernel
theorem dL_runs_275 : decode cL_runs 275 = .ok (.irem, 1) := by decide +kernel
theorem dL_runs_276 : decode cL_runs 276 = .ok (.iadd, 1) := by decide +kernel
theorem dL_runs_277 : decode cL_runs 277 = .ok (.istore 8, 2) := by decide +kernel
theorem dL_runs_279 : decode cL_runs 279 = .ok (.aload_n 1, 1) := by decide +kernel
theorem dL_runs_280 : decode cL_runs 280 = .ok (.bipush 15, 2) := by decide +kernel
theorem dL_runs_282 : decode cL_runs 282 = .ok (.iaload, 1) := by decide +kernel
theorem dL_runs_283 : decode cL_runs 283 = .ok (.ifCond .gt 10, 3) := by decide +kernel
theorem dL_runs_286 : decode cL_runs 286 = .ok (.aload_n 1, 1) := by decide +kernel
theorem dL_runs_287 : decode cL_runs 287 = .ok (.bipush 12, 2) := by decide +kernel
theorem dL_runs_289 : decode cL_runs 289 = .ok (.iaload, 1) := by decide +kernel
theorem dL_runs_290 : decode cL_runs 290 = .ok (.ifCond .ne 20, 3) := by decide +kernel
theorem dL_runs_293 : decode cL_runs 293 = .ok (.aload_n 0, 1) := by decide +kernel
theorem dL_runs_294 : decode cL_runs 294 = .ok (.iload 8, 2) := by decide +kernel
theorem dL_runs_296 : decode cL_runs 296 = .ok (.invokevirtual 37, 3) := by decide +kernel
theorem dL_runs_299 : decode cL_runs 299 = .ok (.ldc 31, 2) := by decide +kernel
theorem dL_runs_301 : decode cL_runs 301 = .ok (.if_icmp .ne 7, 3) := by decide +kernel
theorem dL_runs_304 : decode cL_runs 304 = .ok (.iconst 1, 1) := by decide +kernel
theorem dL_runs_305 : decode cL_runs 305 = .ok (.goto 4, 3) := by decide +kernel
theorem dL_runs_308 : decode cL_runs 308 = .ok (.iconst 0, 1) := by decide +kernel
theorem dL_runs_309 : decode cL_runs 309 = .ok (.ireturn, 1) := by decide +kernel
theorem dL_runs_310 : decode cL_runs 310 = .ok (.aload_n 1, 1) := by decide +kernel
theorem dL_runs_311 : decode cL_runs 311 = .ok (.bipush 15, 2) := by decide +kernel
theorem dL_runs_313 : decode cL_runs 313 = .ok (.iload 8, 2) := by decide +kernel
theorem dL_runs_315 : decode cL_runs 315 = .ok (.iastore, 1) := by decide +kernel
theorem dL_runs_316 : decode cL_runs 316 = .ok (.aload_n 1, 1) := by decide +kernel
theorem dL_runs_317 : decode cL_runs 317 = .ok (.bipush 16, 2) := by decide +kernel
theorem dL_runs_319 : decode cL_runs 319 = .ok (.iconst 0, 1) := by decide +kernel
theorem dL_runs_320 : decode cL_runs 320 = .ok (.iastore, 1) := by decide +kernel
theorem dL_runs_321 : decode cL_runs 321 = .ok (.aload_n 1, 1) := by decide +kernel
theorem dL_runs_322 : decode cL_runs 322 = .ok (.bipush 17, 2) := by decide +kernel
theorem dL_runs_324 : decode cL_runs 324 = .ok (.iconst 0, 1) := by decide +kernel
theorem dL_runs_325 : decode cL_runs 325 = .ok (.iastore, 1) := by decide +kernel
theorem dL_runs_326 : decode cL_runs 326 = .ok (.aload_n 1, 1) := by decide +kernel
theorem dL_runs_327 : decode cL_runs 327 = .ok (.iconst 1, 1) := by decide +kernel
theorem dL_runs_328 : decode cL_runs 328 = .ok (.iconst 0, 1) := by decide +kernel
theorem dL_runs_329 : decode cL_runs 329 = .ok (.iastore, 1) := by decide +kernel
theorem dL_runs_330 : decode cL_runs 330 = .ok (.aload_n 0, 1) := by decide +kernel
theorem dL_runs_331 : decode cL_runs 331 = .ok (.iload 8, 2) := by decide +kernel
theorem dL_runs_333 : decode cL_runs 333 = .ok (.invokevirtual 37, 3) := by decide +kernel
theorem dL_runs_336 : decode cL_runs 336 = .ok (.aload_n 2, 1) := by decide +kernel
theorem dL_runs_337 : decode cL_runs 337 = .ok (.iconst 0, 1) := by decide +kernel
theorem dL_runs_338 : decode cL_runs 338 = .ok (.bipush 11, 2) := by decide +kernel
theorem dL_runs_340 : decode cL_runs 340 = .ok (.invokestatic 9, 3) := by decide +kernel
theorem dL_runs_343 : decode cL_runs 343 = .ok (.if_icmp .ne 7, 3) := by decide +kernel
theorem dL_runs_346 : decode cL_runs 346 = .ok (.iconst 1, 1) := by decide +kernel
theorem dL_runs_347 : decode cL_runs 347 = .ok (.goto 4, 3) := by decide +kernel
theorem dL_runs_350 : decode cL_runs 350 = .ok (.iconst 0, 1) := by decide +kernel
theorem dL_runs_351 : decode cL_runs 351 = .ok (.ireturn, 1) := by decide +kernel
theorem dL_acts_0 : decode cL_acts 0 = .ok (.iload 6, 2) := by decide +kernel
theorem dL_acts_2 : decode cL_acts 2 = .ok (.iconst 5, 1) := by decide +kernel
theorem dL_acts_3 : decode cL_acts 3 = .ok (.ishr, 1) := by decide +kernel
theorem dL_acts_4 : decode cL_acts 4 = .ok (.ldc 40, 2) := by decide +kernel
theorem dL_acts_6 : decode cL_acts 6 = .ok (.invokestatic 41, 3) := by decide +kernel
theorem dL_acts_9 : decode cL_acts 9 = .ok (.istore 7, 2) := by decide +kernel
theorem dL_acts_11 : decode cL_acts 11 = .ok (.iload 6, 2) := by decide +kernel
theorem dL_acts_13 : decode cL_acts 13 = .ok (.bipush 26, 2) := by decide +kernel
theorem dL_acts_15 : decode cL_acts 15 = .ok (.invokestatic 41, 3) := by decide +kernel
theorem dL_acts_18 : decode cL_acts 18 = .ok (.istore 8, 2) := by decide +kernel
theorem dL_acts_20 : decode cL_acts 20 = .ok (.iload 8, 2) := by decide +kernel
theorem dL_acts_22 : decode cL_acts 22 = .ok (.bipush 14, 2) := by decide +kernel
theorem dL_acts_24 : decode cL_acts 24 = .ok (.if_icmp .ge 62, 3) := by decide +kernel
theorem dL_acts_27 : decode cL_acts 27 = .ok (.aload_n 0, 1) := by decide +kernel
theorem dL_acts_28 : decode cL_acts 28 = .ok (.aload_n 1, 1) := by decide +kernel
theorem dL_acts_29 : decode cL_acts 29 = .ok (.aload_n 2, 1) := by decide +kernel
theorem dL_acts_30 : decode cL_acts 30 = .ok (.aload_n 3, 1) := by decide +kernel
theorem dL_acts_31 : decode cL_acts 31 = .ok (.aload 4, 2) := by decide +kernel
theorem dL_acts_33 : decode cL_acts 33 = .ok (.aload 5, 2) := by decide +kernel
theorem dL_acts_35 : decode cL_acts 35 = .ok (.iload 8, 2) := by decide +kernel
theorem dL_acts_37 : decode cL_acts 37 = .ok (.bipush 8, 2) := by decide +kernel
theorem dL_acts_39 : decode cL_acts 39 = .ok (.if_icmp .ge 7, 3) := by decide +kernel
theorem dL_acts_42 : decode cL_acts 42 = .ok (.iconst 0, 1) := by decide +kernel
theorem dL_acts_43 : decode cL_acts 43 = .ok (.goto 37, 3) := by decide +kernel
theorem dL_acts_46 : decode cL_acts 46 = .ok (.iload 8, 2) := by decide +kernel
theorem dL_acts_48 : decode cL_acts 48 = .ok (.bipush 10, 2) := by decide +kernel
theorem dL_acts_50 : decode cL_acts 50 = .ok (.if_icmp .ge 7, 3) := by decide +kernel
theorem dL_acts_53 : decode cL_acts 53 = .ok (.iconst 1, 1) := by decide +kernel
theorem dL_acts_54 : decode cL_acts 54 = .ok (.goto 26, 3) := by decide +kernel
theorem dL_acts_57 : decode cL_acts 57 = .ok (.iload 8, 2) := by decide +kernel
theorem dL_acts_59 : decode cL_acts 59 = .ok (.bipush 10, 2) := by decide +kernel
theorem dL_acts_61 : decode cL_acts 61 = .ok (.if_icmp .ne 7, 3) := by decide +kernel
theorem dL_acts_64 : decode cL_acts 64 = .ok (.iconst 2, 1) := by decide +kernel
theorem dL_acts_65 : decode cL_acts 65 = .ok (.goto 15, 3) := by decide +kernel
theorem dL_acts_68 : decode cL_acts 68 = .ok (.iload 8, 2) := by decide +kernel
theorem dL_acts_70 : decode cL_acts 70 = .ok (.bipush 14, 2) := by decide +kernel
theorem dL_acts_72 : decode cL_acts 72 = .ok (.if_icmp .ge 7, 3) := by decide +kernel
theorem dL_acts_75 : decode cL_acts 75 = .ok (.iconst 3, 1) := by decide +kernel
theorem dL_acts_76 : decode cL_acts 76 = .ok (.goto 4, 3) := by decide +kernel
theorem dL_acts_79 : decode cL_acts 79 = .ok (.iconst 0, 1) := by decide +kernel
theorem dL_acts_80 : decode cL_acts 80 = .ok (.iload 7, 2) := by decide +kernel
theorem dL_acts_82 : decode cL_acts 82 = .ok (.invokestatic 45, 3) := by decide +kernel
theorem dL_acts_85 : decode cL_acts 85 = .ok (.ireturn, 1) := by decide +kernel
theorem dL_acts_86 : decode cL_acts 86 = .ok (.iload 8, 2) := by decide +kernel
theorem dL_acts_88 : decode cL_acts 88 = .ok (.bipush 18, 2) := by decide +kernel
theorem dL_acts_90 : decode cL_acts 90 = .ok (.if_icmp .ge 122, 3) := by decide +kernel
theorem dL_acts_93 : decode cL_acts 93 = .ok (.iload 7, 2) := by decide +kernel
theorem dL_acts_95 : decode cL_acts 95 = .ok (.iconst 4, 1) := by decide +kernel
theorem dL_acts_96 : decode cL_acts 96 = .ok (.irem, 1) := by decide +kernel
theorem dL_acts_97 : decode cL_acts 97 = .ok (.istore 9, 2) := by decide +kernel
theorem dL_acts_99 : decode cL_acts 99 = .ok (.iconst 1, 1) := by decide +kernel
theorem dL_acts_100 : decode cL_acts 100 = .ok (.iload 7, 2) := by decide +kernel
theorem dL_acts_102 : decode cL_acts 102 = .ok (.iconst 4, 1) := by decide +kernel
theorem dL_acts_103 : decode cL_acts 103 = .ok (.idiv, 1) := by decide +kernel
theorem dL_acts_104 : decode cL_acts 104 = .ok (.iload 7, 2) := by decide +kernel
theorem dL_acts_106 : decode cL_acts 106 = .ok (.iconst 5, 1) := by decide +kernel
theorem dL_acts_107 : decode cL_acts 107 = .ok (.irem, 1) := by decide +kernel
theorem dL_acts_108 : decode cL_acts 108 = .ok (.ifCond .ne 9, 3) := by decide +kernel
theorem dL_acts_111 : decode cL_acts 111 = .ok (.sipush 9999, 3) := by decide +kernel
theorem dL_acts_114 : decode cL_acts 114 = .ok (.goto 6, 3) := by decide +kernel
theorem dL_acts_117 : decode cL_acts 117 = .ok (.sipush 400, 3) := by decide +kernel
theorem dL_acts_120 : decode cL_acts 120 = .ok (.irem, 1) := by decide +kernel
theorem dL_acts_121 : decode cL_acts 121 = .ok (.iadd, 1) := by decide +kernel
theorem dL_acts_122 : decode cL_acts 122 = .ok (.istore 10, 2) := by decide +kernel
theorem dL_acts_124 : decode cL_acts 124 = .ok (.aload_n 1, 1) := by decide +kernel
theorem dL_acts_125 : decode cL_acts 125 = .ok (.bipush 13, 2) := by decide +kernel
theorem dL_acts_127 : decode cL_acts 127 = .ok (.iaload, 1) := by decide +kernel
theorem dL_acts_128 : decode cL_acts 128 = .ok (.bipush 6, 2) := by decide +kernel
theorem dL_acts_130 : decode cL_acts 130 = .ok (.if_icmp .ne 22, 3) := by decide +kernel
theorem dL_acts_133 : decode cL_acts 133 = .ok (.aload_n 0, 1) := by decide +kernel
theorem dL_acts_134 : decode cL_acts 134 = .ok (.iload 9, 2) := by decide +kernel
theorem dL_acts_136 : decode cL_acts 136 = .ok (.iload 10, 2) := by decide +kernel
theorem dL_acts_138 : decode cL_acts 138 = .ok (.invokevirtual 49, 3) := by decide +kernel
theorem dL_acts_141 : decode cL_acts 141 = .ok (.ldc 36, 2) := by decide +kernel
theorem dL_acts_143 : decode cL_acts 143 = .ok (.if_icmp .ne 7, 3) := by decide +kernel
theorem dL_acts_146 : decode cL_acts 146 = .ok (.iconst 1, 1) := by decide +kernel
theorem dL_acts_147 : decode cL_acts 147 = .ok (.goto 4, 3) := by decide +kernel
theorem dL_acts_150 : decode cL_acts 150 = .ok (.iconst 0, 1) := by decide +kernel
theorem dL_acts_151 : decode cL_acts 151 = .ok (.ireturn, 1) := by decide +kernel
theorem dL_acts_152 : decode cL_acts 152 = .ok (.aload_n 3, 1) := by decide +kernel
theorem dL_acts_153 : decode cL_acts 153 = .ok (.iconst 2, 1) := by decide +kernel
theorem dL_acts_154 : decode cL_acts 154 = .ok (.aload_n 1, 1) := by decide +kernel
theorem dL_acts_155 : decode cL_acts 155 = .ok (.bipush 13, 2) := by decide +kernel
theorem dL_acts_157 : decode cL_acts 157 = .ok (.iaload, 1) := by decide +kernel
theorem dL_acts_158 : decode cL_acts 158 = .ok (.imul, 1) := by decide +kernel
theorem dL_acts_159 : decode cL_acts 159 = .ok (.iload 9, 2) := by decide +kernel
theorem dL_acts_161 : decode cL_acts 161 = .ok (.iastore, 1) := by decide +kernel
theorem dL_acts_162 : decode cL_acts 162 = .ok (.aload_n 3, 1) := by decide +kernel
theorem dL_acts_163 : decode cL_acts 163 = .ok (.iconst 2, 1) := by decide +kernel
theorem dL_acts_164 : decode cL_acts 164 = .ok (.aload_n 1, 1) := by decide +kernel
theorem dL_acts_165 : decode cL_acts 165 = .ok (.bipush 13, 2) := by decide +kernel
theorem dL_acts_167 : decode cL_acts 167 = .ok (.iaload, 1) := by decide +kernel
theorem dL_acts_168 : decode cL_acts 168 = .ok (.imul, 1) := by decide +kernel
theorem dL_acts_169 : decode cL_acts 169 = .ok (.iconst 1, 1) := by decide +kernel
theorem dL_acts_170 : decode cL_acts 170 = .ok (.iadd, 1) := by decide +kernel
theorem dL_acts_171 : decode cL_acts 171 = .ok (.iload 10, 2) := by decide +kernel
theorem dL_acts_173 : decode cL_acts 173 = .ok (.iastore, 1) := by decide +kernel
theorem dL_acts_174 : decode cL_acts 174 = .ok (.aload_n 1, 1) := by decide +kernel
theorem dL_acts_175 : decode cL_acts 175 = .ok (.bipush 13, 2) := by decide +kernel
theorem dL_acts_177 : decode cL_acts 177 = .ok (.dup2, 1) := by decide +kernel
theorem dL_acts_178 : decode cL_acts 178 = .ok (.iaload, 1) := by decide +kernel
theorem dL_acts_179 : decode cL_acts 179 = .ok (.iconst 1, 1) := by decide +kernel
theorem dL_acts_180 : decode cL_acts 180 = .ok (.iadd, 1) := by decide +kernel
theorem dL_acts_181 : decode cL_acts 181 = .ok (.iastore, 1) := by decide +kernel
theorem dL_acts_182 : decode cL_acts 182 = .ok (.aload_n 1, 1) := by decide +kernel
theorem dL_acts_183 : decode cL_acts 183 = .ok (.bipush 9, 2) := by decide +kernel
theorem dL_acts_185 : decode cL_acts 185 = .ok (.dup2, 1) := by decide +kernel
theorem dL_acts_186 : decode cL_acts 186 = .ok (.iaload, 1) := by decide +kernel
theorem dL_acts_187 : decode cL_acts 187 = .ok (.iload 10, 2) := by decide +kernel
theorem dL_acts_189 : decode cL_acts 189 = .ok (.iadd, 1) := by decide +kernel
theorem dL_acts_190 : decode cL_acts 190 = .ok (.iastore, 1) := by decide +kernel
theorem dL_acts_191 : decode cL_acts 191 = .ok (.aload_n 0, 1) := by decide +kernel
theorem dL_acts_192 : decode cL_acts 192 = .ok (.iload 9, 2) := by decide +kernel
theorem dL_acts_194 : decode cL_acts 194 = .ok (.iload 10, 2) := by decide +kernel
theorem dL_acts_196 : decode cL_acts 196 = .ok (.invokevirtual 49, 3) := by decide +kernel
theorem dL_acts_199 : decode cL_acts 199 = .ok (.aload_n 1, 1) := by decide +kernel
theorem dL_acts_200 : decode cL_acts 200 = .ok (.bipush 13, 2) := by decide +kernel
theorem dL_acts_202 : decode cL_acts 202 = .ok (.iaload, 1) := by decide +kernel
theorem dL_acts_203 : decode cL_acts 203 = .ok (.if_icmp .ne 7, 3) := by decide +kernel
theorem dL_acts_206 : decode cL_acts 206 = .ok (.iconst 1, 1) := by decide +kernel
theorem dL_acts_207 : decode cL_acts 207 = .ok (.goto 4, 3) := by decide +kernel
theorem dL_acts_210 : decode cL_acts 210 = .ok (.iconst 0, 1) := by decide +kernel
theorem dL_acts_211 : decode cL_acts 211 = .ok (.ireturn, 1) := by decide +kernel
theorem dL_acts_212 : decode cL_acts 212 = .ok (.iload 8, 2) := by decide +kernel
theorem dL_acts_214 : decode cL_acts 214 = .ok (.bipush 18, 2) := by decide +kernel
theorem dL_acts_216 : decode cL_acts 216 = .ok (.if_icmp .ne 35, 3) := by decide +kernel
theorem dL_acts_219 : decode cL_acts 219 = .ok (.aload_n 1, 1) := by decide +kernel
theorem dL_acts_220 : decode cL_acts 220 = .ok (.iconst 0, 1) := by decide +kernel
theorem dL_acts_221 : decode cL_acts 221 = .ok (.iaload, 1) := by decide +kernel
theorem dL_acts_222 : decode cL_acts 222 = .ok (.istore 9, 2) := by decide +kernel
theorem dL_acts_224 : decode cL_acts 224 = .ok (.aload_n 1, 1) := by decide +kernel
theorem dL_acts_225 : decode cL_acts 225 = .ok (.iconst 0, 1) := by decide +kernel
theorem dL_acts_226 : decode cL_acts 226 = .ok (.iload 7, 2) := by decide +kernel
theorem dL_acts_228 : decode cL_acts 228 = .ok (.sipush 201, 3) := by decide +kernel
theorem dL_acts_231 : decode cL_acts 231 = .ok (.irem, 1) := by decide +kernel
theorem dL_acts_232 : decode cL_acts 232 = .ok (.iastore, 1) := by decide +kernel
theorem dL_acts_233 : decode cL_acts 233 = .ok (.aload_n 0, 1) := by decide +kernel
theorem dL_acts_234 : decode cL_acts 234 = .ok (.aload_n 1, 1) := by decide +kernel
theorem dL_acts_235 : decode cL_acts 235 = .ok (.iconst 0, 1) := by decide +kernel
theorem dL_acts_236 : decode cL_acts 236 = .ok (.iaload, 1) := by decide +kernel
theorem dL_acts_237 : decode cL_acts 237 = .ok (.invokevirtual 52, 3) := by decide +kernel
theorem dL_acts_240 : decode cL_acts 240 = .ok (.iload 9, 2) := by decide +kernel
theorem dL_acts_242 : decode cL_acts 242 = .ok (.if_icmp .ne 7, 3) := by decide +kernel
theorem dL_acts_245 : decode cL_acts 245 = .ok (.iconst 1, 1) := by decide +kernel
theorem dL_acts_246 : decode cL_acts 246 = .ok (.goto 4, 3) := by decide +kernel
theorem dL_acts_249 : decode cL_acts 249 = .ok (.iconst 0, 1) := by decide +kernel
theorem dL_acts_250 : decode cL_acts 250 = .ok (.ireturn, 1) := by decide +kernel
theorem dL_acts_251 : decode cL_acts 251 = .ok (.iload 8, 2) := by decide +kernel
theorem dL_acts_253 : decode cL_acts 253 = .ok (.bipush 21, 2) := by decide +kernel
theorem dL_acts_255 : decode cL_acts 255 = .ok (.if_icmp .ge 73, 3) := by decide +kernel
theorem dL_acts_258 : decode cL_acts 258 = .ok (.aload_n 1, 1) := by decide +kernel
theorem dL_acts_259 : decode cL_acts 259 = .ok (.bipush 8, 2) := by decide +kernel
theorem dL_acts_261 : decode cL_acts 261 = .ok (.iaload, 1) := by decide +kernel
theorem dL_acts_262 : decode cL_acts 262 = .ok (.iconst 4, 1) := by decide +kernel
theorem dL_acts_263 : decode cL_acts 263 = .ok (.if_icmp .ge 28, 3) := by decide +kernel
theorem dL_acts_266 : decode cL_acts 266 = .ok (.aload_n 2, 1) := by decide +kernel
theorem dL_acts_267 : decode cL_acts 267 = .ok (.iconst 4, 1) := by decide +kernel
theorem dL_acts_268 : decode cL_acts 268 = .ok (.bipush 7, 2) := by decide +kernel
theorem dL_acts_270 : decode cL_acts 270 = .ok (.invokestatic 9, 3) := by decide +kernel
theorem dL_acts_273 : decode cL_acts 273 = .ok (.ifCond .le 18, 3) := by decide +kernel
theorem dL_acts_276 : decode cL_acts 276 = .ok (.aload_n 0, 1) := by decide +kernel
theorem dL_acts_277 : decode cL_acts 277 = .ok (.invokevirtual 55, 3) := by decide +kernel
theorem dL_acts_280 : decode cL_acts 280 = .ok (.ldc 31, 2) := by decide +kernel
theorem dL_acts_282 : decode cL_acts 282 = .ok (.if_icmp .ne 7, 3) := by decide +kernel
theorem dL_acts_285 : decode cL_acts 285 = .ok (.iconst 1, 1) := by decide +kernel
theorem dL_acts_286 : decode cL_acts 286 = .ok (.goto 4, 3) := by decide +kernel
theorem dL_acts_289 : decode cL_acts 289 = .ok (.iconst 0, 1) := by decide +kernel
theorem dL_acts_290 : decode cL_acts 290 = .ok (.ireturn, 1) := by decide +kernel
theorem dL_acts_291 : decode cL_acts 291 = .ok (.aload_n 1, 1) := by decide +kernel
theorem dL_acts_292 : decode cL_acts 292 = .ok (.iconst 4, 1) := by decide +kernel
theorem dL_acts_293 : decode cL_acts 293 = .ok (.iaload, 1) := by decide +kernel
theorem dL_acts_294 : decode cL_acts 294 = .ok (.istore 9, 2) := by decide +kernel
theorem dL_acts_296 : decode cL_acts 296 = .ok (.aload_n 1, 1) := by decide +kernel
theorem dL_acts_297 : decode cL_acts 297 = .ok (.iconst 4, 1) := by decide +kernel
theorem dL_acts_298 : decode cL_acts 298 = .ok (.aload_n 2, 1) := by decide +kernel
theorem dL_acts_299 : decode cL_acts 299 = .ok (.iconst 4, 1) := by decide +kernel
theorem dL_acts_300 : decode cL_acts 300 = .ok (.bipush 7, 2) := by decide +kernel
theorem dL_acts_302 : decode cL_acts 302 = .ok (.invokestatic 9, 3) := by decide +kernel
theorem dL_acts_305 : decode cL_acts 305 = .ok (.aload_n 1, 1) := by decide +kernel
theorem dL_acts_306 : decode cL_acts 306 = .ok (.iconst 3, 1) := by decide +kernel
theorem dL_acts_307 : decode cL_acts 307 = .ok (.iaload, 1) := by decide +kernel
theorem dL_acts_308 : decode cL_acts 308 = .ok (.iadd, 1) := by decide +kernel
theorem dL_acts_309 : decode cL_acts 309 = .ok (.iastore, 1) := by decide +kernel
theorem dL_acts_310 : decode cL_acts 310 = .ok (.aload_n 0, 1) := by decide +kernel
theorem dL_acts_311 : decode cL_acts 311 = .ok (.invokevirtual 55, 3) := by decide +kernel
theorem dL_acts_314 : decode cL_acts 314 = .ok (.iload 9, 2) := by decide +kernel
theorem dL_acts_316 : decode cL_acts 316 = .ok (.ldc 58, 2) := by decide +kernel
theorem dL_acts_318 : decode cL_acts 318 = .ok (.iadd, 1) := by decide +kernel
theorem dL_acts_319 : decode cL_acts 319 = .ok (.if_icmp .ne 7, 3) := by decide +kernel
theorem dL_acts_322 : decode cL_acts 322 = .ok (.iconst 1, 1) := by decide +kernel
theorem dL_acts_323 : decode cL_acts 323 = .ok (.goto 4, 3) := by decide +kernel
theorem dL_acts_326 : decode cL_acts 326 = .ok (.iconst 0, 1) := by decide +kernel
theorem dL_acts_327 : decode cL_acts 327 = .ok (.ireturn, 1) := by decide +kernel
theorem dL_acts_328 : decode cL_acts 328 = .ok (.iload 8, 2) := by decide +kernel
theorem dL_acts_330 : decode cL_acts 330 = .ok (.bipush 21, 2) := by decide +kernel
theorem dL_acts_332 : decode cL_acts 332 = .ok (.if_icmp .ne 186, 3) := by decide +kernel
theorem dL_acts_335 : decode cL_acts 335 = .ok (.aload_n 1, 1) := by decide +kernel
theorem dL_acts_336 : decode cL_acts 336 = .ok (.bipush 12, 2) := by decide +kernel
theorem dL_acts_338 : decode cL_acts 338 = .ok (.iaload, 1) := by decide +kernel
theorem dL_acts_339 : decode cL_acts 339 = .ok (.ifCond .ne 7, 3) := by decide +kernel
theorem dL_acts_342 : decode cL_acts 342 = .ok (.iconst 0, 1) := by decide +kernel
theorem dL_acts_343 : decode cL_acts 343 = .ok (.goto 10, 3) := by decide +kernel
theorem dL_acts_346 : decode cL_acts 346 = .ok (.iload 7, 2) := by decide +kernel
theorem dL_acts_348 : decode cL_acts 348 = .ok (.aload_n 1, 1) := by decide +kernel
theorem dL_acts_349 : decode cL_acts 349 = .ok (.bipush 12, 2) := by decide +kernel
theorem dL_acts_351 : decode cL_acts 351 = .ok (.iaload, 1) := by decide +kernel
theorem dL_acts_352 : decode cL_acts 352 = .ok (.irem, 1) := by decide +kernel
theorem dL_acts_353 : decode cL_acts 353 = .ok (.istore 9, 2) := by decide +kernel
theorem dL_acts_355 : decode cL_acts 355 = .ok (.aload_n 1, 1) := by decide +kernel
theorem dL_acts_356 : decode cL_acts 356 = .ok (.bipush 12, 2) := by decide +kernel
theorem dL_acts_358 : decode cL_acts 358 = .ok (.iaload, 1) := by decide +kernel
theorem dL_acts_359 : decode cL_acts 359 = .ok (.ifCond .ne 19, 3) := by decide +kernel
theorem dL_acts_362 : decode cL_acts 362 = .ok (.aload_n 0, 1) := by decide +kernel
theorem dL_acts_363 : decode cL_acts 363 = .ok (.iconst 0, 1) := by decide +kernel
theorem dL_acts_364 : decode cL_acts 364 = .ok (.invokevirtual 59, 3) := by decide +kernel
theorem dL_acts_367 : decode cL_acts 367 = .ok (.ldc 62, 2) := by decide +kernel
theorem dL_acts_369 : decode cL_acts 369 = .ok (.if_icmp .ne 7, 3) := by decide +kernel
theorem dL_acts_372 : decode cL_acts 372 = .ok (.iconst 1, 1) := by decide +kernel
theorem dL_acts_373 : decode cL_acts 373 = .ok (.goto 4, 3) := by decide +kernel
theorem dL_acts_376 : decode cL_acts 376 = .ok (.iconst 0, 1) := by decide +kernel
theorem dL_acts_377 : decode cL_acts 377 = .ok (.ireturn, 1) := by decide +kernel
theorem dL_acts_378 : decode cL_acts 378 = .ok (.aload 4, 2) := by decide +kernel
theorem dL_acts_380 : decode cL_acts 380 = .ok (.bipush 6, 2) := by decide +kernel
theorem dL_acts_382 : decode cL_acts 382 = .ok (.iload 9, 2) := by decide +kernel
theorem dL_acts_384 : decode cL_acts 384 = .ok (.imul, 1) := by decide +kernel
theorem dL_acts_385 : decode cL_acts 385 = .ok (.iconst 4, 1) := by decide +kernel
theorem dL_acts_386 : decode cL_acts 386 = .ok (.iadd, 1) := by decide +kernel
theorem dL_acts_387 : decode cL_acts 387 = .ok (.iaload, 1) := by decide +kernel
theorem dL_acts_388 : decode cL_acts 388 = .ok (.istore 10, 2) := by decide +kernel
theorem dL_acts_390 : decode cL_acts 390 = .ok (.aload 4, 2) := by decide +kernel
theorem dL_acts_392 : decode cL_acts 392 = .ok (.bipush 6, 2) := by decide +kernel
theorem dL_acts_394 : decode cL_acts 394 = .ok (.iload 9, 2) := by decide +kernel
theorem dL_acts_396 : decode cL_acts 396 = .ok (.imul, 1) := by decide +kernel
theorem dL_acts_397 : decode cL_acts 397 = .ok (.iaload, 1) := by decide +kernel
theorem dL_acts_398 : decode cL_acts 398 = .ok (.aload 4, 2) := by decide +kernel
theorem dL_acts_400 : decode cL_acts 400 = .ok (.bipush 6, 2) := by decide +kernel
theorem dL_acts_402 : decode cL_acts 402 = .ok (.iload 9, 2) := by decide +kernel
theorem dL_acts_404 : decode cL_acts 404 = .ok (.imul, 1) := by decide +kernel
theorem dL_acts_405 : decode cL_acts 405 = .ok (.iconst 1, 1) := by decide +kernel
theorem dL_acts_406 : decode cL_acts 406 = .ok (.iadd, 1) := by decide +kernel
theorem dL_acts_407 : decode cL_acts 407 = .ok (.iaload, 1) := by decide +kernel
theorem dL_acts_408 : decode cL_acts 408 = .ok (.iadd, 1) := by decide +kernel
theorem dL_acts_409 : decode cL_acts 409 = .ok (.aload 4, 2) := by decide +kernel
theorem dL_acts_411 : decode cL_acts 411 = .ok (.bipush 6, 2) := by decide +kernel
theorem dL_acts_413 : decode cL_acts 413 = .ok (.iload 9, 2) := by decide +kernel
theorem dL_acts_415 : decode cL_acts 415 = .ok (.imul, 1) := by decide +kernel
theorem dL_acts_416 : decode cL_acts 416 = .ok (.iconst 2, 1) := by decide +kernel
theorem dL_acts_417 : decode cL_acts 417 = .ok (.iadd, 1) := by decide +kernel
theorem dL_acts_418 : decode cL_acts 418 = .ok (.iaload, 1) := by decide +kernel
theorem dL_acts_419 : decode cL_acts 419 = .ok (.iadd, 1) := by decide +kernel
theorem dL_acts_420 : decode cL_acts 420 = .ok (.aload 4, 2) := by decide +kernel
theorem dL_acts_422 : decode cL_acts 422 = .ok (.bipush 6, 2) := by decide +kernel
theorem dL_acts_424 : decode cL_acts 424 = .ok (.iload 9, 2) := by decide +kernel
theorem dL_acts_426 : decode cL_acts 426 = .ok (.imul, 1) := by decide +kernel
theorem dL_acts_427 : decode cL_acts 427 = .ok (.iconst 3, 1) := by decide +kernel
theorem dL_acts_428 : decode cL_acts 428 = .ok (.iadd, 1) := by decide +kernel
theorem dL_acts_429 : decode cL_acts 429 = .ok (.iaload, 1) := by decide +kernel
theorem dL_acts_430 : decode cL_acts 430 = .ok (.iadd, 1) := by decide +kernel
theorem dL_acts_431 : decode cL_acts 431 = .ok (.istore 11, 2) := by decide +kernel
theorem dL_acts_433 : decode cL_acts 433 = .ok (.iload 10, 2) := by decide +kernel
theorem dL_acts_435 : decode cL_acts 435 = .ok (.ifCond .le 17, 3) := by decide +kernel
theorem dL_acts_438 : decode cL_acts 438 = .ok (.ldc2_w 63, 3) := by decide +kernel
theorem dL_acts_441 : decode cL_acts 441 = .ok (.iload 11, 2) := by decide +kernel
theorem dL_acts_443 : decode cL_acts 443 = .ok (.i2l, 1) := by decide +kernel
theorem dL_acts_444 : decode cL_acts 444 = .ok (.lmul, 1) := by decide +kernel
theorem dL_acts_445 : decode cL_acts 445 = .ok (.iload 10, 2) := by decide +kernel
theorem dL_acts_447 : decode cL_acts 447 = .ok (.i2l, 1) := by decide +kernel
theorem dL_acts_448 : decode cL_acts 448 = .ok (.ldiv, 1) := by decide +kernel
theorem dL_acts_449 : decode cL_acts 449 = .ok (.goto 6, 3) := by decide +kernel
theorem dL_acts_452 : decode cL_acts 452 = .ok (.ldc2_w 65, 3) := by decide +kernel
theorem dL_acts_455 : decode cL_acts 455 = .ok (.lstore 12, 2) := by decide +kernel
theorem dL_acts_457 : decode cL_acts 457 = .ok (.lload 12, 2) := by decide +kernel
theorem dL_acts_459 : decode cL_acts 459 = .ok (.ldc2_w 67, 3) := by decide +kernel
theorem dL_acts_462 : decode cL_acts 462 = .ok (.lcmp, 1) := by decide +kernel
theorem dL_acts_463 : decode cL_acts 463 = .ok (.ifCond .lt 12, 3) := by decide +kernel
theorem dL_acts_466 : decode cL_acts 466 = .ok (.lload 12, 2) := by decide +kernel
theorem dL_acts_468 : decode cL_acts 468 = .ok (.ldc2_w 69, 3) := by decide +kernel
theorem dL_acts_471 : decode cL_acts 471 = .ok (.lcmp, 1) := by decide +kernel
theorem dL_acts_472 : decode cL_acts 472 = .ok (.ifCond .le 20, 3) := by decide +kernel
theorem dL_acts_475 : decode cL_acts 475 = .ok (.aload_n 0, 1) := by decide +kernel
theorem dL_acts_476 : decode cL_acts 476 = .ok (.iload 9, 2) := by decide +kernel
theorem dL_acts_478 : decode cL_acts 478 = .ok (.invokevirtual 59, 3) := by decide +kernel
theorem dL_acts_481 : decode cL_acts 481 = .ok (.ldc 31, 2) := by decide +kernel
theorem dL_acts_483 : decode cL_acts 483 = .ok (.if_icmp .ne 7, 3) := by decide +kernel
theorem dL_acts_486 : decode cL_acts 486 = .ok (.iconst 1, 1) := by decide +kernel
theorem dL_acts_487 : decode cL_acts 487 = .ok (.goto 4, 3) := by decide +kernel
theorem dL_acts_490 : decode cL_acts 490 = .ok (.iconst 0, 1) := by decide +kernel
theorem dL_acts_491 : decode cL_acts 491 = .ok (.ireturn, 1) := by decide +kernel
theorem dL_acts_492 : decode cL_acts 492 = .ok (.aload_n 1, 1) := by decide +kernel
theorem dL_acts_493 : decode cL_acts 493 = .ok (.bipush 7, 2) := by decide +kernel
theorem dL_acts_495 : decode cL_acts 495 = .ok (.lload 12, 2) := by decide +kernel
theorem dL_acts_497 : decode cL_acts 497 = .ok (.l2i, 1) := by decide +kernel
theorem dL_acts_498 : decode cL_acts 498 = .ok (.iastore, 1) := by decide +kernel
theorem dL_acts_499 : decode cL_acts 499 = .ok (.aload_n 0, 1) := by decide +kernel
theorem dL_acts_500 : decode cL_acts 500 = .ok (.iload 9, 2) := by decide +kernel
theorem dL_acts_502 : decode cL_acts 502 = .ok (.invokevirtual 59, 3) := by decide +kernel
theorem dL_acts_505 : decode cL_acts 505 = .ok (.aload_n 1, 1) := by decide +kernel
theorem dL_acts_506 : decode cL_acts 506 = .ok (.bipush 7, 2) := by decide +kernel
theorem dL_acts_508 : decode cL_acts 508 = .ok (.iaload, 1) := by decide +kernel
theorem dL_acts_509 : decode cL_acts 509 = .ok (.if_icmp .ne 7, 3) := by decide +kernel
theorem dL_acts_512 : decode cL_acts 512 = .ok (.iconst 1, 1) := by decide +kernel
theorem dL_acts_513 : decode cL_acts 513 = .ok (.goto 4, 3) := by decide +kernel
theorem dL_acts_516 : decode cL_acts 516 = .ok (.iconst 0, 1) := by decide +kernel
theorem dL_acts_517 : decode cL_acts 517 = .ok (.ireturn, 1) := by decide +kernel
theorem dL_acts_518 : decode cL_acts 518 = .ok (.iload 8, 2) := by decide +kernel
theorem dL_acts_520 : decode cL_acts 520 = .ok (.bipush 22, 2) := by decide +kernel
theorem dL_acts_522 : decode cL_acts 522 = .ok (.if_icmp .ne 90, 3) := by decide +kernel
theorem dL_acts_525 : decode cL_acts 525 = .ok (.iload 7, 2) := by decide +kernel
theorem dL_acts_527 : decode cL_acts 527 = .ok (.aload_n 1, 1) := by decide +kernel
theorem dL_acts_528 : decode cL_acts 528 = .ok (.bipush 14, 2) := by decide +kernel
theorem dL_acts_530 : decode cL_acts 530 = .ok (.iaload, 1) := by decide +kernel
theorem dL_acts_531 : decode cL_acts 531 = .ok (.irem, 1) := by decide +kernel
theorem dL_acts_532 : decode cL_acts 532 = .ok (.istore 9, 2) := by decide +kernel
theorem dL_acts_534 : decode cL_acts 534 = .ok (.aload_n 1, 1) := by decide +kernel
theorem dL_acts_535 : decode cL_acts 535 = .ok (.bipush 14, 2) := by decide +kernel
theorem dL_acts_537 : decode cL_acts 537 = .ok (.iaload, 1) := by decide +kernel
theorem dL_acts_538 : decode cL_acts 538 = .ok (.bipush 8, 2) := by decide +kernel
theorem dL_acts_540 : decode cL_acts 540 = .ok (.if_icmp .ne 20, 3) := by decide +kernel
theorem dL_acts_543 : decode cL_acts 543 = .ok (.aload_n 0, 1) := by decide +kernel
theorem dL_acts_544 : decode cL_acts 544 = .ok (.iload 9, 2) := by decide +kernel
theorem dL_acts_546 : decode cL_acts 546 = .ok (.invokevirtual 71, 3) := by decide +kernel
theorem dL_acts_549 : decode cL_acts 549 = .ok (.ldc 36, 2) := by decide +kernel
theorem dL_acts_551 : decode cL_acts 551 = .ok (.if_icmp .ne 7, 3) := by decide +kernel
theorem dL_acts_554 : decode cL_acts 554 = .ok (.iconst 1, 1) := by decide +kernel
theorem dL_acts_555 : decode cL_acts 555 = .ok (.goto 4, 3) := by decide +kernel
theorem dL_acts_558 : decode cL_acts 558 = .ok (.iconst 0, 1) := by decide +kernel
theorem dL_acts_559 : decode cL_acts 559 = .ok (.ireturn, 1) := by decide +kernel
theorem dL_acts_560 : decode cL_acts 560 = .ok (.aload 5, 2) := by decide +kernel
theorem dL_acts_562 : decode cL_acts 562 = .ok (.iconst 2, 1) := by decide +kernel
theorem dL_acts_563 : decode cL_acts 563 = .ok (.aload_n 1, 1) := by decide +kernel
theorem dL_acts_564 : decode cL_acts 564 = .ok (.bipush 14, 2) := by decide +kernel
theorem dL_acts_566 : decode cL_acts 566 = .ok (.iaload, 1) := by decide +kernel
theorem dL_acts_567 : decode cL_acts 567 = .ok (.imul, 1) := by decide +kernel
theorem dL_acts_568 : decode cL_acts 568 = .ok (.iload 9, 2) := by decide +kernel
theorem dL_acts_570 : decode cL_acts 570 = .ok (.iastore, 1) := by decide +kernel
theorem dL_acts_571 : decode cL_acts 571 = .ok (.aload 5, 2) := by decide +kernel
theorem dL_acts_573 : decode cL_acts 573 = .ok (.iconst 2, 1) := by decide +kernel
theorem dL_acts_574 : decode cL_acts 574 = .ok (.aload_n 1, 1) := by decide +kernel
theorem dL_acts_575 : decode cL_acts 575 = .ok (.bipush 14, 2) := by decide +kernel
theorem dL_acts_577 : decode cL_acts 577 = .ok (.iaload, 1) := by decide +kernel
theorem dL_acts_578 : decode cL_acts 578 = .ok (.imul, 1) := by decide +kernel
theorem dL_acts_579 : decode cL_acts 579 = .ok (.iconst 1, 1) := by decide +kernel
theorem dL_acts_580 : decode cL_acts 580 = .ok (.iadd, 1) := by decide +kernel
theorem dL_acts_581 : decode cL_acts 581 = .ok (.iconst 0, 1) := by decide +kernel
theorem dL_acts_582 : decode cL_acts 582 = .ok (.iastore, 1) := by decide +kernel
theorem dL_acts_583 : decode cL_acts 583 = .ok (.aload_n 1, 1) := by decide +kernel
theorem dL_acts_584 : decode cL_acts 584 = .ok (.bipush 14, 2) := by decide +kernel
theorem dL_acts_586 : decode cL_acts 586 = .ok (.dup2, 1) := by decide +kernel
theorem dL_acts_587 : decode cL_acts 587 = .ok (.iaload, 1) := by decide +kernel
theorem dL_acts_588 : decode cL_acts 588 = .ok (.iconst 1, 1) := by decide +kernel
theorem dL_acts_589 : decode cL_acts 589 = .ok (.iadd, 1) := by decide +kernel
theorem dL_acts_590 : decode cL_acts 590 = .ok (.iastore, 1) := by decide +kernel
theorem dL_acts_591 : decode cL_acts 591 = .ok (.aload_n 0, 1) := by decide +kernel
theorem dL_acts_592 : decode cL_acts 592 = .ok (.iload 9, 2) := by decide +kernel
theorem dL_acts_594 : decode cL_acts 594 = .ok (.invokevirtual 71, 3) := by decide +kernel
theorem dL_acts_597 : decode cL_acts 597 = .ok (.aload_n 1, 1) := by decide +kernel
theorem dL_acts_598 : decode cL_acts 598 = .ok (.bipush 14, 2) := by decide +kernel
theorem dL_acts_600 : decode cL_acts 600 = .ok (.iaload, 1) := by decide +kernel
theorem dL_acts_601 : decode cL_acts 601 = .ok (.iconst 1, 1) := by decide +kernel
theorem dL_acts_602 : decode cL_acts 602 = .ok (.isub, 1) := by decide +kernel
theorem dL_acts_603 : decode cL_acts 603 = .ok (.if_icmp .ne 7, 3) := by decide +kernel
theorem dL_acts_606 : decode cL_acts 606 = .ok (.iconst 1, 1) := by decide +kernel
theorem dL_acts_607 : decode cL_acts 607 = .ok (.goto 4, 3) := by decide +kernel
theorem dL_acts_610 : decode cL_acts 610 = .ok (.iconst 0, 1) := by decide +kernel
theorem dL_acts_611 : decode cL_acts 611 = .ok (.ireturn, 1) := by decide +kernel
theorem dL_acts_612 : decode cL_acts 612 = .ok (.iload 8, 2) := by decide +kernel
theorem dL_acts_614 : decode cL_acts 614 = .ok (.bipush 23, 2) := by decide +kernel
theorem dL_acts_616 : decode cL_acts 616 = .ok (.if_icmp .ne 62, 3) := by decide +kernel
theorem dL_acts_619 : decode cL_acts 619 = .ok (.aload 5, 2) := by decide +kernel
theorem dL_acts_621 : decode cL_acts 621 = .ok (.bipush 16, 2) := by decide +kernel
theorem dL_acts_623 : decode cL_acts 623 = .ok (.iload 7, 2) := by decide +kernel
theorem dL_acts_625 : decode cL_acts 625 = .ok (.iconst 4, 1) := by decide +kernel
theorem dL_acts_626 : decode cL_acts 626 = .ok (.irem, 1) := by decide +kernel
theorem dL_acts_627 : decode cL_acts 627 = .ok (.iadd, 1) := by decide +kernel
theorem dL_acts_628 : decode cL_acts 628 = .ok (.iaload, 1) := by decide +kernel
theorem dL_acts_629 : decode cL_acts 629 = .ok (.istore 9, 2) := by decide +kernel
theorem dL_acts_631 : decode cL_acts 631 = .ok (.aload 5, 2) := by decide +kernel
theorem dL_acts_633 : decode cL_acts 633 = .ok (.bipush 16, 2) := by decide +kernel
theorem dL_acts_635 : decode cL_acts 635 = .ok (.iload 7, 2) := by decide +kernel
theorem dL_acts_637 : decode cL_acts 637 = .ok (.iconst 4, 1) := by decide +kernel
theorem dL_acts_638 : decode cL_acts 638 = .ok (.irem, 1) := by decide +kernel
theorem dL_acts_639 : decode cL_acts 639 = .ok (.iadd, 1) := by decide +kernel
theorem dL_acts_640 : decode cL_acts 640 = .ok (.iload 7, 2) := by decide +kernel
theorem dL_acts_642 : decode cL_acts 642 = .ok (.iconst 4, 1) := by decide +kernel
theorem dL_acts_643 : decode cL_acts 643 = .ok (.idiv, 1) := by decide +kernel
theorem dL_acts_644 : decode cL_acts 644 = .ok (.aload_n 1, 1) := by decide +kernel
theorem dL_acts_645 : decode cL_acts 645 = .ok (.bipush 14, 2) := by decide +kernel
theorem dL_acts_647 : decode cL_acts 647 = .ok (.iaload, 1) := by decide +kernel
theorem dL_acts_648 : decode cL_acts 648 = .ok (.irem, 1) := by decide +kernel
theorem dL_acts_649 : decode cL_acts 649 = .ok (.iastore, 1) := by decide +kernel
theorem dL_acts_650 : decode cL_acts 650 = .ok (.aload_n 0, 1) := by decide +kernel
theorem dL_acts_651 : decode cL_acts 651 = .ok (.iload 7, 2) := by decide +kernel
theorem dL_acts_653 : decode cL_acts 653 = .ok (.iconst 4, 1) := by decide +kernel
theorem dL_acts_654 : decode cL_acts 654 = .ok (.irem, 1) := by decide +kernel
theorem dL_acts_655 : decode cL_acts 655 = .ok (.iload 7, 2) := by decide +kernel
theorem dL_acts_657 : decode cL_acts 657 = .ok (.iconst 4, 1) := by decide +kernel
theorem dL_acts_658 : decode cL_acts 658 = .ok (.idiv, 1) := by decide +kernel
theorem dL_acts_659 : decode cL_acts 659 = .ok (.aload_n 1, 1) := by decide +kernel
theorem dL_acts_660 : decode cL_acts 660 = .ok (.bipush 14, 2) := by decide +kernel
theorem dL_acts_662 : decode cL_acts 662 = .ok (.iaload, 1) := by decide +kernel
theorem dL_acts_663 : decode cL_acts 663 = .ok (.irem, 1) := by decide +kernel
theorem dL_acts_664 : decode cL_acts 664 = .ok (.invokevirtual 74, 3) := by decide +kernel
theorem dL_acts_667 : decode cL_acts 667 = .ok (.iload 9, 2) := by decide +kernel
theorem dL_acts_669 : decode cL_acts 669 = .ok (.if_icmp .ne 7, 3) := by decide +kernel
theorem dL_acts_672 : decode cL_acts 672 = .ok (.iconst 1, 1) := by decide +kernel
theorem dL_acts_673 : decode cL_acts 673 = .ok (.goto 4, 3) := by decide +kernel
theorem dL_acts_676 : decode cL_acts 676 = .ok (.iconst 0, 1) := by decide +kernel
theorem dL_acts_677 : decode cL_acts 677 = .ok (.ireturn, 1) := by decide +kernel
theorem dL_acts_678 : decode cL_acts 678 = .ok (.iload 7, 2) := by decide +kernel
theorem dL_acts_680 : decode cL_acts 680 = .ok (.iconst 3, 1) := by decide +kernel
theorem dL_acts_681 : decode cL_acts 681 = .ok (.irem, 1) := by decide +kernel
theorem dL_acts_682 : decode cL_acts 682 = .ok (.istore 9, 2) := by decide +kernel
theorem dL_acts_684 : decode cL_acts 684 = .ok (.aload_n 1, 1) := by decide +kernel
theorem dL_acts_685 : decode cL_acts 685 = .ok (.bipush 18, 2) := by decide +kernel
theorem dL_acts_687 : decode cL_acts 687 = .ok (.iload 9, 2) := by decide +kernel
theorem dL_acts_689 : decode cL_acts 689 = .ok (.iadd, 1) := by decide +kernel
theorem dL_acts_690 : decode cL_acts 690 = .ok (.iaload, 1) := by decide +kernel
theorem dL_acts_691 : decode cL_acts 691 = .ok (.istore 10, 2) := by decide +kernel
theorem dL_acts_693 : decode cL_acts 693 = .ok (.aload_n 1, 1) := by decide +kernel
theorem dL_acts_694 : decode cL_acts 694 = .ok (.bipush 18, 2) := by decide +kernel
theorem dL_acts_696 : decode cL_acts 696 = .ok (.iload 9, 2) := by decide +kernel
theorem dL_acts_698 : decode cL_acts 698 = .ok (.iadd, 1) := by decide +kernel
theorem dL_acts_699 : decode cL_acts 699 = .ok (.iload 9, 2) := by decide +kernel
theorem dL_acts_701 : decode cL_acts 701 = .ok (.ifCond .ne 16, 3) := by decide +kernel
theorem dL_acts_704 : decode cL_acts 704 = .ok (.iconst 1, 1) := by decide +kernel
theorem dL_acts_705 : decode cL_acts 705 = .ok (.iload 7, 2) := by decide +kernel
theorem dL_acts_707 : decode cL_acts 707 = .ok (.iconst 3, 1) := by decide +kernel
theorem dL_acts_708 : decode cL_acts 708 = .ok (.idiv, 1) := by decide +kernel
theorem dL_acts_709 : decode cL_acts 709 = .ok (.sipush 300, 3) := by decide +kernel
theorem dL_acts_712 : decode cL_acts 712 = .ok (.irem, 1) := by decide +kernel
theorem dL_acts_713 : decode cL_acts 713 = .ok (.iadd, 1) := by decide +kernel
theorem dL_acts_714 : decode cL_acts 714 = .ok (.goto 31, 3) := by decide +kernel
theorem dL_acts_717 : decode cL_acts 717 = .ok (.iload 9, 2) := by decide +kernel
theorem dL_acts_719 : decode cL_acts 719 = .ok (.iconst 1, 1) := by decide +kernel
theorem dL_acts_720 : decode cL_acts 720 = .ok (.if_icmp .ne 15, 3) := by decide +kernel
theorem dL_acts_723 : decode cL_acts 723 = .ok (.iconst 1, 1) := by decide +kernel
theorem dL_acts_724 : decode cL_acts 724 = .ok (.iload 7, 2) := by decide +kernel
theorem dL_acts_726 : decode cL_acts 726 = .ok (.iconst 3, 1) := by decide +kernel
theorem dL_acts_727 : decode cL_acts 727 = .ok (.idiv, 1) := by decide +kernel
theorem dL_acts_728 : decode cL_acts 728 = .ok (.bipush 40, 2) := by decide +kernel
theorem dL_acts_730 : decode cL_acts 730 = .ok (.irem, 1) := by decide +kernel
theorem dL_acts_731 : decode cL_acts 731 = .ok (.iadd, 1) := by decide +kernel
theorem dL_acts_732 : decode cL_acts 732 = .ok (.goto 13, 3) := by decide +kernel
theorem dL_acts_735 : decode cL_acts 735 = .ok (.iload 7, 2) := by decide +kernel
theorem dL_acts_737 : decode cL_acts 737 = .ok (.iconst 3, 1) := by decide +kernel
theorem dL_acts_738 : decode cL_acts 738 = .ok (.idiv, 1) := by decide +kernel
theorem dL_acts_739 : decode cL_acts 739 = .ok (.bipush 19, 2) := by decide +kernel
theorem dL_acts_741 : decode cL_acts 741 = .ok (.irem, 1) := by decide +kernel
theorem dL_acts_742 : decode cL_acts 742 = .ok (.bipush 9, 2) := by decide +kernel
theorem dL_acts_744 : decode cL_acts 744 = .ok (.isub, 1) := by decide +kernel
theorem dL_acts_745 : decode cL_acts 745 = .ok (.iastore, 1) := by decide +kernel
theorem dL_acts_746 : decode cL_acts 746 = .ok (.aload_n 0, 1) := by decide +kernel
theorem dL_acts_747 : decode cL_acts 747 = .ok (.iload 9, 2) := by decide +kernel
theorem dL_acts_749 : decode cL_acts 749 = .ok (.aload_n 1, 1) := by decide +kernel
theorem dL_acts_750 : decode cL_acts 750 = .ok (.bipush 18, 2) := by decide +kernel
theorem dL_acts_752 : decode cL_acts 752 = .ok (.iload 9, 2) := by decide +kernel
theorem dL_acts_754 : decode cL_acts 754 = .ok (.iadd, 1) := by decide +kernel
theorem dL_acts_755 : decode cL_acts 755 = .ok (.iaload, 1) := by decide +kernel
theorem dL_acts_756 : decode cL_acts 756 = .ok (.invokevirtual 77, 3) := by decide +kernel
theorem dL_acts_759 : decode cL_acts 759 = .ok (.iload 10, 2) := by decide +kernel
theorem dL_acts_761 : decode cL_acts 761 = .ok (.if_icmp .ne 7, 3) := by decide +kernel
theorem dL_acts_764 : decode cL_acts 764 = .ok (.iconst 1, 1) := by decide +kernel
theorem dL_acts_765 : decode cL_acts 765 = .ok (.goto 4, 3) := by decide +kernel
theorem dL_acts_768 : decode cL_acts 768 = .ok (.iconst 0, 1) := by decide +kernel
theorem dL_acts_769 : decode cL_acts 769 = .ok (.ireturn, 1) := by decide +kernel
theorem dL_areBins_0 : decode cL_areBins 0 = .ok (.aload_n 0, 1) := by decide +kernel
theorem dL_areBins_1 : decode cL_areBins 1 = .ok (.aload_n 1, 1) := by decide +kernel
theorem dL_areBins_2 : decode cL_areBins 2 = .ok (.bipush 12, 2) := by decide +kernel
theorem dL_areBins_4 : decode cL_areBins 4 = .ok (.iaload, 1) := by decide +kernel
theorem dL_areBins_5 : decode cL_areBins 5 = .ok (.iconst 0, 1) := by decide +kernel
theorem dL_areBins_6 : decode cL_areBins 6 = .ok (.invokevirtual 80, 3) := by decide +kernel
theorem dL_areBins_9 : decode cL_areBins 9 = .ok (.ldc 62, 2) := by decide +kernel
theorem dL_areBins_11 : decode cL_areBins 11 = .ok (.if_icmp .ne 18, 3) := by decide +kernel
theorem dL_areBins_14 : decode cL_areBins 14 = .ok (.aload_n 0, 1) := by decide +kernel
theorem dL_areBins_15 : decode cL_areBins 15 = .ok (.iconst (-1), 1) := by decide +kernel
theorem dL_areBins_16 : decode cL_areBins 16 = .ok (.iconst 0, 1) := by decide +kernel
theorem dL_areBins_17 : decode cL_areBins 17 = .ok (.invokevirtual 80, 3) := by decide +kernel
theorem dL_areBins_20 : decode cL_areBins 20 = .ok (.ldc 62, 2) := by decide +kernel
theorem dL_areBins_22 : decode cL_areBins 22 = .ok (.if_icmp .ne 7, 3) := by decide +kernel
theorem dL_areBins_25 : decode cL_areBins 25 = .ok (.iconst 1, 1) := by decide +kernel
theorem dL_areBins_26 : decode cL_areBins 26 = .ok (.goto 4, 3) := by decide +kernel
theorem dL_areBins_29 : decode cL_areBins 29 = .ok (.iconst 0, 1) := by decide +kernel
theorem dL_areBins_30 : decode cL_areBins 30 = .ok (.istore_n 3, 1) := by decide +kernel
theorem dL_areBins_31 : decode cL_areBins 31 = .ok (.iconst 0, 1) := by decide +kernel
theorem dL_areBins_32 : decode cL_areBins 32 = .ok (.istore 4, 2) := by decide +kernel
theorem dL_areBins_34 : decode cL_areBins 34 = .ok (.iload 4, 2) := by decide +kernel
theorem dL_areBins_36 : decode cL_areBins 36 = .ok (.aload_n 1, 1) := by decide +kernel
theorem dL_areBins_37 : decode cL_areBins 37 = .ok (.bipush 12, 2) := by decide +kernel
theorem dL_areBins_39 : decode cL_areBins 39 = .ok (.iaload, 1) := by decide +kernel
theorem dL_areBins_40 : decode cL_areBins 40 = .ok (.if_icmp .ge 154, 3) := by decide +kernel
theorem dL_areBins_43 : decode cL_areBins 43 = .ok (.iload_n 3, 1) := by decide +kernel
theorem dL_areBins_44 : decode cL_areBins 44 = .ok (.ifCond .eq 150, 3) := by decide +kernel
theorem dL_areBins_47 : decode cL_areBins 47 = .ok (.iconst 0, 1) := by decide +kernel
theorem dL_areBins_48 : decode cL_areBins 48 = .ok (.istore 5, 2) := by decide +kernel
theorem dL_areBins_50 : decode cL_areBins 50 = .ok (.iconst 0, 1) := by decide +kernel
theorem dL_areBins_51 : decode cL_areBins 51 = .ok (.istore 6, 2) := by decide +kernel
theorem dL_areBins_53 : decode cL_areBins 53 = .ok (.iload 6, 2) := by decide +kernel
theorem dL_areBins_55 : decode cL_areBins 55 = .ok (.iconst 4, 1) := by decide +kernel
theorem dL_areBins_56 : decode cL_areBins 56 = .ok (.if_icmp .ge 55, 3) := by decide +kernel
theorem dL_areBins_59 : decode cL_areBins 59 = .ok (.iload 5, 2) := by decide +kernel
theorem dL_areBins_61 : decode cL_areBins 61 = .ok (.aload_n 2, 1) := by decide +kernel
theorem dL_areBins_62 : decode cL_areBins 62 = .ok (.bipush 6, 2) := by decide +kernel
theorem dL_areBins_64 : decode cL_areBins 64 = .ok (.iload 4, 2) := by decide +kernel
theorem dL_areBins_66 : decode cL_areBins 66 = .ok (.imul, 1) := by decide +kernel
theorem dL_areBins_67 : decode cL_areBins 67 = .ok (.iload 6, 2) := by decide +kernel
theorem dL_areBins_69 : decode cL_areBins 69 = .ok (.iadd, 1) := by decide +kernel
theorem dL_areBins_70 : decode cL_areBins 70 = .ok (.iaload, 1) := by decide +kernel
theorem dL_areBins_71 : decode cL_areBins 71 = .ok (.iadd, 1) := by decide +kernel
theorem dL_areBins_72 : decode cL_areBins 72 = .ok (.istore 5, 2) := by decide +kernel
theorem dL_areBins_74 : decode cL_areBins 74 = .ok (.iload_n 3, 1) := by decide +kernel
theorem dL_areBins_75 : decode cL_areBins 75 = .ok (.ifCond .eq 28, 3) := by decide +kernel
theorem dL_areBins_78 : decode cL_areBins 78 = .ok (.aload_n 0, 1) := by decide +kernel
theorem dL_areBins_79 : decode cL_areBins 79 = .ok (.iload 4, 2) := by decide +kernel
theorem dL_areBins_81 : decode cL_areBins 81 = .ok (.iload 6, 2) := by decide +kernel
theorem dL_areBins_83 : decode cL_areBins 83 = .ok (.invokevirtual 80, 3) := by decide +kernel
theorem dL_areBins_86 : decode cL_areBins 86 = .ok (.aload_n 2, 1) := by decide +kernel
theorem dL_areBins_87 : decode cL_areBins 87 = .ok (.bipush 6, 2) := by decide +kernel
theorem dL_areBins_89 : decode cL_areBins 89 = .ok (.iload 4, 2) := by decide +kernel
theorem dL_areBins_91 : decode cL_areBins 91 = .ok (.imul, 1) := by decide +kernel
theorem dL_areBins_92 : decode cL_areBins 92 = .ok (.iload 6, 2) := by decide +kernel
theorem dL_areBins_94 : decode cL_areBins 94 = .ok (.iadd, 1) := by decide +kernel
theorem dL_areBins_95 : decode cL_areBins 95 = .ok (.iaload, 1) := by decide +kernel
theorem dL_areBins_96 : decode cL_areBins 96 = .ok (.if_icmp .ne 7, 3) := by decide +kernel
theorem dL_areBins_99 : decode cL_areBins 99 = .ok (.iconst 1, 1) := by decide +kernel
theorem dL_areBins_100 : decode cL_areBins 100 = .ok (.goto 4, 3) := by decide +kernel
theorem dL_areBins_103 : decode cL_areBins 103 = .ok (.iconst 0, 1) := by decide +kernel
theorem dL_areBins_104 : decode cL_areBins 104 = .ok (.istore_n 3, 1) := by decide +kernel
theorem dL_areBins_105 : decode cL_areBins 105 = .ok (.iinc 6 1, 3) := by decide +kernel
theorem dL_areBins_108 : decode cL_areBins 108 = .ok (.goto (-55), 3) := by decide +kernel
theorem dL_areBins_111 : decode cL_areBins 111 = .ok (.iload_n 3, 1) := by decide +kernel
theorem dL_areBins_112 : decode cL_areBins 112 = .ok (.ifCond .eq 74, 3) := by decide +kernel
theorem dL_areBins_115 : decode cL_areBins 115 = .ok (.aload_n 0, 1) := by decide +kernel
theorem dL_areBins_116 : decode cL_areBins 116 = .ok (.iload 4, 2) := by decide +kernel
theorem dL_areBins_118 : decode cL_areBins 118 = .ok (.iconst 4, 1) := by decide +kernel
theorem dL_areBins_119 : decode cL_areBins 119 = .ok (.invokevirtual 80, 3) := by decide +kernel
theorem dL_areBins_122 : decode cL_areBins 122 = .ok (.iload 5, 2) := by decide +kernel
theorem dL_areBins_124 : decode cL_areBins 124 = .ok (.if_icmp .ne 62, 3) := by decide +kernel
theorem dL_areBins_127 : decode cL_areBins 127 = .ok (.aload_n 0, 1) := by decide +kernel
theorem dL_areBins_128 : decode cL_areBins 128 = .ok (.iload 4, 2) := by decide +kernel
theorem dL_areBins_130 : decode cL_areBins 130 = .ok (.iconst 5, 1) := by decide +kernel
theorem dL_areBins_131 : decode cL_areBins 131 = .ok (.invokevirtual 80, 3) := by decide +kernel
theorem dL_areBins_134 : decode cL_areBins 134 = .ok (.aload_n 2, 1) := by decide +kernel
theorem dL_areBins_135 : decode cL_areBins 135 = .ok (.bipush 6, 2) := by decide +kernel
theorem dL_areBins_137 : decode cL_areBins 137 = .ok (.iload 4, 2) := by decide +kernel
theorem dL_areBins_139 : decode cL_areBins 139 = .ok (.imul, 1) := by decide +kernel
theorem dL_areBins_140 : decode cL_areBins 140 = .ok (.iconst 4, 1) := by decide +kernel
theorem dL_areBins_141 : decode cL_areBins 141 = .ok (.iadd, 1) := by decide +kernel
theorem dL_areBins_142 : decode cL_areBins 142 = .ok (.iaload, 1) := by decide +kernel
theorem dL_areBins_143 : decode cL_areBins 143 = .ok (.ldc 83, 2) := by decide +kernel
theorem dL_areBins_145 : decode cL_areBins 145 = .ok (.iadd, 1) := by decide +kernel
theorem dL_areBins_146 : decode cL_areBins 146 = .ok (.if_icmp .ne 40, 3) := by decide +kernel
theorem dL_areBins_149 : decode cL_areBins 149 = .ok (.aload_n 0, 1) := by decide +kernel
theorem dL_areBins_150 : decode cL_areBins 150 = .ok (.iload 4, 2) := by decide +kernel
theorem dL_areBins_152 : decode cL_areBins 152 = .ok (.bipush 6, 2) := by decide +kernel
theorem dL_areBins_154 : decode cL_areBins 154 = .ok (.invokevirtual 80, 3) := by decide +kernel
theorem dL_areBins_157 : decode cL_areBins 157 = .ok (.aload_n 2, 1) := by decide +kernel
theorem dL_areBins_158 : decode cL_areBins 158 = .ok (.bipush 6, 2) := by decide +kernel
theorem dL_areBins_160 : decode cL_areBins 160 = .ok (.iload 4, 2) := by decide +kernel
theorem dL_areBins_162 : decode cL_areBins 162 = .ok (.imul, 1) := by decide +kernel
theorem dL_areBins_163 : decode cL_areBins 163 = .ok (.iconst 5, 1) := by decide +kernel
theorem dL_areBins_164 : decode cL_areBins 164 = .ok (.iadd, 1) := by decide +kernel
theorem dL_areBins_165 : decode cL_areBins 165 = .ok (.iaload, 1) := by decide +kernel
theorem dL_areBins_166 : decode cL_areBins 166 = .ok (.if_icmp .ne 20, 3) := by decide +kernel
theorem dL_areBins_169 : decode cL_areBins 169 = .ok (.aload_n 0, 1) := by decide +kernel
theorem dL_areBins_170 : decode cL_areBins 170 = .ok (.iload 4, 2) := by decide +kernel
theorem dL_areBins_172 : decode cL_areBins 172 = .ok (.bipush 7, 2) := by decide +kernel
theorem dL_areBins_174 : decode cL_areBins 174 = .ok (.invokevirtual 80, 3) := by decide +kernel
theorem dL_areBins_177 : decode cL_areBins 177 = .ok (.ldc 62, 2) := by decide +kernel
theorem dL_areBins_179 : decode cL_areBins 179 = .ok (.if_icmp .ne 7, 3) := by decide +kernel
theorem dL_areBins_182 : decode cL_areBins 182 = .ok (.iconst 1, 1) := by decide +kernel
theorem dL_areBins_183 : decode cL_areBins 183 = .ok (.goto 4, 3) := by decide +kernel
theorem dL_areBins_186 : decode cL_areBins 186 = .ok (.iconst 0, 1) := by decide +kernel
theorem dL_areBins_187 : decode cL_areBins 187 = .ok (.istore_n 3, 1) := by decide +kernel
theorem dL_areBins_188 : decode cL_areBins 188 = .ok (.iinc 4 1, 3) := by decide +kernel
theorem dL_areBins_191 : decode cL_areBins 191 = .ok (.goto (-157), 3) := by decide +kernel
theorem dL_areBins_194 : decode cL_areBins 194 = .ok (.iload_n 3, 1) := by decide +kernel
theorem dL_areBins_195 : decode cL_areBins 195 = .ok (.ireturn, 1) := by decide +kernel
theorem dL_isSo_0 : decode cL_isSo 0 = .ok (.aload_n 0, 1) := by decide +kernel
theorem dL_isSo_1 : decode cL_isSo 1 = .ok (.aload_n 1, 1) := by decide +kernel
theorem dL_isSo_2 : decode cL_isSo 2 = .ok (.aload 4, 2) := by decide +kernel
theorem dL_isSo_4 : decode cL_isSo 4 = .ok (.invokestatic 84, 3) := by decide +kernel
theorem dL_isSo_7 : decode cL_isSo 7 = .ok (.istore 6, 2) := by decide +kernel
theorem dL_isSo_9 : decode cL_isSo 9 = .ok (.iconst 0, 1) := by decide +kernel
theorem dL_isSo_10 : decode cL_isSo 10 = .ok (.istore 7, 2) := by decide +kernel
theorem dL_isSo_12 : decode cL_isSo 12 = .ok (.iconst 0, 1) := by decide +kernel
theorem dL_isSo_13 : decode cL_isSo 13 = .ok (.istore 8, 2) := by decide +kernel
theorem dL_isSo_15 : decode cL_isSo 15 = .ok (.iconst 0, 1) := by decide +kernel
theorem dL_isSo_16 : decode cL_isSo 16 = .ok (.istore 9, 2) := by decide +kernel
theorem dL_isSo_18 : decode cL_isSo 18 = .ok (.iconst 0, 1) := by decide +kernel
theorem dL_isSo_19 : decode cL_isSo 19 = .ok (.istore 10, 2) := by decide +kernel
theorem dL_isSo_21 : decode cL_isSo 21 = .ok (.iload 10, 2) := by decide +kernel
theorem dL_isSo_23 : decode cL_isSo 23 = .ok (.bipush 48, 2) := by decide +kernel
theorem dL_isSo_25 : decode cL_isSo 25 = .ok (.if_icmp .ge 99, 3) := by decide +kernel
theorem dL_isSo_28 : decode cL_isSo 28 = .ok (.iload 6, 2) := by decide +kernel
theorem dL_isSo_30 : decode cL_isSo 30 = .ok (.ifCond .eq 94, 3) := by decide +kernel
theorem dL_isSo_33 : decode cL_isSo 33 = .ok (.iload 8, 2) := by decide +kernel
theorem dL_isSo_35 : decode cL_isSo 35 = .ok (.iload 10, 2) := by decide +kernel
theorem dL_isSo_37 : decode cL_isSo 37 = .ok (.bipush 6, 2) := by decide +kernel
theorem dL_isSo_39 : decode cL_isSo 39 = .ok (.irem, 1) := by decide +kernel
theorem dL_isSo_40 : decode cL_isSo 40 = .ok (.iconst 4, 1) := by decide +kernel
theorem dL_isSo_41 : decode cL_isSo 41 = .ok (.if_icmp .ge 23, 3) := by decide +kernel
theorem dL_isSo_44 : decode cL_isSo 44 = .ok (.iload 10, 2) := by decide +kernel
theorem dL_isSo_46 : decode cL_isSo 46 = .ok (.bipush 6, 2) := by decide +kernel
theorem dL_isSo_48 : decode cL_isSo 48 = .ok (.idiv, 1) := by decide +kernel
theorem dL_isSo_49 : decode cL_isSo 49 = .ok (.aload_n 1, 1) := by decide +kernel
theorem dL_isSo_50 : decode cL_isSo 50 = .ok (.bipush 12, 2) := by decide +kernel
theorem dL_isSo_52 : decode cL_isSo 52 = .ok (.iaload, 1) := by decide +kernel
theorem dL_isSo_53 : decode cL_isSo 53 = .ok (.if_icmp .ge 11, 3) := by decide +kernel
theorem dL_isSo_56 : decode cL_isSo 56 = .ok (.aload 4, 2) := by decide +kernel
theorem dL_isSo_58 : decode cL_isSo 58 = .ok (.iload 10, 2) := by decide +kernel
theorem dL_isSo_60 : decode cL_isSo 60 = .ok (.iaload, 1) := by decide +kernel
theorem dL_isSo_61 : decode cL_isSo 61 = .ok (.goto 4, 3) := by decide +kernel
theorem dL_isSo_64 : decode cL_isSo 64 = .ok (.iconst 0, 1) := by decide +kernel
theorem dL_isSo_65 : decode cL_isSo 65 = .ok (.iadd, 1) := by decide +kernel
theorem dL_isSo_66 : decode cL_isSo 66 = .ok (.istore 8, 2) := by decide +kernel
theorem dL_isSo_68 : decode cL_isSo 68 = .ok (.aload_n 0, 1) := by decide +kernel
theorem dL_isSo_69 : decode cL_isSo 69 = .ok (.iload 10, 2) := by decide +kernel
theorem dL_isSo_71 : decode cL_isSo 71 = .ok (.iconst 4, 1) := by decide +kernel
theorem dL_isSo_72 : decode cL_isSo 72 = .ok (.idiv, 1) := by decide +kernel
theorem dL_isSo_73 : decode cL_isSo 73 = .ok (.iload 10, 2) := by decide +kernel
theorem dL_isSo_75 : decode cL_isSo 75 = .ok (.iconst 4, 1) := by decide +kernel
theorem dL_isSo_76 : decode cL_isSo 76 = .ok (.irem, 1) := by decide +kernel
theorem dL_isSo_77 : decode cL_isSo 77 = .ok (.invokevirtual 88, 3) := by decide +kernel
theorem dL_isSo_80 : decode cL_isSo 80 = .ok (.aload_n 2, 1) := by decide +kernel
theorem dL_isSo_81 : decode cL_isSo 81 = .ok (.iload 10, 2) := by decide +kernel
theorem dL_isSo_83 : decode cL_isSo 83 = .ok (.iaload, 1) := by decide +kernel
theorem dL_isSo_84 : decode cL_isSo 84 = .ok (.if_icmp .ne 31, 3) := by decide +kernel
theorem dL_isSo_87 : decode cL_isSo 87 = .ok (.aload_n 0, 1) := by decide +kernel
theorem dL_isSo_88 : decode cL_isSo 88 = .ok (.iload 10, 2) := by decide +kernel
theorem dL_isSo_90 : decode cL_isSo 90 = .ok (.iconst 4, 1) := by decide +kernel
theorem dL_isSo_91 : decode cL_isSo 91 = .ok (.idiv, 1) := by decide +kernel
theorem dL_isSo_92 : decode cL_isSo 92 = .ok (.iconst (-1), 1) := by decide +kernel
theorem dL_isSo_93 : decode cL_isSo 93 = .ok (.invokevirtual 88, 3) := by decide +kernel
theorem dL_isSo_96 : decode cL_isSo 96 = .ok (.aload_n 2, 1) := by decide +kernel
theorem dL_isSo_97 : decode cL_isSo 97 = .ok (.iload 10, 2) := by decide +kernel
theorem dL_isSo_99 : decode cL_isSo 99 = .ok (.iconst 4, 1) := by decide +kernel
theorem dL_isSo_100 : decode cL_isSo 100 = .ok (.idiv, 1) := by decide +kernel
theorem dL_isSo_101 : decode cL_isSo 101 = .ok (.iload 10, 2) := by decide +kernel
theorem dL_isSo_103 : decode cL_isSo 103 = .ok (.iconst 4, 1) := by decide +kernel
theorem dL_isSo_104 : decode cL_isSo 104 = .ok (.idiv, 1) := by decide +kernel
theorem dL_isSo_105 : decode cL_isSo 105 = .ok (.invokestatic 9, 3) := by decide +kernel
theorem dL_isSo_108 : decode cL_isSo 108 = .ok (.if_icmp .ne 7, 3) := by decide +kernel
theorem dL_isSo_111 : decode cL_isSo 111 = .ok (.iconst 1, 1) := by decide +kernel
theorem dL_isSo_112 : decode cL_isSo 112 = .ok (.goto 4, 3) := by decide +kernel
theorem dL_isSo_115 : decode cL_isSo 115 = .ok (.iconst 0, 1) := by decide +kernel
theorem dL_isSo_116 : decode cL_isSo 116 = .ok (.istore 6, 2) := by decide +kernel
theorem dL_isSo_118 : decode cL_isSo 118 = .ok (.iinc 10 1, 3) := by decide +kernel
theorem dL_isSo_121 : decode cL_isSo 121 = .ok (.goto (-100), 3) := by decide +kernel
theorem dL_isSo_124 : decode cL_isSo 124 = .ok (.iconst 0, 1) := by decide +kernel
theorem dL_isSo_125 : decode cL_isSo 125 = .ok (.istore 10, 2) := by decide +kernel
theorem dL_isSo_127 : decode cL_isSo 127 = .ok (.iload 10, 2) := by decide +kernel
theorem dL_isSo_129 : decode cL_isSo 129 = .ok (.bipush 12, 2) := by decide +kernel
theorem dL_isSo_131 : decode cL_isSo 131 = .ok (.if_icmp .ge 88, 3) := by decide +kernel
theorem dL_isSo_134 : decode cL_isSo 134 = .ok (.iload 6, 2) := by decide +kernel
theorem dL_isSo_136 : decode cL_isSo 136 = .ok (.ifCond .eq 83, 3) := by decide +kernel
theorem dL_isSo_139 : decode cL_isSo 139 = .ok (.iload 7, 2) := by decide +kernel
theorem dL_isSo_141 : decode cL_isSo 141 = .ok (.iload 10, 2) := by decide +kernel
theorem dL_isSo_143 : decode cL_isSo 143 = .ok (.iconst 2, 1) := by decide +kernel
theorem dL_isSo_144 : decode cL_isSo 144 = .ok (.irem, 1) := by decide +kernel
theorem dL_isSo_145 : decode cL_isSo 145 = .ok (.iconst 1, 1) := by decide +kernel
theorem dL_isSo_146 : decode cL_isSo 146 = .ok (.if_icmp .ne 21, 3) := by decide +kernel
theorem dL_isSo_149 : decode cL_isSo 149 = .ok (.iload 10, 2) := by decide +kernel
theorem dL_isSo_151 : decode cL_isSo 151 = .ok (.iconst 2, 1) := by decide +kernel
theorem dL_isSo_152 : decode cL_isSo 152 = .ok (.idiv, 1) := by decide +kernel
theorem dL_isSo_153 : decode cL_isSo 153 = .ok (.aload_n 1, 1) := by decide +kernel
theorem dL_isSo_154 : decode cL_isSo 154 = .ok (.bipush 13, 2) := by decide +kernel
theorem dL_isSo_156 : decode cL_isSo 156 = .ok (.iaload, 1) := by decide +kernel
theorem dL_isSo_157 : decode cL_isSo 157 = .ok (.if_icmp .ge 10, 3) := by decide +kernel
theorem dL_isSo_160 : decode cL_isSo 160 = .ok (.aload_n 3, 1) := by decide +kernel
theorem dL_isSo_161 : decode cL_isSo 161 = .ok (.iload 10, 2) := by decide +kernel
theorem dL_isSo_163 : decode cL_isSo 163 = .ok (.iaload, 1) := by decide +kernel
theorem dL_isSo_164 : decode cL_isSo 164 = .ok (.goto 4, 3) := by decide +kernel
theorem dL_isSo_167 : decode cL_isSo 167 = .ok (.iconst 0, 1) := by decide +kernel
theorem dL_isSo_168 : decode cL_isSo 168 = .ok (.iadd, 1) := by decide +kernel
theorem dL_isSo_169 : decode cL_isSo 169 = .ok (.istore 7, 2) := by decide +kernel
theorem dL_isSo_171 : decode cL_isSo 171 = .ok (.aload_n 0, 1) := by decide +kernel
theorem dL_isSo_172 : decode cL_isSo 172 = .ok (.iload 10, 2) := by decide +kernel
theorem dL_isSo_174 : decode cL_isSo 174 = .ok (.iconst 2, 1) := by decide +kernel
theorem dL_isSo_175 : decode cL_isSo 175 = .ok (.idiv, 1) := by decide +kernel
theorem dL_isSo_176 : decode cL_isSo 176 = .ok (.iload 10, 2) := by decide +kernel
theorem dL_isSo_178 : decode cL_isSo 178 = .ok (.iconst 2, 1) := by decide +kernel
theorem dL_isSo_179 : decode cL_isSo 179 = .ok (.irem, 1) := by decide +kernel
theorem dL_isSo_180 : decode cL_isSo 180 = .ok (.invokevirtual 91, 3) := by decide +kernel
theorem dL_isSo_183 : decode cL_isSo 183 = .ok (.iload 10, 2) := by decide +kernel
theorem dL_isSo_185 : decode cL_isSo 185 = .ok (.iconst 2, 1) := by decide +kernel
theorem dL_isSo_186 : decode cL_isSo 186 = .ok (.idiv, 1) := by decide +kernel
theorem dL_isSo_187 : decode cL_isSo 187 = .ok (.aload_n 1, 1) := by decide +kernel
theorem dL_isSo_188 : decode cL_isSo 188 = .ok (.bipush 13, 2) := by decide +kernel
theorem dL_isSo_190 : decode cL_isSo 190 = .ok (.iaload, 1) := by decide +kernel
theorem dL_isSo_191 : decode cL_isSo 191 = .ok (.if_icmp .ge 10, 3) := by decide +kernel
theorem dL_isSo_194 : decode cL_isSo 194 = .ok (.aload_n 3, 1) := by decide +kernel
theorem dL_isSo_195 : decode cL_isSo 195 = .ok (.iload 10, 2) := by decide +kernel
theorem dL_isSo_197 : decode cL_isSo 197 = .ok (.iaload, 1) := by decide +kernel
theorem dL_isSo_198 : decode cL_isSo 198 = .ok (.goto 5, 3) := by decide +kernel
theorem dL_isSo_201 : decode cL_isSo 201 = .ok (.ldc 94, 2) := by decide +kernel
theorem dL_isSo_203 : decode cL_isSo 203 = .ok (.if_icmp .ne 7, 3) := by decide +kernel
theorem dL_isSo_206 : decode cL_isSo 206 = .ok (.iconst 1, 1) := by decide +kernel
theorem dL_isSo_207 : decode cL_isSo 207 = .ok (.goto 4, 3) := by decide +kernel
theorem dL_isSo_210 : decode cL_isSo 210 = .ok (.iconst 0, 1) := by decide +kernel
theorem dL_isSo_211 : decode cL_isSo 211 = .ok (.istore 6, 2) := by decide +kernel
theorem dL_isSo_213 : decode cL_isSo 213 = .ok (.iinc 10 1, 3) := by decide +kernel
theorem dL_isSo_216 : decode cL_isSo 216 = .ok (.goto (-89), 3) := by decide +kernel
theorem dL_isSo_219 : decode cL_isSo 219 = .ok (.iconst 0, 1) := by decide +kernel
theorem dL_isSo_220 : decode cL_isSo 220 = .ok (.istore 10, 2) := by decide +kernel
theorem dL_isSo_222 : decode cL_isSo 222 = .ok (.iload 10, 2) := by decide +kernel
theorem dL_isSo_224 : decode cL_isSo 224 = .ok (.aload_n 1, 1) := by decide +kernel
theorem dL_isSo_225 : decode cL_isSo 225 = .ok (.bipush 14, 2) := by decide +kernel
theorem dL_isSo_227 : decode cL_isSo 227 = .ok (.iaload, 1) := by decide +kernel
theorem dL_isSo_228 : decode cL_isSo 228 = .ok (.if_icmp .ge 83, 3) := by decide +kernel
theorem dL_isSo_231 : decode cL_isSo 231 = .ok (.iload 6, 2) := by decide +kernel
theorem dL_isSo_233 : decode cL_isSo 233 = .ok (.ifCond .eq 78, 3) := by decide +kernel
theorem dL_isSo_236 : decode cL_isSo 236 = .ok (.iload 9, 2) := by decide +kernel
theorem dL_isSo_238 : decode cL_isSo 238 = .ok (.aload 5, 2) := by decide +kernel
theorem dL_isSo_240 : decode cL_isSo 240 = .ok (.iconst 2, 1) := by decide +kernel
theorem dL_isSo_241 : decode cL_isSo 241 = .ok (.iload 10, 2) := by decide +kernel
theorem dL_isSo_243 : decode cL_isSo 243 = .ok (.imul, 1) := by decide +kernel
theorem dL_isSo_244 : decode cL_isSo 244 = .ok (.iconst 1, 1) := by decide +kernel
theorem dL_isSo_245 : decode cL_isSo 245 = .ok (.iadd, 1) := by decide +kernel
theorem dL_isSo_246 : decode cL_isSo 246 = .ok (.iaload, 1) := by decide +kernel
theorem dL_isSo_247 : decode cL_isSo 247 = .ok (.iadd, 1) := by decide +kernel
theorem dL_isSo_248 : decode cL_isSo 248 = .ok (.istore 9, 2) := by decide +kernel
theorem dL_isSo_250 : decode cL_isSo 250 = .ok (.aload_n 0, 1) := by decide +kernel
theorem dL_isSo_251 : decode cL_isSo 251 = .ok (.iload 10, 2) := by decide +kernel
theorem dL_isSo_253 : decode cL_isSo 253 = .ok (.iconst 0, 1) := by decide +kernel
theorem dL_isSo_254 : decode cL_isSo 254 = .ok (.invokevirtual 95, 3) := by decide +kernel
theorem dL_isSo_257 : decode cL_isSo 257 = .ok (.aload 5, 2) := by decide +kernel
theorem dL_isSo_259 : decode cL_isSo 259 = .ok (.iconst 2, 1) := by decide +kernel
theorem dL_isSo_260 : decode cL_isSo 260 = .ok (.iload 10, 2) := by decide +kernel
theorem dL_isSo_262 : decode cL_isSo 262 = .ok (.imul, 1) := by decide +kernel
theorem dL_isSo_263 : decode cL_isSo 263 = .ok (.iaload, 1) := by decide +kernel
theorem dL_isSo_264 : decode cL_isSo 264 = .ok (.if_icmp .ne 38, 3) := by decide +kernel
theorem dL_isSo_267 : decode cL_isSo 267 = .ok (.aload_n 0, 1) := by decide +kernel
theorem dL_isSo_268 : decode cL_isSo 268 = .ok (.iload 10, 2) := by decide +kernel
theorem dL_isSo_270 : decode cL_isSo 270 = .ok (.iconst 1, 1) := by decide +kernel
theorem dL_isSo_271 : decode cL_isSo 271 = .ok (.invokevirtual 95, 3) := by decide +kernel
theorem dL_isSo_274 : decode cL_isSo 274 = .ok (.aload 5, 2) := by decide +kernel
theorem dL_isSo_276 : decode cL_isSo 276 = .ok (.iconst 2, 1) := by decide +kernel
theorem dL_isSo_277 : decode cL_isSo 277 = .ok (.iload 10, 2) := by decide +kernel
theorem dL_isSo_279 : decode cL_isSo 279 = .ok (.imul, 1) := by decide +kernel
theorem dL_isSo_280 : decode cL_isSo 280 = .ok (.iconst 1, 1) := by decide +kernel
theorem dL_isSo_281 : decode cL_isSo 281 = .ok (.iadd, 1) := by decide +kernel
theorem dL_isSo_282 : decode cL_isSo 282 = .ok (.iaload, 1) := by decide +kernel
theorem dL_isSo_283 : decode cL_isSo 283 = .ok (.if_icmp .ne 19, 3) := by decide +kernel
theorem dL_isSo_286 : decode cL_isSo 286 = .ok (.aload_n 0, 1) := by decide +kernel
theorem dL_isSo_287 : decode cL_isSo 287 = .ok (.iload 10, 2) := by decide +kernel
theorem dL_isSo_289 : decode cL_isSo 289 = .ok (.iconst 5, 1) := by decide +kernel
theorem dL_isSo_290 : decode cL_isSo 290 = .ok (.invokevirtual 95, 3) := by decide +kernel
theorem dL_isSo_293 : decode cL_isSo 293 = .ok (.ldc 62, 2) := by decide +kernel
theorem dL_isSo_295 : decode cL_isSo 295 = .ok (.if_icmp .ne 7, 3) := by decide +kernel
theorem dL_isSo_298 : decode cL_isSo 298 = .ok (.iconst 1, 1) := by decide +kernel
theorem dL_isSo_299 : decode cL_isSo 299 = .ok (.goto 4, 3) := by decide +kernel
theorem dL_isSo_302 : decode cL_isSo 302 = .ok (.iconst 0, 1) := by decide +kernel
theorem dL_isSo_303 : decode cL_isSo 303 = .ok (.istore 6, 2) := by decide +kernel
theorem dL_isSo_305 : decode cL_isSo 305 = .ok (.iinc 10 1, 3) := by decide +kernel
theorem dL_isSo_308 : decode cL_isSo 308 = .ok (.goto (-86), 3) := by decide +kernel
theorem dL_isSo_311 : decode cL_isSo 311 = .ok (.iconst 0, 1) := by decide +kernel
theorem dL_isSo_312 : decode cL_isSo 312 = .ok (.istore 10, 2) := by decide +kernel
theorem dL_isSo_314 : decode cL_isSo 314 = .ok (.iload 10, 2) := by decide +kernel
theorem dL_isSo_316 : decode cL_isSo 316 = .ok (.iconst 3, 1) := by decide +kernel
theorem dL_isSo_317 : decode cL_isSo 317 = .ok (.if_icmp .ge 53, 3) := by decide +kernel
theorem dL_isSo_320 : decode cL_isSo 320 = .ok (.iload 6, 2) := by decide +kernel
theorem dL_isSo_322 : decode cL_isSo 322 = .ok (.ifCond .eq 48, 3) := by decide +kernel
theorem dL_isSo_325 : decode cL_isSo 325 = .ok (.aload_n 0, 1) := by decide +kernel
theorem dL_isSo_326 : decode cL_isSo 326 = .ok (.bipush 20, 2) := by decide +kernel
theorem dL_isSo_328 : decode cL_isSo 328 = .ok (.iload 10, 2) := by decide +kernel
theorem dL_isSo_330 : decode cL_isSo 330 = .ok (.iadd, 1) := by decide +kernel
theorem dL_isSo_331 : decode cL_isSo 331 = .ok (.invokevirtual 98, 3) := by decide +kernel
theorem dL_isSo_334 : decode cL_isSo 334 = .ok (.aload_n 1, 1) := by decide +kernel
theorem dL_isSo_335 : decode cL_isSo 335 = .ok (.bipush 18, 2) := by decide +kernel
theorem dL_isSo_337 : decode cL_isSo 337 = .ok (.iload 10, 2) := by decide +kernel
theorem dL_isSo_339 : decode cL_isSo 339 = .ok (.iadd, 1) := by decide +kernel
theorem dL_isSo_340 : decode cL_isSo 340 = .ok (.iaload, 1) := by decide +kernel
theorem dL_isSo_341 : decode cL_isSo 341 = .ok (.iload 10, 2) := by decide +kernel
theorem dL_isSo_343 : decode cL_isSo 343 = .ok (.iconst 2, 1) := by decide +kernel
theorem dL_isSo_344 : decode cL_isSo 344 = .ok (.if_icmp .ne 8, 3) := by decide +kernel
theorem dL_isSo_347 : decode cL_isSo 347 = .ok (.bipush 10, 2) := by decide +kernel
theorem dL_isSo_349 : decode cL_isSo 349 = .ok (.goto 4, 3) := by decide +kernel
theorem dL_isSo_352 : decode cL_isSo 352 = .ok (.iconst 0, 1) := by decide +kernel
theorem dL_isSo_353 : decode cL_isSo 353 = .ok (.iadd, 1) := by decide +kernel
theorem dL_isSo_354 : decode cL_isSo 354 = .ok (.if_icmp .ne 7, 3) := by decide +kernel
theorem dL_isSo_357 : decode cL_isSo 357 = .ok (.iconst 1, 1) := by decide +kernel
theorem dL_isSo_358 : decode cL_isSo 358 = .ok (.goto 4, 3) := by decide +kernel
theorem dL_isSo_361 : decode cL_isSo 361 = .ok (.iconst 0, 1) := by decide +kernel
theorem dL_isSo_362 : decode cL_isSo 362 = .ok (.istore 6, 2) := by decide +kernel
theorem dL_isSo_364 : decode cL_isSo 364 = .ok (.iinc 10 1, 3) := by decide +kernel
theorem dL_isSo_367 : decode cL_isSo 367 = .ok (.goto (-53), 3) := by decide +kernel
theorem dL_isSo_370 : decode cL_isSo 370 = .ok (.iconst 0, 1) := by decide +kernel
theorem dL_isSo_371 : decode cL_isSo 371 = .ok (.istore 10, 2) := by decide +kernel
theorem dL_isSo_373 : decode cL_isSo 373 = .ok (.iload 10, 2) := by decide +kernel
theorem dL_isSo_375 : decode cL_isSo 375 = .ok (.iconst 4, 1) := by decide +kernel
theorem dL_isSo_376 : decode cL_isSo 376 = .ok (.if_icmp .ge 41, 3) := by decide +kernel
theorem dL_isSo_379 : decode cL_isSo 379 = .ok (.iload 6, 2) := by decide +kernel
theorem dL_isSo_381 : decode cL_isSo 381 = .ok (.ifCond .eq 36, 3) := by decide +kernel
theorem dL_isSo_384 : decode cL_isSo 384 = .ok (.aload_n 0, 1) := by decide +kernel
theorem dL_isSo_385 : decode cL_isSo 385 = .ok (.bipush 30, 2) := by decide +kernel
theorem dL_isSo_387 : decode cL_isSo 387 = .ok (.iload 10, 2) := by decide +kernel
theorem dL_isSo_389 : decode cL_isSo 389 = .ok (.iadd, 1) := by decide +kernel
theorem dL_isSo_390 : decode cL_isSo 390 = .ok (.invokevirtual 98, 3) := by decide +kernel
theorem dL_isSo_393 : decode cL_isSo 393 = .ok (.aload 5, 2) := by decide +kernel
theorem dL_isSo_395 : decode cL_isSo 395 = .ok (.bipush 16, 2) := by decide +kernel
theorem dL_isSo_397 : decode cL_isSo 397 = .ok (.iload 10, 2) := by decide +kernel
theorem dL_isSo_399 : decode cL_isSo 399 = .ok (.iadd, 1) := by decide +kernel
theorem dL_isSo_400 : decode cL_isSo 400 = .ok (.iaload, 1) := by decide +kernel
theorem dL_isSo_401 : decode cL_isSo 401 = .ok (.if_icmp .ne 7, 3) := by decide +kernel
theorem dL_isSo_404 : decode cL_isSo 404 = .ok (.iconst 1, 1) := by decide +kernel
theorem dL_isSo_405 : decode cL_isSo 405 = .ok (.goto 4, 3) := by decide +kernel
theorem dL_isSo_408 : decode cL_isSo 408 = .ok (.iconst 0, 1) := by decide +kernel
theorem dL_isSo_409 : decode cL_isSo 409 = .ok (.istore 6, 2) := by decide +kernel
theorem dL_isSo_411 : decode cL_isSo 411 = .ok (.iinc 10 1, 3) := by decide +kernel
theorem dL_isSo_414 : decode cL_isSo 414 = .ok (.goto (-41), 3) := by decide +kernel
theorem dL_isSo_417 : decode cL_isSo 417 = .ok (.iload 6, 2) := by decide +kernel
theorem dL_isSo_419 : decode cL_isSo 419 = .ok (.ifCond .eq 217, 3) := by decide +kernel
theorem dL_isSo_422 : decode cL_isSo 422 = .ok (.aload_n 0, 1) := by decide +kernel
theorem dL_isSo_423 : decode cL_isSo 423 = .ok (.iconst 0, 1) := by decide +kernel
theorem dL_isSo_424 : decode cL_isSo 424 = .ok (.invokevirtual 98, 3) := by decide +kernel
theorem dL_isSo_427 : decode cL_isSo 427 = .ok (.aload_n 1, 1) := by decide +kernel
theorem dL_isSo_428 : decode cL_isSo 428 = .ok (.bipush 13, 2) := by decide +kernel
theorem dL_isSo_430 : decode cL_isSo 430 = .ok (.iaload, 1) := by decide +kernel
theorem dL_isSo_431 : decode cL_isSo 431 = .ok (.if_icmp .ne 205, 3) := by decide +kernel
theorem dL_isSo_434 : decode cL_isSo 434 = .ok (.aload_n 0, 1) := by decide +kernel
theorem dL_isSo_435 : decode cL_isSo 435 = .ok (.iconst 1, 1) := by decide +kernel
theorem dL_isSo_436 : decode cL_isSo 436 = .ok (.invokevirtual 98, 3) := by decide +kernel
theorem dL_isSo_439 : decode cL_isSo 439 = .ok (.aload_n 1, 1) := by decide +kernel
theorem dL_isSo_440 : decode cL_isSo 440 = .ok (.iconst 0, 1) := by decide +kernel
theorem dL_isSo_441 : decode cL_isSo 441 = .ok (.iaload, 1) := by decide +kernel
theorem dL_isSo_442 : decode cL_isSo 442 = .ok (.if_icmp .ne 194, 3) := by decide +kernel
theorem dL_isSo_445 : decode cL_isSo 445 = .ok (.aload_n 0, 1) := by decide +kernel
theorem dL_isSo_446 : decode cL_isSo 446 = .ok (.iconst 2, 1) := by decide +kernel
theorem dL_isSo_447 : decode cL_isSo 447 = .ok (.invokevirtual 98, 3) := by decide +kernel
theorem dL_isSo_450 : decode cL_isSo 450 = .ok (.aload_n 1, 1) := by decide +kernel
theorem dL_isSo_451 : decode cL_isSo 451 = .ok (.iconst 1, 1) := by decide +kernel
theorem dL_isSo_452 : decode cL_isSo 452 = .ok (.iaload, 1) := by decide +kernel
theorem dL_isSo_453 : decode cL_isSo 453 = .ok (.if_icmp .ne 183, 3) := by decide +kernel
theorem dL_isSo_456 : decode cL_isSo 456 = .ok (.aload_n 0, 1) := by decide +kernel
theorem dL_isSo_457 : decode cL_isSo 457 = .ok (.iconst 3, 1) := by decide +kernel
theorem dL_isSo_458 : decode cL_isSo 458 = .ok (.invokevirtual 98, 3) := by decide +kernel
theorem dL_isSo_461 : decode cL_isSo 461 = .ok (.aload_n 1, 1) := by decide +kernel
theorem dL_isSo_462 : decode cL_isSo 462 = .ok (.bipush 12, 2) := by decide +kernel
theorem dL_isSo_464 : decode cL_isSo 464 = .ok (.iaload, 1) := by decide +kernel
theorem dL_isSo_465 : decode cL_isSo 465 = .ok (.if_icmp .ne 171, 3) := by decide +kernel
theorem dL_isSo_468 : decode cL_isSo 468 = .ok (.aload_n 0, 1) := by decide +kernel
theorem dL_isSo_469 : decode cL_isSo 469 = .ok (.iconst 4, 1) := by decide +kernel
theorem dL_isSo_470 : decode cL_isSo 470 = .ok (.invokevirtual 98, 3) := by decide +kernel
theorem dL_isSo_473 : decode cL_isSo 473 = .ok (.aload_n 1, 1) := by decide +kernel
theorem dL_isSo_474 : decode cL_isSo 474 = .ok (.bipush 12, 2) := by decide +kernel
theorem dL_isSo_476 : decode cL_isSo 476 = .ok (.iaload, 1) := by decide +kernel
theorem dL_isSo_477 : decode cL_isSo 477 = .ok (.ifCond .ne 8, 3) := by decide +kernel
theorem dL_isSo_480 : decode cL_isSo 480 = .ok (.ldc 94, 2) := by decide +kernel
theorem dL_isSo_482 : decode cL_isSo 482 = .ok (.goto 9, 3) := by decide +kernel
theorem dL_isSo_485 : decode cL_isSo 485 = .ok (.aload_n 1, 1) := by decide +kernel
theorem dL_isSo_486 : decode cL_isSo 486 = .ok (.bipush 12, 2) := by decide +kernel
theorem dL_isSo_488 : decode cL_isSo 488 = .ok (.iaload, 1) := by decide +kernel
theorem dL_isSo_489 : decode cL_isSo 489 = .ok (.iconst 1, 1) := by decide +kernel
theorem dL_isSo_490 : decode cL_isSo 490 = .ok (.isub, 1) := by decide +kernel
theorem dL_isSo_491 : decode cL_isSo 491 = .ok (.if_icmp .ne 145, 3) := by decide +kernel
theorem dL_isSo_494 : decode cL_isSo 494 = .ok (.aload_n 0, 1) := by decide +kernel
theorem dL_isSo_495 : decode cL_isSo 495 = .ok (.iconst 5, 1) := by decide +kernel
theorem dL_isSo_496 : decode cL_isSo 496 = .ok (.invokevirtual 98, 3) := by decide +kernel
theorem dL_isSo_499 : decode cL_isSo 499 = .ok (.aload_n 1, 1) := by decide +kernel
theorem dL_isSo_500 : decode cL_isSo 500 = .ok (.bipush 15, 2) := by decide +kernel
theorem dL_isSo_502 : decode cL_isSo 502 = .ok (.iaload, 1) := by decide +kernel
theorem dL_isSo_503 : decode cL_isSo 503 = .ok (.ifCond .ne 8, 3) := by decide +kernel
theorem dL_isSo_506 : decode cL_isSo 506 = .ok (.ldc 94, 2) := by decide +kernel
theorem dL_isSo_508 : decode cL_isSo 508 = .ok (.goto 7, 3) := by decide +kernel
theorem dL_isSo_511 : decode cL_isSo 511 = .ok (.aload_n 1, 1) := by decide +kernel
theorem dL_isSo_512 : decode cL_isSo 512 = .ok (.bipush 15, 2) := by decide +kernel
theorem dL_isSo_514 : decode cL_isSo 514 = .ok (.iaload, 1) := by decide +kernel
theorem dL_isSo_515 : decode cL_isSo 515 = .ok (.if_icmp .ne 121, 3) := by decide +kernel
theorem dL_isSo_518 : decode cL_isSo 518 = .ok (.aload_n 0, 1) := by decide +kernel
theorem dL_isSo_519 : decode cL_isSo 519 = .ok (.bipush 6, 2) := by decide +kernel
theorem dL_isSo_521 : decode cL_isSo 521 = .ok (.invokevirtual 98, 3) := by decide +kernel
theorem dL_isSo_524 : decode cL_isSo 524 = .ok (.aload_n 1, 1) := by decide +kernel
theorem dL_isSo_525 : decode cL_isSo 525 = .ok (.bipush 15, 2) := by decide +kernel
theorem dL_isSo_527 : decode cL_isSo 527 = .ok (.iaload, 1) := by decide +kernel
theorem dL_isSo_528 : decode cL_isSo 528 = .ok (.ifCond .ne 8, 3) := by decide +kernel
theorem dL_isSo_531 : decode cL_isSo 531 = .ok (.ldc 94, 2) := by decide +kernel
theorem dL_isSo_533 : decode cL_isSo 533 = .ok (.goto 7, 3) := by decide +kernel
theorem dL_isSo_536 : decode cL_isSo 536 = .ok (.aload_n 1, 1) := by decide +kernel
theorem dL_isSo_537 : decode cL_isSo 537 = .ok (.bipush 16, 2) := by decide +kernel
theorem dL_isSo_539 : decode cL_isSo 539 = .ok (.iaload, 1) := by decide +kernel
theorem dL_isSo_540 : decode cL_isSo 540 = .ok (.if_icmp .ne 96, 3) := by decide +kernel
theorem dL_isSo_543 : decode cL_isSo 543 = .ok (.aload_n 0, 1) := by decide +kernel
theorem dL_isSo_544 : decode cL_isSo 544 = .ok (.bipush 7, 2) := by decide +kernel
theorem dL_isSo_546 : decode cL_isSo 546 = .ok (.invokevirtual 98, 3) := by decide +kernel
theorem dL_isSo_549 : decode cL_isSo 549 = .ok (.aload_n 1, 1) := by decide +kernel
theorem dL_isSo_550 : decode cL_isSo 550 = .ok (.iconst 2, 1) := by decide +kernel
theorem dL_isSo_551 : decode cL_isSo 551 = .ok (.iaload, 1) := by decide +kernel
theorem dL_isSo_552 : decode cL_isSo 552 = .ok (.if_icmp .ne 84, 3) := by decide +kernel
theorem dL_isSo_555 : decode cL_isSo 555 = .ok (.aload_n 0, 1) := by decide +kernel
theorem dL_isSo_556 : decode cL_isSo 556 = .ok (.bipush 8, 2) := by decide +kernel
theorem dL_isSo_558 : decode cL_isSo 558 = .ok (.invokevirtual 98, 3) := by decide +kernel
theorem dL_isSo_561 : decode cL_isSo 561 = .ok (.aload_n 2, 1) := by decide +kernel
theorem dL_isSo_562 : decode cL_isSo 562 = .ok (.iconst 0, 1) := by decide +kernel
theorem dL_isSo_563 : decode cL_isSo 563 = .ok (.bipush 11, 2) := by decide +kernel
theorem dL_isSo_565 : decode cL_isSo 565 = .ok (.invokestatic 9, 3) := by decide +kernel
theorem dL_isSo_568 : decode cL_isSo 568 = .ok (.if_icmp .ne 68, 3) := by decide +kernel
theorem dL_isSo_571 : decode cL_isSo 571 = .ok (.aload_n 0, 1) := by decide +kernel
theorem dL_isSo_572 : decode cL_isSo 572 = .ok (.bipush 9, 2) := by decide +kernel
theorem dL_isSo_574 : decode cL_isSo 574 = .ok (.invokevirtual 98, 3) := by decide +kernel
theorem dL_isSo_577 : decode cL_isSo 577 = .ok (.iload 7, 2) := by decide +kernel
theorem dL_isSo_579 : decode cL_isSo 579 = .ok (.if_icmp .ne 57, 3) := by decide +kernel
theorem dL_isSo_582 : decode cL_isSo 582 = .ok (.aload_n 0, 1) := by decide +kernel
theorem dL_isSo_583 : decode cL_isSo 583 = .ok (.bipush 10, 2) := by decide +kernel
theorem dL_isSo_585 : decode cL_isSo 585 = .ok (.invokevirtual 98, 3) := by decide +kernel
theorem dL_isSo_588 : decode cL_isSo 588 = .ok (.aload_n 1, 1) := by decide +kernel
theorem dL_isSo_589 : decode cL_isSo 589 = .ok (.bipush 9, 2) := by decide +kernel
theorem dL_isSo_591 : decode cL_isSo 591 = .ok (.iaload, 1) := by decide +kernel
theorem dL_isSo_592 : decode cL_isSo 592 = .ok (.if_icmp .ne 44, 3) := by decide +kernel
theorem dL_isSo_595 : decode cL_isSo 595 = .ok (.aload_n 0, 1) := by decide +kernel
theorem dL_isSo_596 : decode cL_isSo 596 = .ok (.bipush 11, 2) := by decide +kernel
theorem dL_isSo_598 : decode cL_isSo 598 = .ok (.invokevirtual 98, 3) := by decide +kernel
theorem dL_isSo_601 : decode cL_isSo 601 = .ok (.iload 8, 2) := by decide +kernel
theorem dL_isSo_603 : decode cL_isSo 603 = .ok (.if_icmp .ne 33, 3) := by decide +kernel
theorem dL_isSo_606 : decode cL_isSo 606 = .ok (.aload_n 0, 1) := by decide +kernel
theorem dL_isSo_607 : decode cL_isSo 607 = .ok (.bipush 12, 2) := by decide +kernel
theorem dL_isSo_609 : decode cL_isSo 609 = .ok (.invokevirtual 98, 3) := by decide +kernel
theorem dL_isSo_612 : decode cL_isSo 612 = .ok (.aload_n 1, 1) := by decide +kernel
theorem dL_isSo_613 : decode cL_isSo 613 = .ok (.bipush 10, 2) := by decide +kernel
theorem dL_isSo_615 : decode cL_isSo 615 = .ok (.iaload, 1) := by decide +kernel
theorem dL_isSo_616 : decode cL_isSo 616 = .ok (.if_icmp .ne 20, 3) := by decide +kernel
theorem dL_isSo_619 : decode cL_isSo 619 = .ok (.aload_n 0, 1) := by decide +kernel
theorem dL_isSo_620 : decode cL_isSo 620 = .ok (.bipush 13, 2) := by decide +kernel
theorem dL_isSo_622 : decode cL_isSo 622 = .ok (.invokevirtual 98, 3) := by decide +kernel
theorem dL_isSo_625 : decode cL_isSo 625 = .ok (.aload_n 1, 1) := by decide +kernel
theorem dL_isSo_626 : decode cL_isSo 626 = .ok (.bipush 14, 2) := by decide +kernel
theorem dL_isSo_628 : decode cL_isSo 628 = .ok (.iaload, 1) := by decide +kernel
theorem dL_isSo_629 : decode cL_isSo 629 = .ok (.if_icmp .ne 7, 3) := by decide +kernel
theorem dL_isSo_632 : decode cL_isSo 632 = .ok (.iconst 1, 1) := by decide +kernel
theorem dL_isSo_633 : decode cL_isSo 633 = .ok (.goto 4, 3) := by decide +kernel
theorem dL_isSo_636 : decode cL_isSo 636 = .ok (.iconst 0, 1) := by decide +kernel
theorem dL_isSo_637 : decode cL_isSo 637 = .ok (.istore 6, 2) := by decide +kernel
theorem dL_isSo_639 : decode cL_isSo 639 = .ok (.iload 6, 2) := by decide +kernel
theorem dL_isSo_641 : decode cL_isSo 641 = .ok (.ifCond .eq 50, 3) := by decide +kernel
theorem dL_isSo_644 : decode cL_isSo 644 = .ok (.aload_n 0, 1) := by decide +kernel
theorem dL_isSo_645 : decode cL_isSo 645 = .ok (.bipush 10, 2) := by decide +kernel
theorem dL_isSo_647 : decode cL_isSo 647 = .ok (.invokevirtual 98, 3) := by decide +kernel
theorem dL_isSo_650 : decode cL_isSo 650 = .ok (.aload_n 0, 1) := by decide +kernel
theorem dL_isSo_651 : decode cL_isSo 651 = .ok (.bipush 8, 2) := by decide +kernel
theorem dL_isSo_653 : decode cL_isSo 653 = .ok (.invokevirtual 98, 3) := by decide +kernel
theorem dL_isSo_656 : decode cL_isSo 656 = .ok (.aload_n 0, 1) := by decide +kernel
theorem dL_isSo_657 : decode cL_isSo 657 = .ok (.bipush 9, 2) := by decide +kernel
theorem dL_isSo_659 : decode cL_isSo 659 = .ok (.invokevirtual 98, 3) := by decide +kernel
theorem dL_isSo_662 : decode cL_isSo 662 = .ok (.iadd, 1) := by decide +kernel
theorem dL_isSo_663 : decode cL_isSo 663 = .ok (.aload_n 0, 1) := by decide +kernel
theorem dL_isSo_664 : decode cL_isSo 664 = .ok (.bipush 11, 2) := by decide +kernel
theorem dL_isSo_666 : decode cL_isSo 666 = .ok (.invokevirtual 98, 3) := by decide +kernel
theorem dL_isSo_669 : decode cL_isSo 669 = .ok (.iadd, 1) := by decide +kernel
theorem dL_isSo_670 : decode cL_isSo 670 = .ok (.aload_n 0, 1) := by decide +kernel
theorem dL_isSo_671 : decode cL_isSo 671 = .ok (.bipush 12, 2) := by decide +kernel
theorem dL_isSo_673 : decode cL_isSo 673 = .ok (.invokevirtual 98, 3) := by decide +kernel
theorem dL_isSo_676 : decode cL_isSo 676 = .ok (.iadd, 1) := by decide +kernel
theorem dL_isSo_677 : decode cL_isSo 677 = .ok (.if_icmp .ne 14, 3) := by decide +kernel
theorem dL_isSo_680 : decode cL_isSo 680 = .ok (.iload 9, 2) := by decide +kernel
theorem dL_isSo_682 : decode cL_isSo 682 = .ok (.iload 8, 2) := by decide +kernel
theorem dL_isSo_684 : decode cL_isSo 684 = .ok (.if_icmp .ne 7, 3) := by decide +kernel
theorem dL_isSo_687 : decode cL_isSo 687 = .ok (.iconst 1, 1) := by decide +kernel
theorem dL_isSo_688 : decode cL_isSo 688 = .ok (.goto 4, 3) := by decide +kernel
theorem dL_isSo_691 : decode cL_isSo 691 = .ok (.iconst 0, 1) := by decide +kernel
theorem dL_isSo_692 : decode cL_isSo 692 = .ok (.istore 6, 2) := by decide +kernel
theorem dL_isSo_694 : decode cL_isSo 694 = .ok (.aload_n 1, 1) := by decide +kernel
theorem dL_isSo_695 : decode cL_isSo 695 = .ok (.iconst 5, 1) := by decide +kernel
theorem dL_isSo_696 : decode cL_isSo 696 = .ok (.iaload, 1) := by decide +kernel
theorem dL_isSo_697 : decode cL_isSo 697 = .ok (.i2l, 1) := by decide +kernel
theorem dL_isSo_698 : decode cL_isSo 698 = .ok (.aload_n 1, 1) := by decide +kernel
theorem dL_isSo_699 : decode cL_isSo 699 = .ok (.bipush 7, 2) := by decide +kernel
theorem dL_isSo_701 : decode cL_isSo 701 = .ok (.iaload, 1) := by decide +kernel
theorem dL_isSo_702 : decode cL_isSo 702 = .ok (.i2l, 1) := by decide +kernel
theorem dL_isSo_703 : decode cL_isSo 703 = .ok (.lmul, 1) := by decide +kernel
theorem dL_isSo_704 : decode cL_isSo 704 = .ok (.ldc2_w 63, 3) := by decide +kernel
theorem dL_isSo_707 : decode cL_isSo 707 = .ok (.ldiv, 1) := by decide +kernel
theorem dL_isSo_708 : decode cL_isSo 708 = .ok (.lstore 10, 2) := by decide +kernel
theorem dL_isSo_710 : decode cL_isSo 710 = .ok (.iload 6, 2) := by decide +kernel
theorem dL_isSo_712 : decode cL_isSo 712 = .ok (.ifCond .eq 137, 3) := by decide +kernel
theorem dL_isSo_715 : decode cL_isSo 715 = .ok (.aload_n 0, 1) := by decide +kernel
theorem dL_isSo_716 : decode cL_isSo 716 = .ok (.iconst 0, 1) := by decide +kernel
theorem dL_isSo_717 : decode cL_isSo 717 = .ok (.invokevirtual 101, 3) := by decide +kernel
theorem dL_isSo_720 : decode cL_isSo 720 = .ok (.aload_n 2, 1) := by decide +kernel
theorem dL_isSo_721 : decode cL_isSo 721 = .ok (.iconst 4, 1) := by decide +kernel
theorem dL_isSo_722 : decode cL_isSo 722 = .ok (.bipush 7, 2) := by decide +kernel
theorem dL_isSo_724 : decode cL_isSo 724 = .ok (.invokestatic 9, 3) := by decide +kernel
theorem dL_isSo_727 : decode cL_isSo 727 = .ok (.aload_n 1, 1) := by decide +kernel
theorem dL_isSo_728 : decode cL_isSo 728 = .ok (.iconst 3, 1) := by decide +kernel
theorem dL_isSo_729 : decode cL_isSo 729 = .ok (.iaload, 1) := by decide +kernel
theorem dL_isSo_730 : decode cL_isSo 730 = .ok (.iadd, 1) := by decide +kernel
theorem dL_isSo_731 : decode cL_isSo 731 = .ok (.aload_n 1, 1) := by decide +kernel
theorem dL_isSo_732 : decode cL_isSo 732 = .ok (.iconst 4, 1) := by decide +kernel
theorem dL_isSo_733 : decode cL_isSo 733 = .ok (.iaload, 1) := by decide +kernel
theorem dL_isSo_734 : decode cL_isSo 734 = .ok (.isub, 1) := by decide +kernel
theorem dL_isSo_735 : decode cL_isSo 735 = .ok (.ldc 58, 2) := by decide +kernel
theorem dL_isSo_737 : decode cL_isSo 737 = .ok (.iadd, 1) := by decide +kernel
theorem dL_isSo_738 : decode cL_isSo 738 = .ok (.if_icmp .ne 111, 3) := by decide +kernel
theorem dL_isSo_741 : decode cL_isSo 741 = .ok (.aload_n 0, 1) := by decide +kernel
theorem dL_isSo_742 : decode cL_isSo 742 = .ok (.iconst 1, 1) := by decide +kernel
theorem dL_isSo_743 : decode cL_isSo 743 = .ok (.invokevirtual 101, 3) := by decide +kernel
theorem dL_isSo_746 : decode cL_isSo 746 = .ok (.aload_n 1, 1) := by decide +kernel
theorem dL_isSo_747 : decode cL_isSo 747 = .ok (.iconst 3, 1) := by decide +kernel
theorem dL_isSo_748 : decode cL_isSo 748 = .ok (.iaload, 1) := by decide +kernel
theorem dL_isSo_749 : decode cL_isSo 749 = .ok (.ldc 58, 2) := by decide +kernel
theorem dL_isSo_751 : decode cL_isSo 751 = .ok (.iadd, 1) := by decide +kernel
theorem dL_isSo_752 : decode cL_isSo 752 = .ok (.if_icmp .ne 97, 3) := by decide +kernel
theorem dL_isSo_755 : decode cL_isSo 755 = .ok (.aload_n 0, 1) := by decide +kernel
theorem dL_isSo_756 : decode cL_isSo 756 = .ok (.iconst 2, 1) := by decide +kernel
theorem dL_isSo_757 : decode cL_isSo 757 = .ok (.invokevirtual 101, 3) := by decide +kernel
theorem dL_isSo_760 : decode cL_isSo 760 = .ok (.aload_n 1, 1) := by decide +kernel
theorem dL_isSo_761 : decode cL_isSo 761 = .ok (.iconst 4, 1) := by decide +kernel
theorem dL_isSo_762 : decode cL_isSo 762 = .ok (.iaload, 1) := by decide +kernel
theorem dL_isSo_763 : decode cL_isSo 763 = .ok (.ldc 58, 2) := by decide +kernel
theorem dL_isSo_765 : decode cL_isSo 765 = .ok (.iadd, 1) := by decide +kernel
theorem dL_isSo_766 : decode cL_isSo 766 = .ok (.if_icmp .ne 83, 3) := by decide +kernel
theorem dL_isSo_769 : decode cL_isSo 769 = .ok (.aload_n 0, 1) := by decide +kernel
theorem dL_isSo_770 : decode cL_isSo 770 = .ok (.iconst 3, 1) := by decide +kernel
theorem dL_isSo_771 : decode cL_isSo 771 = .ok (.invokevirtual 101, 3) := by decide +kernel
theorem dL_isSo_774 : decode cL_isSo 774 = .ok (.aload_n 1, 1) := by decide +kernel
theorem dL_isSo_775 : decode cL_isSo 775 = .ok (.iconst 5, 1) := by decide +kernel
theorem dL_isSo_776 : decode cL_isSo 776 = .ok (.iaload, 1) := by decide +kernel
theorem dL_isSo_777 : decode cL_isSo 777 = .ok (.ldc 83, 2) := by decide +kernel
theorem dL_isSo_779 : decode cL_isSo 779 = .ok (.iadd, 1) := by decide +kernel
theorem dL_isSo_780 : decode cL_isSo 780 = .ok (.if_icmp .ne 69, 3) := by decide +kernel
theorem dL_isSo_783 : decode cL_isSo 783 = .ok (.aload_n 0, 1) := by decide +kernel
theorem dL_isSo_784 : decode cL_isSo 784 = .ok (.iconst 4, 1) := by decide +kernel
theorem dL_isSo_785 : decode cL_isSo 785 = .ok (.invokevirtual 101, 3) := by decide +kernel
theorem dL_isSo_788 : decode cL_isSo 788 = .ok (.i2l, 1) := by decide +kernel
theorem dL_isSo_789 : decode cL_isSo 789 = .ok (.lload 10, 2) := by decide +kernel
theorem dL_isSo_791 : decode cL_isSo 791 = .ok (.ldc2_w 104, 3) := by decide +kernel
theorem dL_isSo_794 : decode cL_isSo 794 = .ok (.ladd, 1) := by decide +kernel
theorem dL_isSo_795 : decode cL_isSo 795 = .ok (.lcmp, 1) := by decide +kernel
theorem dL_isSo_796 : decode cL_isSo 796 = .ok (.ifCond .ne 53, 3) := by decide +kernel
theorem dL_isSo_799 : decode cL_isSo 799 = .ok (.aload_n 0, 1) := by decide +kernel
theorem dL_isSo_800 : decode cL_isSo 800 = .ok (.iconst 5, 1) := by decide +kernel
theorem dL_isSo_801 : decode cL_isSo 801 = .ok (.invokevirtual 101, 3) := by decide +kernel
theorem dL_isSo_804 : decode cL_isSo 804 = .ok (.aload_n 1, 1) := by decide +kernel
theorem dL_isSo_805 : decode cL_isSo 805 = .ok (.bipush 7, 2) := by decide +kernel
theorem dL_isSo_807 : decode cL_isSo 807 = .ok (.iaload, 1) := by decide +kernel
theorem dL_isSo_808 : decode cL_isSo 808 = .ok (.if_icmp .ne 41, 3) := by decide +kernel
theorem dL_isSo_811 : decode cL_isSo 811 = .ok (.aload_n 0, 1) := by decide +kernel
theorem dL_isSo_812 : decode cL_isSo 812 = .ok (.bipush 6, 2) := by decide +kernel
theorem dL_isSo_814 : decode cL_isSo 814 = .ok (.invokevirtual 101, 3) := by decide +kernel
theorem dL_isSo_817 : decode cL_isSo 817 = .ok (.aload_n 1, 1) := by decide +kernel
theorem dL_isSo_818 : decode cL_isSo 818 = .ok (.bipush 8, 2) := by decide +kernel
theorem dL_isSo_820 : decode cL_isSo 820 = .ok (.iaload, 1) := by decide +kernel
theorem dL_isSo_821 : decode cL_isSo 821 = .ok (.if_icmp .ne 28, 3) := by decide +kernel
theorem dL_isSo_824 : decode cL_isSo 824 = .ok (.aload_n 0, 1) := by decide +kernel
theorem dL_isSo_825 : decode cL_isSo 825 = .ok (.invokevirtual 106, 3) := by decide +kernel
theorem dL_isSo_828 : decode cL_isSo 828 = .ok (.i2l, 1) := by decide +kernel
theorem dL_isSo_829 : decode cL_isSo 829 = .ok (.lload 10, 2) := by decide +kernel
theorem dL_isSo_831 : decode cL_isSo 831 = .ok (.aload_n 1, 1) := by decide +kernel
theorem dL_isSo_832 : decode cL_isSo 832 = .ok (.bipush 11, 2) := by decide +kernel
theorem dL_isSo_834 : decode cL_isSo 834 = .ok (.iaload, 1) := by decide +kernel
theorem dL_isSo_835 : decode cL_isSo 835 = .ok (.i2l, 1) := by decide +kernel
theorem dL_isSo_836 : decode cL_isSo 836 = .ok (.lsub, 1) := by decide +kernel
theorem dL_isSo_837 : decode cL_isSo 837 = .ok (.ldc2_w 104, 3) := by decide +kernel
theorem dL_isSo_840 : decode cL_isSo 840 = .ok (.ladd, 1) := by decide +kernel
theorem dL_isSo_841 : decode cL_isSo 841 = .ok (.lcmp, 1) := by decide +kernel
theorem dL_isSo_842 : decode cL_isSo 842 = .ok (.ifCond .ne 7, 3) := by decide +kernel
theorem dL_isSo_845 : decode cL_isSo 845 = .ok (.iconst 1, 1) := by decide +kernel
theorem dL_isSo_846 : decode cL_isSo 846 = .ok (.goto 4, 3) := by decide +kernel
theorem dL_isSo_849 : decode cL_isSo 849 = .ok (.iconst 0, 1) := by decide +kernel
theorem dL_isSo_850 : decode cL_isSo 850 = .ok (.istore 6, 2) := by decide +kernel
theorem dL_isSo_852 : decode cL_isSo 852 = .ok (.iload 6, 2) := by decide +kernel
theorem dL_isSo_854 : decode cL_isSo 854 = .ok (.ifCond .eq 41, 3) := by decide +kernel
theorem dL_isSo_857 : decode cL_isSo 857 = .ok (.aload_n 0, 1) := by decide +kernel
theorem dL_isSo_858 : decode cL_isSo 858 = .ok (.bipush 15, 2) := by decide +kernel
theorem dL_isSo_860 : decode cL_isSo 860 = .ok (.invokevirtual 98, 3) := by decide +kernel
theorem dL_isSo_863 : decode cL_isSo 863 = .ok (.ifCond .ne 32, 3) := by decide +kernel
theorem dL_isSo_866 : decode cL_isSo 866 = .ok (.aload_n 0, 1) := by decide +kernel
theorem dL_isSo_867 : decode cL_isSo 867 = .ok (.bipush 7, 2) := by decide +kernel
theorem dL_isSo_869 : decode cL_isSo 869 = .ok (.invokevirtual 101, 3) := by decide +kernel
theorem dL_isSo_872 : decode cL_isSo 872 = .ok (.ldc 62, 2) := by decide +kernel
theorem dL_isSo_874 : decode cL_isSo 874 = .ok (.if_icmp .ne 21, 3) := by decide +kernel
theorem dL_isSo_877 : decode cL_isSo 877 = .ok (.aload_n 0, 1) := by decide +kernel
theorem dL_isSo_878 : decode cL_isSo 878 = .ok (.aload_n 1, 1) := by decide +kernel
theorem dL_isSo_879 : decode cL_isSo 879 = .ok (.bipush 14, 2) := by decide +kernel
theorem dL_isSo_881 : decode cL_isSo 881 = .ok (.iaload, 1) := by decide +kernel
theorem dL_isSo_882 : decode cL_isSo 882 = .ok (.iconst 0, 1) := by decide +kernel
theorem dL_isSo_883 : decode cL_isSo 883 = .ok (.invokevirtual 95, 3) := by decide +kernel
theorem dL_isSo_886 : decode cL_isSo 886 = .ok (.ldc 62, 2) := by decide +kernel
theorem dL_isSo_888 : decode cL_isSo 888 = .ok (.if_icmp .ne 7, 3) := by decide +kernel
theorem dL_isSo_891 : decode cL_isSo 891 = .ok (.iconst 1, 1) := by decide +kernel
theorem dL_isSo_892 : decode cL_isSo 892 = .ok (.goto 4, 3) := by decide +kernel
theorem dL_isSo_895 : decode cL_isSo 895 = .ok (.iconst 0, 1) := by decide +kernel
theorem dL_isSo_896 : decode cL_isSo 896 = .ok (.ireturn, 1) := by decide +kernel
theorem dL_law_0 : decode cL_law 0 = .ok (.new 24, 3) := by decide +kernel
theorem dL_law_3 : decode cL_law 3 = .ok (.dup, 1) := by decide +kernel
theorem dL_law_4 : decode cL_law 4 = .ok (.invokespecial 109, 3) := by decide +kernel
theorem dL_law_7 : decode cL_law 7 = .ok (.astore_n 1, 1) := by decide +kernel
theorem dL_law_8 : decode cL_law 8 = .ok (.bipush 21, 2) := by decide +kernel
theorem dL_law_10 : decode cL_law 10 = .ok (.newarray .int, 2) := by decide +kernel
theorem dL_law_12 : decode cL_law 12 = .ok (.astore_n 2, 1) := by decide +kernel
theorem dL_law_13 : decode cL_law 13 = .ok (.bipush 48, 2) := by decide +kernel
theorem dL_law_15 : decode cL_law 15 = .ok (.newarray .int, 2) := by decide +kernel
theorem dL_law_17 : decode cL_law 17 = .ok (.astore_n 3, 1) := by decide +kernel
theorem dL_law_18 : decode cL_law 18 = .ok (.bipush 12, 2) := by decide +kernel
theorem dL_law_20 : decode cL_law 20 = .ok (.newarray .int, 2) := by decide +kernel
theorem dL_law_22 : decode cL_law 22 = .ok (.astore 4, 2) := by decide +kernel
theorem dL_law_24 : decode cL_law 24 = .ok (.bipush 48, 2) := by decide +kernel
theorem dL_law_26 : decode cL_law 26 = .ok (.newarray .int, 2) := by decide +kernel
theorem dL_law_28 : decode cL_law 28 = .ok (.astore 5, 2) := by decide +kernel
theorem dL_law_30 : decode cL_law 30 = .ok (.bipush 20, 2) := by decide +kernel
theorem dL_law_32 : decode cL_law 32 = .ok (.newarray .int, 2) := by decide +kernel
theorem dL_law_34 : decode cL_law 34 = .ok (.astore 6, 2) := by decide +kernel
theorem dL_law_36 : decode cL_law 36 = .ok (.aload_n 2, 1) := by decide +kernel
theorem dL_law_37 : decode cL_law 37 = .ok (.iconst 0, 1) := by decide +kernel
theorem dL_law_38 : decode cL_law 38 = .ok (.bipush 50, 2) := by decide +kernel
theorem dL_law_40 : decode cL_law 40 = .ok (.iastore, 1) := by decide +kernel
theorem dL_law_41 : decode cL_law 41 = .ok (.aload_n 2, 1) := by decide +kernel
theorem dL_law_42 : decode cL_law 42 = .ok (.bipush 7, 2) := by decide +kernel
theorem dL_law_44 : decode cL_law 44 = .ok (.sipush 1000, 3) := by decide +kernel
theorem dL_law_47 : decode cL_law 47 = .ok (.iastore, 1) := by decide +kernel
theorem dL_law_48 : decode cL_law 48 = .ok (.aload_n 2, 1) := by decide +kernel
theorem dL_law_49 : decode cL_law 49 = .ok (.bipush 14, 2) := by decide +kernel
theorem dL_law_51 : decode cL_law 51 = .ok (.iconst 1, 1) := by decide +kernel
theorem dL_law_52 : decode cL_law 52 = .ok (.iastore, 1) := by decide +kernel
theorem dL_law_53 : decode cL_law 53 = .ok (.aload_n 2, 1) := by decide +kernel
theorem dL_law_54 : decode cL_law 54 = .ok (.bipush 18, 2) := by decide +kernel
theorem dL_law_56 : decode cL_law 56 = .ok (.bipush 120, 2) := by decide +kernel
theorem dL_law_58 : decode cL_law 58 = .ok (.iastore, 1) := by decide +kernel
theorem dL_law_59 : decode cL_law 59 = .ok (.aload_n 2, 1) := by decide +kernel
theorem dL_law_60 : decode cL_law 60 = .ok (.bipush 19, 2) := by decide +kernel
theorem dL_law_62 : decode cL_law 62 = .ok (.bipush 20, 2) := by decide +kernel
theorem dL_law_64 : decode cL_law 64 = .ok (.iastore, 1) := by decide +kernel
theorem dL_law_65 : decode cL_law 65 = .ok (.aload_n 2, 1) := by decide +kernel
theorem dL_law_66 : decode cL_law 66 = .ok (.bipush 20, 2) := by decide +kernel
theorem dL_law_68 : decode cL_law 68 = .ok (.iconst 1, 1) := by decide +kernel
theorem dL_law_69 : decode cL_law 69 = .ok (.iastore, 1) := by decide +kernel
theorem dL_law_70 : decode cL_law 70 = .ok (.aload 6, 2) := by decide +kernel
theorem dL_law_72 : decode cL_law 72 = .ok (.iconst 0, 1) := by decide +kernel
theorem dL_law_73 : decode cL_law 73 = .ok (.ldc 94, 2) := by decide +kernel
theorem dL_law_75 : decode cL_law 75 = .ok (.iastore, 1) := by decide +kernel
theorem dL_law_76 : decode cL_law 76 = .ok (.aload_n 1, 1) := by decide +kernel
theorem dL_law_77 : decode cL_law 77 = .ok (.aload_n 2, 1) := by decide +kernel
theorem dL_law_78 : decode cL_law 78 = .ok (.aload_n 3, 1) := by decide +kernel
theorem dL_law_79 : decode cL_law 79 = .ok (.aload 4, 2) := by decide +kernel
theorem dL_law_81 : decode cL_law 81 = .ok (.aload 5, 2) := by decide +kernel
theorem dL_law_83 : decode cL_law 83 = .ok (.aload 6, 2) := by decide +kernel
theorem dL_law_85 : decode cL_law 85 = .ok (.invokestatic 110, 3) := by decide +kernel
theorem dL_law_88 : decode cL_law 88 = .ok (.istore 7, 2) := by decide +kernel
theorem dL_law_90 : decode cL_law 90 = .ok (.iconst 0, 1) := by decide +kernel
theorem dL_law_91 : decode cL_law 91 = .ok (.istore 8, 2) := by decide +kernel
theorem dL_law_93 : decode cL_law 93 = .ok (.iload 8, 2) := by decide +kernel
theorem dL_law_95 : decode cL_law 95 = .ok (.iconst 3, 1) := by decide +kernel
theorem dL_law_96 : decode cL_law 96 = .ok (.if_icmp .ge 61, 3) := by decide +kernel
theorem dL_law_99 : decode cL_law 99 = .ok (.iload 7, 2) := by decide +kernel
theorem dL_law_101 : decode cL_law 101 = .ok (.ifCond .eq 56, 3) := by decide +kernel
theorem dL_law_104 : decode cL_law 104 = .ok (.aload_n 1, 1) := by decide +kernel
theorem dL_law_105 : decode cL_law 105 = .ok (.aload_n 2, 1) := by decide +kernel
theorem dL_law_106 : decode cL_law 106 = .ok (.aload_n 3, 1) := by decide +kernel
theorem dL_law_107 : decode cL_law 107 = .ok (.aload 4, 2) := by decide +kernel
theorem dL_law_109 : decode cL_law 109 = .ok (.aload 5, 2) := by decide +kernel
theorem dL_law_111 : decode cL_law 111 = .ok (.aload 6, 2) := by decide +kernel
theorem dL_law_113 : decode cL_law 113 = .ok (.aload_n 0, 1) := by decide +kernel
theorem dL_law_114 : decode cL_law 114 = .ok (.iconst 1, 1) := by decide +kernel
theorem dL_law_115 : decode cL_law 115 = .ok (.iload 8, 2) := by decide +kernel
theorem dL_law_117 : decode cL_law 117 = .ok (.iadd, 1) := by decide +kernel
theorem dL_law_118 : decode cL_law 118 = .ok (.invokestatic 114, 3) := by decide +kernel
theorem dL_law_121 : decode cL_law 121 = .ok (.ldc 8, 2) := by decide +kernel
theorem dL_law_123 : decode cL_law 123 = .ok (.iand, 1) := by decide +kernel
theorem dL_law_124 : decode cL_law 124 = .ok (.sipush 832, 3) := by decide +kernel
theorem dL_law_127 : decode cL_law 127 = .ok (.idiv, 1) := by decide +kernel
theorem dL_law_128 : decode cL_law 128 = .ok (.sipush 832, 3) := by decide +kernel
theorem dL_law_131 : decode cL_law 131 = .ok (.imul, 1) := by decide +kernel
theorem dL_law_132 : decode cL_law 132 = .ok (.iload 8, 2) := by decide +kernel
theorem dL_law_134 : decode cL_law 134 = .ok (.iconst 1, 1) := by decide +kernel
theorem dL_law_135 : decode cL_law 135 = .ok (.if_icmp .ne 8, 3) := by decide +kernel
theorem dL_law_138 : decode cL_law 138 = .ok (.bipush 10, 2) := by decide +kernel
theorem dL_law_140 : decode cL_law 140 = .ok (.goto 5, 3) := by decide +kernel
theorem dL_law_143 : decode cL_law 143 = .ok (.bipush 14, 2) := by decide +kernel
theorem dL_law_145 : decode cL_law 145 = .ok (.iadd, 1) := by decide +kernel
theorem dL_law_146 : decode cL_law 146 = .ok (.invokestatic 118, 3) := by decide +kernel
theorem dL_law_149 : decode cL_law 149 = .ok (.istore 7, 2) := by decide +kernel
theorem dL_law_151 : decode cL_law 151 = .ok (.iinc 8 1, 3) := by decide +kernel
theorem dL_law_154 : decode cL_law 154 = .ok (.goto (-61), 3) := by decide +kernel
theorem dL_law_157 : decode cL_law 157 = .ok (.bipush 12, 2) := by decide +kernel
theorem dL_law_159 : decode cL_law 159 = .ok (.aload_n 0, 1) := by decide +kernel
theorem dL_law_160 : decode cL_law 160 = .ok (.iconst 0, 1) := by decide +kernel
theorem dL_law_161 : decode cL_law 161 = .ok (.invokestatic 114, 3) := by decide +kernel
theorem dL_law_164 : decode cL_law 164 = .ok (.bipush 50, 2) := by decide +kernel
theorem dL_law_166 : decode cL_law 166 = .ok (.invokestatic 41, 3) := by decide +kernel
theorem dL_law_169 : decode cL_law 169 = .ok (.iadd, 1) := by decide +kernel
theorem dL_law_170 : decode cL_law 170 = .ok (.istore 8, 2) := by decide +kernel
theorem dL_law_172 : decode cL_law 172 = .ok (.iconst 0, 1) := by decide +kernel
theorem dL_law_173 : decode cL_law 173 = .ok (.istore 9, 2) := by decide +kernel
theorem dL_law_175 : decode cL_law 175 = .ok (.iload 9, 2) := by decide +kernel
theorem dL_law_177 : decode cL_law 177 = .ok (.iload 8, 2) := by decide +kernel
theorem dL_law_179 : decode cL_law 179 = .ok (.if_icmp .ge 66, 3) := by decide +kernel
theorem dL_law_182 : decode cL_law 182 = .ok (.iload 7, 2) := by decide +kernel
theorem dL_law_184 : decode cL_law 184 = .ok (.ifCond .eq 61, 3) := by decide +kernel
theorem dL_law_187 : decode cL_law 187 = .ok (.aload_n 1, 1) := by decide +kernel
theorem dL_law_188 : decode cL_law 188 = .ok (.aload_n 2, 1) := by decide +kernel
theorem dL_law_189 : decode cL_law 189 = .ok (.aload_n 3, 1) := by decide +kernel
theorem dL_law_190 : decode cL_law 190 = .ok (.aload 4, 2) := by decide +kernel
theorem dL_law_192 : decode cL_law 192 = .ok (.aload 5, 2) := by decide +kernel
theorem dL_law_194 : decode cL_law 194 = .ok (.aload 6, 2) := by decide +kernel
theorem dL_law_196 : decode cL_law 196 = .ok (.aload_n 0, 1) := by decide +kernel
theorem dL_law_197 : decode cL_law 197 = .ok (.iconst 4, 1) := by decide +kernel
theorem dL_law_198 : decode cL_law 198 = .ok (.iload 9, 2) := by decide +kernel
theorem dL_law_200 : decode cL_law 200 = .ok (.iadd, 1) := by decide +kernel
theorem dL_law_201 : decode cL_law 201 = .ok (.invokestatic 114, 3) := by decide +kernel
theorem dL_law_204 : decode cL_law 204 = .ok (.sipush 7919, 3) := by decide +kernel
theorem dL_law_207 : decode cL_law 207 = .ok (.iload 9, 2) := by decide +kernel
theorem dL_law_209 : decode cL_law 209 = .ok (.imul, 1) := by decide +kernel
theorem dL_law_210 : decode cL_law 210 = .ok (.ixor, 1) := by decide +kernel
theorem dL_law_211 : decode cL_law 211 = .ok (.invokestatic 118, 3) := by decide +kernel
theorem dL_law_214 : decode cL_law 214 = .ok (.ifCond .eq 22, 3) := by decide +kernel
theorem dL_law_217 : decode cL_law 217 = .ok (.aload_n 1, 1) := by decide +kernel
theorem dL_law_218 : decode cL_law 218 = .ok (.aload_n 2, 1) := by decide +kernel
theorem dL_law_219 : decode cL_law 219 = .ok (.aload_n 3, 1) := by decide +kernel
theorem dL_law_220 : decode cL_law 220 = .ok (.aload 4, 2) := by decide +kernel
theorem dL_law_222 : decode cL_law 222 = .ok (.aload 5, 2) := by decide +kernel
theorem dL_law_224 : decode cL_law 224 = .ok (.aload 6, 2) := by decide +kernel
theorem dL_law_226 : decode cL_law 226 = .ok (.invokestatic 110, 3) := by decide +kernel
theorem dL_law_229 : decode cL_law 229 = .ok (.ifCond .eq 7, 3) := by decide +kernel
theorem dL_law_232 : decode cL_law 232 = .ok (.iconst 1, 1) := by decide +kernel
theorem dL_law_233 : decode cL_law 233 = .ok (.goto 4, 3) := by decide +kernel
theorem dL_law_236 : decode cL_law 236 = .ok (.iconst 0, 1) := by decide +kernel
theorem dL_law_237 : decode cL_law 237 = .ok (.istore 7, 2) := by decide +kernel
theorem dL_law_239 : decode cL_law 239 = .ok (.iinc 9 1, 3) := by decide +kernel
theorem dL_law_242 : decode cL_law 242 = .ok (.goto (-67), 3) := by decide +kernel
theorem dL_law_245 : decode cL_law 245 = .ok (.iload 7, 2) := by decide +kernel
theorem dL_law_247 : decode cL_law 247 = .ok (.ifCond .eq 52, 3) := by decide +kernel
theorem dL_law_250 : decode cL_law 250 = .ok (.aload_n 1, 1) := by decide +kernel
theorem dL_law_251 : decode cL_law 251 = .ok (.bipush 16, 2) := by decide +kernel
theorem dL_law_253 : decode cL_law 253 = .ok (.invokevirtual 98, 3) := by decide +kernel
theorem dL_law_256 : decode cL_law 256 = .ok (.ldc 62, 2) := by decide +kernel
theorem dL_law_258 : decode cL_law 258 = .ok (.if_icmp .ne 41, 3) := by decide +kernel
theorem dL_law_261 : decode cL_law 261 = .ok (.aload_n 1, 1) := by decide +kernel
theorem dL_law_262 : decode cL_law 262 = .ok (.bipush 34, 2) := by decide +kernel
theorem dL_law_264 : decode cL_law 264 = .ok (.invokevirtual 98, 3) := by decide +kernel
theorem dL_law_267 : decode cL_law 267 = .ok (.ldc 62, 2) := by decide +kernel
theorem dL_law_269 : decode cL_law 269 = .ok (.if_icmp .ne 30, 3) := by decide +kernel
theorem dL_law_272 : decode cL_law 272 = .ok (.aload_n 1, 1) := by decide +kernel
theorem dL_law_273 : decode cL_law 273 = .ok (.bipush 12, 2) := by decide +kernel
theorem dL_law_275 : decode cL_law 275 = .ok (.iconst 0, 1) := by decide +kernel
theorem dL_law_276 : decode cL_law 276 = .ok (.invokevirtual 88, 3) := by decide +kernel
theorem dL_law_279 : decode cL_law 279 = .ok (.ldc 62, 2) := by decide +kernel
theorem dL_law_281 : decode cL_law 281 = .ok (.if_icmp .ne 18, 3) := by decide +kernel
theorem dL_law_284 : decode cL_law 284 = .ok (.aload_n 1, 1) := by decide +kernel
theorem dL_law_285 : decode cL_law 285 = .ok (.iconst 0, 1) := by decide +kernel
theorem dL_law_286 : decode cL_law 286 = .ok (.iconst 2, 1) := by decide +kernel
theorem dL_law_287 : decode cL_law 287 = .ok (.invokevirtual 91, 3) := by decide +kernel
theorem dL_law_290 : decode cL_law 290 = .ok (.ldc 62, 2) := by decide +kernel
theorem dL_law_292 : decode cL_law 292 = .ok (.if_icmp .ne 7, 3) := by decide +kernel
theorem dL_law_295 : decode cL_law 295 = .ok (.iconst 1, 1) := by decide +kernel
theorem dL_law_296 : decode cL_law 296 = .ok (.goto 4, 3) := by decide +kernel
theorem dL_law_299 : decode cL_law 299 = .ok (.iconst 0, 1) := by decide +kernel
theorem dL_law_300 : decode cL_law 300 = .ok (.ireturn, 1) := by decide +kernel

