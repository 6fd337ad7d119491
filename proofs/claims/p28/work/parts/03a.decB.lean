theorem dL_cell_0 : decode cL_cell 0 = .ok (.iload_n 1, 1) := by decide +kernel
theorem dL_cell_1 : decode cL_cell 1 = .ok (.aload_n 0, 1) := by decide +kernel
theorem dL_cell_2 : decode cL_cell 2 = .ok (.arraylength, 1) := by decide +kernel
theorem dL_cell_3 : decode cL_cell 3 = .ok (.if_icmp .ge 9, 3) := by decide +kernel
theorem dL_cell_6 : decode cL_cell 6 = .ok (.aload_n 0, 1) := by decide +kernel
theorem dL_cell_7 : decode cL_cell 7 = .ok (.iload_n 1, 1) := by decide +kernel
theorem dL_cell_8 : decode cL_cell 8 = .ok (.iaload, 1) := by decide +kernel
theorem dL_cell_9 : decode cL_cell 9 = .ok (.goto 9, 3) := by decide +kernel
theorem dL_cell_12 : decode cL_cell 12 = .ok (.ldc 7, 2) := by decide +kernel
theorem dL_cell_14 : decode cL_cell 14 = .ok (.iload_n 1, 1) := by decide +kernel
theorem dL_cell_15 : decode cL_cell 15 = .ok (.iconst 3, 1) := by decide +kernel
theorem dL_cell_16 : decode cL_cell 16 = .ok (.iadd, 1) := by decide +kernel
theorem dL_cell_17 : decode cL_cell 17 = .ok (.imul, 1) := by decide +kernel
theorem dL_cell_18 : decode cL_cell 18 = .ok (.ireturn, 1) := by decide +kernel
theorem dL_low_0 : decode cL_low 0 = .ok (.iload_n 0, 1) := by decide +kernel
theorem dL_low_1 : decode cL_low 1 = .ok (.ldc 8, 2) := by decide +kernel
theorem dL_low_3 : decode cL_low 3 = .ok (.iand, 1) := by decide +kernel
theorem dL_low_4 : decode cL_low 4 = .ok (.iload_n 1, 1) := by decide +kernel
theorem dL_low_5 : decode cL_low 5 = .ok (.irem, 1) := by decide +kernel
theorem dL_low_6 : decode cL_low 6 = .ok (.ireturn, 1) := by decide +kernel
theorem dL_mass_0 : decode cL_mass 0 = .ok (.iconst 0, 1) := by decide +kernel
theorem dL_mass_1 : decode cL_mass 1 = .ok (.istore_n 3, 1) := by decide +kernel
theorem dL_mass_2 : decode cL_mass 2 = .ok (.iconst 4, 1) := by decide +kernel
theorem dL_mass_3 : decode cL_mass 3 = .ok (.iload_n 1, 1) := by decide +kernel
theorem dL_mass_4 : decode cL_mass 4 = .ok (.imul, 1) := by decide +kernel
theorem dL_mass_5 : decode cL_mass 5 = .ok (.istore 4, 2) := by decide +kernel
theorem dL_mass_7 : decode cL_mass 7 = .ok (.iload 4, 2) := by decide +kernel
theorem dL_mass_9 : decode cL_mass 9 = .ok (.iconst 4, 1) := by decide +kernel
theorem dL_mass_10 : decode cL_mass 10 = .ok (.iload_n 2, 1) := by decide +kernel
theorem dL_mass_11 : decode cL_mass 11 = .ok (.imul, 1) := by decide +kernel
theorem dL_mass_12 : decode cL_mass 12 = .ok (.iconst 3, 1) := by decide +kernel
theorem dL_mass_13 : decode cL_mass 13 = .ok (.iadd, 1) := by decide +kernel
theorem dL_mass_14 : decode cL_mass 14 = .ok (.if_icmp .gt 16, 3) := by decide +kernel
theorem dL_mass_17 : decode cL_mass 17 = .ok (.iload_n 3, 1) := by decide +kernel
theorem dL_mass_18 : decode cL_mass 18 = .ok (.aload_n 0, 1) := by decide +kernel
theorem dL_mass_19 : decode cL_mass 19 = .ok (.iload 4, 2) := by decide +kernel
theorem dL_mass_21 : decode cL_mass 21 = .ok (.iaload, 1) := by decide +kernel
theorem dL_mass_22 : decode cL_mass 22 = .ok (.iadd, 1) := by decide +kernel
theorem dL_mass_23 : decode cL_mass 23 = .ok (.istore_n 3, 1) := by decide +kernel
theorem dL_mass_24 : decode cL_mass 24 = .ok (.iinc 4 1, 3) := by decide +kernel
theorem dL_mass_27 : decode cL_mass 27 = .ok (.goto (-20), 3) := by decide +kernel
theorem dL_mass_30 : decode cL_mass 30 = .ok (.iload_n 3, 1) := by decide +kernel
theorem dL_mass_31 : decode cL_mass 31 = .ok (.ireturn, 1) := by decide +kernel
theorem dL_feed_0 : decode cL_feed 0 = .ok (.aload_n 0, 1) := by decide +kernel
theorem dL_feed_1 : decode cL_feed 1 = .ok (.iconst 0, 1) := by decide +kernel
theorem dL_feed_2 : decode cL_feed 2 = .ok (.iaload, 1) := by decide +kernel
theorem dL_feed_3 : decode cL_feed 3 = .ok (.istore_n 3, 1) := by decide +kernel
theorem dL_feed_4 : decode cL_feed 4 = .ok (.iload_n 3, 1) := by decide +kernel
theorem dL_feed_5 : decode cL_feed 5 = .ok (.ifCond .le 92, 3) := by decide +kernel
theorem dL_feed_8 : decode cL_feed 8 = .ok (.aload_n 0, 1) := by decide +kernel
theorem dL_feed_9 : decode cL_feed 9 = .ok (.bipush 13, 2) := by decide +kernel
theorem dL_feed_11 : decode cL_feed 11 = .ok (.iaload, 1) := by decide +kernel
theorem dL_feed_12 : decode cL_feed 12 = .ok (.ifCond .le 85, 3) := by decide +kernel
theorem dL_feed_15 : decode cL_feed 15 = .ok (.aload_n 2, 1) := by decide +kernel
theorem dL_feed_16 : decode cL_feed 16 = .ok (.iconst 1, 1) := by decide +kernel
theorem dL_feed_17 : decode cL_feed 17 = .ok (.iaload, 1) := by decide +kernel
theorem dL_feed_18 : decode cL_feed 18 = .ok (.iload_n 3, 1) := by decide +kernel
theorem dL_feed_19 : decode cL_feed 19 = .ok (.if_icmp .gt 57, 3) := by decide +kernel
theorem dL_feed_22 : decode cL_feed 22 = .ok (.aload_n 1, 1) := by decide +kernel
theorem dL_feed_23 : decode cL_feed 23 = .ok (.aload_n 2, 1) := by decide +kernel
theorem dL_feed_24 : decode cL_feed 24 = .ok (.iconst 0, 1) := by decide +kernel
theorem dL_feed_25 : decode cL_feed 25 = .ok (.iaload, 1) := by decide +kernel
theorem dL_feed_26 : decode cL_feed 26 = .ok (.dup2, 1) := by decide +kernel
theorem dL_feed_27 : decode cL_feed 27 = .ok (.iaload, 1) := by decide +kernel
theorem dL_feed_28 : decode cL_feed 28 = .ok (.aload_n 2, 1) := by decide +kernel
theorem dL_feed_29 : decode cL_feed 29 = .ok (.iconst 1, 1) := by decide +kernel
theorem dL_feed_30 : decode cL_feed 30 = .ok (.iaload, 1) := by decide +kernel
theorem dL_feed_31 : decode cL_feed 31 = .ok (.iadd, 1) := by decide +kernel
theorem dL_feed_32 : decode cL_feed 32 = .ok (.iastore, 1) := by decide +kernel
theorem dL_feed_33 : decode cL_feed 33 = .ok (.iload_n 3, 1) := by decide +kernel
theorem dL_feed_34 : decode cL_feed 34 = .ok (.aload_n 2, 1) := by decide +kernel
theorem dL_feed_35 : decode cL_feed 35 = .ok (.iconst 1, 1) := by decide +kernel
theorem dL_feed_36 : decode cL_feed 36 = .ok (.iaload, 1) := by decide +kernel
theorem dL_feed_37 : decode cL_feed 37 = .ok (.isub, 1) := by decide +kernel
theorem dL_feed_38 : decode cL_feed 38 = .ok (.istore_n 3, 1) := by decide +kernel
theorem dL_feed_39 : decode cL_feed 39 = .ok (.iconst 0, 1) := by decide +kernel
theorem dL_feed_40 : decode cL_feed 40 = .ok (.istore 4, 2) := by decide +kernel
theorem dL_feed_42 : decode cL_feed 42 = .ok (.iload 4, 2) := by decide +kernel
theorem dL_feed_44 : decode cL_feed 44 = .ok (.bipush 10, 2) := by decide +kernel
theorem dL_feed_46 : decode cL_feed 46 = .ok (.if_icmp .ge 19, 3) := by decide +kernel
theorem dL_feed_49 : decode cL_feed 49 = .ok (.aload_n 2, 1) := by decide +kernel
theorem dL_feed_50 : decode cL_feed 50 = .ok (.iload 4, 2) := by decide +kernel
theorem dL_feed_52 : decode cL_feed 52 = .ok (.aload_n 2, 1) := by decide +kernel
theorem dL_feed_53 : decode cL_feed 53 = .ok (.iload 4, 2) := by decide +kernel
theorem dL_feed_55 : decode cL_feed 55 = .ok (.iconst 2, 1) := by decide +kernel
theorem dL_feed_56 : decode cL_feed 56 = .ok (.iadd, 1) := by decide +kernel
theorem dL_feed_57 : decode cL_feed 57 = .ok (.iaload, 1) := by decide +kernel
theorem dL_feed_58 : decode cL_feed 58 = .ok (.iastore, 1) := by decide +kernel
theorem dL_feed_59 : decode cL_feed 59 = .ok (.iinc 4 1, 3) := by decide +kernel
theorem dL_feed_62 : decode cL_feed 62 = .ok (.goto (-20), 3) := by decide +kernel
theorem dL_feed_65 : decode cL_feed 65 = .ok (.aload_n 0, 1) := by decide +kernel
theorem dL_feed_66 : decode cL_feed 66 = .ok (.bipush 13, 2) := by decide +kernel
theorem dL_feed_68 : decode cL_feed 68 = .ok (.dup2, 1) := by decide +kernel
theorem dL_feed_69 : decode cL_feed 69 = .ok (.iaload, 1) := by decide +kernel
theorem dL_feed_70 : decode cL_feed 70 = .ok (.iconst 1, 1) := by decide +kernel
theorem dL_feed_71 : decode cL_feed 71 = .ok (.isub, 1) := by decide +kernel
theorem dL_feed_72 : decode cL_feed 72 = .ok (.iastore, 1) := by decide +kernel
theorem dL_feed_73 : decode cL_feed 73 = .ok (.goto (-69), 3) := by decide +kernel
theorem dL_feed_76 : decode cL_feed 76 = .ok (.aload_n 1, 1) := by decide +kernel
theorem dL_feed_77 : decode cL_feed 77 = .ok (.aload_n 2, 1) := by decide +kernel
theorem dL_feed_78 : decode cL_feed 78 = .ok (.iconst 0, 1) := by decide +kernel
theorem dL_feed_79 : decode cL_feed 79 = .ok (.iaload, 1) := by decide +kernel
theorem dL_feed_80 : decode cL_feed 80 = .ok (.dup2, 1) := by decide +kernel
theorem dL_feed_81 : decode cL_feed 81 = .ok (.iaload, 1) := by decide +kernel
theorem dL_feed_82 : decode cL_feed 82 = .ok (.iload_n 3, 1) := by decide +kernel
theorem dL_feed_83 : decode cL_feed 83 = .ok (.iadd, 1) := by decide +kernel
theorem dL_feed_84 : decode cL_feed 84 = .ok (.iastore, 1) := by decide +kernel
theorem dL_feed_85 : decode cL_feed 85 = .ok (.aload_n 2, 1) := by decide +kernel
theorem dL_feed_86 : decode cL_feed 86 = .ok (.iconst 1, 1) := by decide +kernel
theorem dL_feed_87 : decode cL_feed 87 = .ok (.dup2, 1) := by decide +kernel
theorem dL_feed_88 : decode cL_feed 88 = .ok (.iaload, 1) := by decide +kernel
theorem dL_feed_89 : decode cL_feed 89 = .ok (.iload_n 3, 1) := by decide +kernel
theorem dL_feed_90 : decode cL_feed 90 = .ok (.isub, 1) := by decide +kernel
theorem dL_feed_91 : decode cL_feed 91 = .ok (.iastore, 1) := by decide +kernel
theorem dL_feed_92 : decode cL_feed 92 = .ok (.iconst 0, 1) := by decide +kernel
theorem dL_feed_93 : decode cL_feed 93 = .ok (.istore_n 3, 1) := by decide +kernel
theorem dL_feed_94 : decode cL_feed 94 = .ok (.goto (-90), 3) := by decide +kernel
theorem dL_feed_97 : decode cL_feed 97 = .ok (.iconst 3, 1) := by decide +kernel
theorem dL_feed_98 : decode cL_feed 98 = .ok (.istore 4, 2) := by decide +kernel
theorem dL_feed_100 : decode cL_feed 100 = .ok (.iload 4, 2) := by decide +kernel
theorem dL_feed_102 : decode cL_feed 102 = .ok (.ifCond .lt 78, 3) := by decide +kernel
theorem dL_feed_105 : decode cL_feed 105 = .ok (.aload_n 1, 1) := by decide +kernel
theorem dL_feed_106 : decode cL_feed 106 = .ok (.iconst 0, 1) := by decide +kernel
theorem dL_feed_107 : decode cL_feed 107 = .ok (.iconst 0, 1) := by decide +kernel
theorem dL_feed_108 : decode cL_feed 108 = .ok (.invokestatic 9, 3) := by decide +kernel
theorem dL_feed_111 : decode cL_feed 111 = .ok (.aload_n 0, 1) := by decide +kernel
theorem dL_feed_112 : decode cL_feed 112 = .ok (.bipush 18, 2) := by decide +kernel
theorem dL_feed_114 : decode cL_feed 114 = .ok (.iaload, 1) := by decide +kernel
theorem dL_feed_115 : decode cL_feed 115 = .ok (.isub, 1) := by decide +kernel
theorem dL_feed_116 : decode cL_feed 116 = .ok (.istore 5, 2) := by decide +kernel
theorem dL_feed_118 : decode cL_feed 118 = .ok (.iload 5, 2) := by decide +kernel
theorem dL_feed_120 : decode cL_feed 120 = .ok (.aload_n 1, 1) := by decide +kernel
theorem dL_feed_121 : decode cL_feed 121 = .ok (.iload 4, 2) := by decide +kernel
theorem dL_feed_123 : decode cL_feed 123 = .ok (.iaload, 1) := by decide +kernel
theorem dL_feed_124 : decode cL_feed 124 = .ok (.if_icmp .ge 8, 3) := by decide +kernel
theorem dL_feed_127 : decode cL_feed 127 = .ok (.iload 5, 2) := by decide +kernel
theorem dL_feed_129 : decode cL_feed 129 = .ok (.goto 7, 3) := by decide +kernel
theorem dL_feed_132 : decode cL_feed 132 = .ok (.aload_n 1, 1) := by decide +kernel
theorem dL_feed_133 : decode cL_feed 133 = .ok (.iload 4, 2) := by decide +kernel
theorem dL_feed_135 : decode cL_feed 135 = .ok (.iaload, 1) := by decide +kernel
theorem dL_feed_136 : decode cL_feed 136 = .ok (.istore 6, 2) := by decide +kernel
theorem dL_feed_138 : decode cL_feed 138 = .ok (.aload_n 1, 1) := by decide +kernel
theorem dL_feed_139 : decode cL_feed 139 = .ok (.iload 4, 2) := by decide +kernel
theorem dL_feed_141 : decode cL_feed 141 = .ok (.dup2, 1) := by decide +kernel
theorem dL_feed_142 : decode cL_feed 142 = .ok (.iaload, 1) := by decide +kernel
theorem dL_feed_143 : decode cL_feed 143 = .ok (.iload 6, 2) := by decide +kernel
theorem dL_feed_145 : decode cL_feed 145 = .ok (.ifCond .le 8, 3) := by decide +kernel
theorem dL_feed_148 : decode cL_feed 148 = .ok (.iload 6, 2) := by decide +kernel
theorem dL_feed_150 : decode cL_feed 150 = .ok (.goto 4, 3) := by decide +kernel
theorem dL_feed_153 : decode cL_feed 153 = .ok (.iconst 0, 1) := by decide +kernel
theorem dL_feed_154 : decode cL_feed 154 = .ok (.isub, 1) := by decide +kernel
theorem dL_feed_155 : decode cL_feed 155 = .ok (.iastore, 1) := by decide +kernel
theorem dL_feed_156 : decode cL_feed 156 = .ok (.aload_n 0, 1) := by decide +kernel
theorem dL_feed_157 : decode cL_feed 157 = .ok (.bipush 10, 2) := by decide +kernel
theorem dL_feed_159 : decode cL_feed 159 = .ok (.dup2, 1) := by decide +kernel
theorem dL_feed_160 : decode cL_feed 160 = .ok (.iaload, 1) := by decide +kernel
theorem dL_feed_161 : decode cL_feed 161 = .ok (.iload 6, 2) := by decide +kernel
theorem dL_feed_163 : decode cL_feed 163 = .ok (.ifCond .le 8, 3) := by decide +kernel
theorem dL_feed_166 : decode cL_feed 166 = .ok (.iload 6, 2) := by decide +kernel
theorem dL_feed_168 : decode cL_feed 168 = .ok (.goto 4, 3) := by decide +kernel
theorem dL_feed_171 : decode cL_feed 171 = .ok (.iconst 0, 1) := by decide +kernel
theorem dL_feed_172 : decode cL_feed 172 = .ok (.iadd, 1) := by decide +kernel
theorem dL_feed_173 : decode cL_feed 173 = .ok (.iastore, 1) := by decide +kernel
theorem dL_feed_174 : decode cL_feed 174 = .ok (.iinc 4 (-1), 3) := by decide +kernel
theorem dL_feed_177 : decode cL_feed 177 = .ok (.goto (-77), 3) := by decide +kernel
theorem dL_feed_180 : decode cL_feed 180 = .ok (.return_, 1) := by decide +kernel
theorem dL_tick_0 : decode cL_tick 0 = .ok (.aload_n 0, 1) := by decide +kernel
theorem dL_tick_1 : decode cL_tick 1 = .ok (.iconst 2, 1) := by decide +kernel
theorem dL_tick_2 : decode cL_tick 2 = .ok (.dup2, 1) := by decide +kernel
theorem dL_tick_3 : decode cL_tick 3 = .ok (.iaload, 1) := by decide +kernel
theorem dL_tick_4 : decode cL_tick 4 = .ok (.iconst 1, 1) := by decide +kernel
theorem dL_tick_5 : decode cL_tick 5 = .ok (.iadd, 1) := by decide +kernel
theorem dL_tick_6 : decode cL_tick 6 = .ok (.iastore, 1) := by decide +kernel
theorem dL_tick_7 : decode cL_tick 7 = .ok (.aload_n 0, 1) := by decide +kernel
theorem dL_tick_8 : decode cL_tick 8 = .ok (.iconst 3, 1) := by decide +kernel
theorem dL_tick_9 : decode cL_tick 9 = .ok (.dup2, 1) := by decide +kernel
theorem dL_tick_10 : decode cL_tick 10 = .ok (.iaload, 1) := by decide +kernel
theorem dL_tick_11 : decode cL_tick 11 = .ok (.aload_n 0, 1) := by decide +kernel
theorem dL_tick_12 : decode cL_tick 12 = .ok (.iconst 2, 1) := by decide +kernel
theorem dL_tick_13 : decode cL_tick 13 = .ok (.iaload, 1) := by decide +kernel
theorem dL_tick_14 : decode cL_tick 14 = .ok (.aload_n 0, 1) := by decide +kernel
theorem dL_tick_15 : decode cL_tick 15 = .ok (.bipush 19, 2) := by decide +kernel
theorem dL_tick_17 : decode cL_tick 17 = .ok (.iaload, 1) := by decide +kernel
theorem dL_tick_18 : decode cL_tick 18 = .ok (.irem, 1) := by decide +kernel
theorem dL_tick_19 : decode cL_tick 19 = .ok (.ifCond .ne 10, 3) := by decide +kernel
theorem dL_tick_22 : decode cL_tick 22 = .ok (.aload_n 0, 1) := by decide +kernel
theorem dL_tick_23 : decode cL_tick 23 = .ok (.bipush 20, 2) := by decide +kernel
theorem dL_tick_25 : decode cL_tick 25 = .ok (.iaload, 1) := by decide +kernel
theorem dL_tick_26 : decode cL_tick 26 = .ok (.goto 4, 3) := by decide +kernel
theorem dL_tick_29 : decode cL_tick 29 = .ok (.iconst 0, 1) := by decide +kernel
theorem dL_tick_30 : decode cL_tick 30 = .ok (.iadd, 1) := by decide +kernel
theorem dL_tick_31 : decode cL_tick 31 = .ok (.iastore, 1) := by decide +kernel
theorem dL_tick_32 : decode cL_tick 32 = .ok (.aload_n 0, 1) := by decide +kernel
theorem dL_tick_33 : decode cL_tick 33 = .ok (.bipush 15, 2) := by decide +kernel
theorem dL_tick_35 : decode cL_tick 35 = .ok (.iaload, 1) := by decide +kernel
theorem dL_tick_36 : decode cL_tick 36 = .ok (.ifCond .le 34, 3) := by decide +kernel
theorem dL_tick_39 : decode cL_tick 39 = .ok (.aload_n 1, 1) := by decide +kernel
theorem dL_tick_40 : decode cL_tick 40 = .ok (.iconst 0, 1) := by decide +kernel
theorem dL_tick_41 : decode cL_tick 41 = .ok (.bipush 11, 2) := by decide +kernel
theorem dL_tick_43 : decode cL_tick 43 = .ok (.invokestatic 9, 3) := by decide +kernel
theorem dL_tick_46 : decode cL_tick 46 = .ok (.aload_n 0, 1) := by decide +kernel
theorem dL_tick_47 : decode cL_tick 47 = .ok (.bipush 17, 2) := by decide +kernel
theorem dL_tick_49 : decode cL_tick 49 = .ok (.iaload, 1) := by decide +kernel
theorem dL_tick_50 : decode cL_tick 50 = .ok (.iadd, 1) := by decide +kernel
theorem dL_tick_51 : decode cL_tick 51 = .ok (.aload_n 0, 1) := by decide +kernel
theorem dL_tick_52 : decode cL_tick 52 = .ok (.bipush 15, 2) := by decide +kernel
theorem dL_tick_54 : decode cL_tick 54 = .ok (.iaload, 1) := by decide +kernel
theorem dL_tick_55 : decode cL_tick 55 = .ok (.if_icmp .ge 10, 3) := by decide +kernel
theorem dL_tick_58 : decode cL_tick 58 = .ok (.aload_n 0, 1) := by decide +kernel
theorem dL_tick_59 : decode cL_tick 59 = .ok (.bipush 13, 2) := by decide +kernel
theorem dL_tick_61 : decode cL_tick 61 = .ok (.iaload, 1) := by decide +kernel
theorem dL_tick_62 : decode cL_tick 62 = .ok (.ifCond .gt 8, 3) := by decide +kernel
theorem dL_tick_65 : decode cL_tick 65 = .ok (.aload_n 0, 1) := by decide +kernel
theorem dL_tick_66 : decode cL_tick 66 = .ok (.bipush 16, 2) := by decide +kernel
theorem dL_tick_68 : decode cL_tick 68 = .ok (.iconst 1, 1) := by decide +kernel
theorem dL_tick_69 : decode cL_tick 69 = .ok (.iastore, 1) := by decide +kernel
theorem dL_tick_70 : decode cL_tick 70 = .ok (.aload_n 0, 1) := by decide +kernel
theorem dL_tick_71 : decode cL_tick 71 = .ok (.bipush 15, 2) := by decide +kernel
theorem dL_tick_73 : decode cL_tick 73 = .ok (.iaload, 1) := by decide +kernel
theorem dL_tick_74 : decode cL_tick 74 = .ok (.ifCond .ne 18, 3) := by decide +kernel
theorem dL_tick_77 : decode cL_tick 77 = .ok (.aload_n 0, 1) := by decide +kernel
theorem dL_tick_78 : decode cL_tick 78 = .ok (.iconst 1, 1) := by decide +kernel
theorem dL_tick_79 : decode cL_tick 79 = .ok (.iaload, 1) := by decide +kernel
theorem dL_tick_80 : decode cL_tick 80 = .ok (.ifCond .ne 12, 3) := by decide +kernel
theorem dL_tick_83 : decode cL_tick 83 = .ok (.aload_n 0, 1) := by decide +kernel
theorem dL_tick_84 : decode cL_tick 84 = .ok (.bipush 8, 2) := by decide +kernel
theorem dL_tick_86 : decode cL_tick 86 = .ok (.dup2, 1) := by decide +kernel
theorem dL_tick_87 : decode cL_tick 87 = .ok (.iaload, 1) := by decide +kernel
theorem dL_tick_88 : decode cL_tick 88 = .ok (.iconst 1, 1) := by decide +kernel
theorem dL_tick_89 : decode cL_tick 89 = .ok (.iadd, 1) := by decide +kernel
theorem dL_tick_90 : decode cL_tick 90 = .ok (.iastore, 1) := by decide +kernel
theorem dL_tick_91 : decode cL_tick 91 = .ok (.return_, 1) := by decide +kernel
theorem dL_tick_92 : decode cL_tick 92 = .ok (.bipush 6, 2) := by decide +kernel
theorem dL_tick_94 : decode cL_tick 94 = .ok (.aload_n 0, 1) := by decide +kernel
theorem dL_tick_95 : decode cL_tick 95 = .ok (.bipush 12, 2) := by decide +kernel
theorem dL_tick_97 : decode cL_tick 97 = .ok (.iaload, 1) := by decide +kernel
theorem dL_tick_98 : decode cL_tick 98 = .ok (.imul, 1) := by decide +kernel
theorem dL_tick_99 : decode cL_tick 99 = .ok (.bipush 6, 2) := by decide +kernel
theorem dL_tick_101 : decode cL_tick 101 = .ok (.isub, 1) := by decide +kernel
theorem dL_tick_102 : decode cL_tick 102 = .ok (.istore 5, 2) := by decide +kernel
theorem dL_tick_104 : decode cL_tick 104 = .ok (.aload_n 1, 1) := by decide +kernel
theorem dL_tick_105 : decode cL_tick 105 = .ok (.bipush 11, 2) := by decide +kernel
theorem dL_tick_107 : decode cL_tick 107 = .ok (.bipush 11, 2) := by decide +kernel
theorem dL_tick_109 : decode cL_tick 109 = .ok (.invokestatic 9, 3) := by decide +kernel
theorem dL_tick_112 : decode cL_tick 112 = .ok (.istore 6, 2) := by decide +kernel
theorem dL_tick_114 : decode cL_tick 114 = .ok (.aload_n 0, 1) := by decide +kernel
theorem dL_tick_115 : decode cL_tick 115 = .ok (.bipush 11, 2) := by decide +kernel
theorem dL_tick_117 : decode cL_tick 117 = .ok (.dup2, 1) := by decide +kernel
theorem dL_tick_118 : decode cL_tick 118 = .ok (.iaload, 1) := by decide +kernel
theorem dL_tick_119 : decode cL_tick 119 = .ok (.iload 6, 2) := by decide +kernel
theorem dL_tick_121 : decode cL_tick 121 = .ok (.iadd, 1) := by decide +kernel
theorem dL_tick_122 : decode cL_tick 122 = .ok (.iastore, 1) := by decide +kernel
theorem dL_tick_123 : decode cL_tick 123 = .ok (.aload_n 0, 1) := by decide +kernel
theorem dL_tick_124 : decode cL_tick 124 = .ok (.bipush 10, 2) := by decide +kernel
theorem dL_tick_126 : decode cL_tick 126 = .ok (.dup2, 1) := by decide +kernel
theorem dL_tick_127 : decode cL_tick 127 = .ok (.iaload, 1) := by decide +kernel
theorem dL_tick_128 : decode cL_tick 128 = .ok (.iload 5, 2) := by decide +kernel
theorem dL_tick_130 : decode cL_tick 130 = .ok (.ifCond .ge 8, 3) := by decide +kernel
theorem dL_tick_133 : decode cL_tick 133 = .ok (.iload 6, 2) := by decide +kernel
theorem dL_tick_135 : decode cL_tick 135 = .ok (.goto 4, 3) := by decide +kernel
theorem dL_tick_138 : decode cL_tick 138 = .ok (.iconst 0, 1) := by decide +kernel
theorem dL_tick_139 : decode cL_tick 139 = .ok (.iadd, 1) := by decide +kernel
theorem dL_tick_140 : decode cL_tick 140 = .ok (.iastore, 1) := by decide +kernel
theorem dL_tick_141 : decode cL_tick 141 = .ok (.iconst 0, 1) := by decide +kernel
theorem dL_tick_142 : decode cL_tick 142 = .ok (.istore 7, 2) := by decide +kernel
theorem dL_tick_144 : decode cL_tick 144 = .ok (.iload 7, 2) := by decide +kernel
theorem dL_tick_146 : decode cL_tick 146 = .ok (.iconst 4, 1) := by decide +kernel
theorem dL_tick_147 : decode cL_tick 147 = .ok (.if_icmp .ge 70, 3) := by decide +kernel
theorem dL_tick_150 : decode cL_tick 150 = .ok (.iload 5, 2) := by decide +kernel
theorem dL_tick_152 : decode cL_tick 152 = .ok (.ifCond .lt 65, 3) := by decide +kernel
theorem dL_tick_155 : decode cL_tick 155 = .ok (.aload_n 3, 1) := by decide +kernel
theorem dL_tick_156 : decode cL_tick 156 = .ok (.iload 5, 2) := by decide +kernel
theorem dL_tick_158 : decode cL_tick 158 = .ok (.iload 7, 2) := by decide +kernel
theorem dL_tick_160 : decode cL_tick 160 = .ok (.iadd, 1) := by decide +kernel
theorem dL_tick_161 : decode cL_tick 161 = .ok (.dup2, 1) := by decide +kernel
theorem dL_tick_162 : decode cL_tick 162 = .ok (.iaload, 1) := by decide +kernel
theorem dL_tick_163 : decode cL_tick 163 = .ok (.aload_n 1, 1) := by decide +kernel
theorem dL_tick_164 : decode cL_tick 164 = .ok (.bipush 44, 2) := by decide +kernel
theorem dL_tick_166 : decode cL_tick 166 = .ok (.iload 7, 2) := by decide +kernel
theorem dL_tick_168 : decode cL_tick 168 = .ok (.iadd, 1) := by decide +kernel
theorem dL_tick_169 : decode cL_tick 169 = .ok (.iaload, 1) := by decide +kernel
theorem dL_tick_170 : decode cL_tick 170 = .ok (.iadd, 1) := by decide +kernel
theorem dL_tick_171 : decode cL_tick 171 = .ok (.iastore, 1) := by decide +kernel
theorem dL_tick_172 : decode cL_tick 172 = .ok (.aload_n 0, 1) := by decide +kernel
theorem dL_tick_173 : decode cL_tick 173 = .ok (.bipush 17, 2) := by decide +kernel
theorem dL_tick_175 : decode cL_tick 175 = .ok (.dup2, 1) := by decide +kernel
theorem dL_tick_176 : decode cL_tick 176 = .ok (.iaload, 1) := by decide +kernel
theorem dL_tick_177 : decode cL_tick 177 = .ok (.aload_n 1, 1) := by decide +kernel
theorem dL_tick_178 : decode cL_tick 178 = .ok (.bipush 44, 2) := by decide +kernel
theorem dL_tick_180 : decode cL_tick 180 = .ok (.iload 7, 2) := by decide +kernel
theorem dL_tick_182 : decode cL_tick 182 = .ok (.iadd, 1) := by decide +kernel
theorem dL_tick_183 : decode cL_tick 183 = .ok (.iaload, 1) := by decide +kernel
theorem dL_tick_184 : decode cL_tick 184 = .ok (.iadd, 1) := by decide +kernel
theorem dL_tick_185 : decode cL_tick 185 = .ok (.iastore, 1) := by decide +kernel
theorem dL_tick_186 : decode cL_tick 186 = .ok (.aload 4, 2) := by decide +kernel
theorem dL_tick_188 : decode cL_tick 188 = .ok (.iconst 2, 1) := by decide +kernel
theorem dL_tick_189 : decode cL_tick 189 = .ok (.aload 4, 2) := by decide +kernel
theorem dL_tick_191 : decode cL_tick 191 = .ok (.bipush 16, 2) := by decide +kernel
theorem dL_tick_193 : decode cL_tick 193 = .ok (.iload 7, 2) := by decide +kernel
theorem dL_tick_195 : decode cL_tick 195 = .ok (.iadd, 1) := by decide +kernel
theorem dL_tick_196 : decode cL_tick 196 = .ok (.iaload, 1) := by decide +kernel
theorem dL_tick_197 : decode cL_tick 197 = .ok (.imul, 1) := by decide +kernel
theorem dL_tick_198 : decode cL_tick 198 = .ok (.iconst 1, 1) := by decide +kernel
theorem dL_tick_199 : decode cL_tick 199 = .ok (.iadd, 1) := by decide +kernel
theorem dL_tick_200 : decode cL_tick 200 = .ok (.dup2, 1) := by decide +kernel
theorem dL_tick_201 : decode cL_tick 201 = .ok (.iaload, 1) := by decide +kernel
theorem dL_tick_202 : decode cL_tick 202 = .ok (.aload_n 1, 1) := by decide +kernel
theorem dL_tick_203 : decode cL_tick 203 = .ok (.bipush 44, 2) := by decide +kernel
theorem dL_tick_205 : decode cL_tick 205 = .ok (.iload 7, 2) := by decide +kernel
theorem dL_tick_207 : decode cL_tick 207 = .ok (.iadd, 1) := by decide +kernel
theorem dL_tick_208 : decode cL_tick 208 = .ok (.iaload, 1) := by decide +kernel
theorem dL_tick_209 : decode cL_tick 209 = .ok (.iadd, 1) := by decide +kernel
theorem dL_tick_210 : decode cL_tick 210 = .ok (.iastore, 1) := by decide +kernel
theorem dL_tick_211 : decode cL_tick 211 = .ok (.iinc 7 1, 3) := by decide +kernel
theorem dL_tick_214 : decode cL_tick 214 = .ok (.goto (-70), 3) := by decide +kernel
theorem dL_tick_217 : decode cL_tick 217 = .ok (.bipush 47, 2) := by decide +kernel
theorem dL_tick_219 : decode cL_tick 219 = .ok (.istore 7, 2) := by decide +kernel
theorem dL_tick_221 : decode cL_tick 221 = .ok (.iload 7, 2) := by decide +kernel
theorem dL_tick_223 : decode cL_tick 223 = .ok (.ifCond .lt 29, 3) := by decide +kernel
theorem dL_tick_226 : decode cL_tick 226 = .ok (.aload_n 1, 1) := by decide +kernel
theorem dL_tick_227 : decode cL_tick 227 = .ok (.iload 7, 2) := by decide +kernel
theorem dL_tick_229 : decode cL_tick 229 = .ok (.iload 7, 2) := by decide +kernel
theorem dL_tick_231 : decode cL_tick 231 = .ok (.iconst 3, 1) := by decide +kernel
theorem dL_tick_232 : decode cL_tick 232 = .ok (.if_icmp .le 12, 3) := by decide +kernel
theorem dL_tick_235 : decode cL_tick 235 = .ok (.aload_n 1, 1) := by decide +kernel
theorem dL_tick_236 : decode cL_tick 236 = .ok (.iload 7, 2) := by decide +kernel
theorem dL_tick_238 : decode cL_tick 238 = .ok (.iconst 4, 1) := by decide +kernel
theorem dL_tick_239 : decode cL_tick 239 = .ok (.isub, 1) := by decide +kernel
theorem dL_tick_240 : decode cL_tick 240 = .ok (.iaload, 1) := by decide +kernel
theorem dL_tick_241 : decode cL_tick 241 = .ok (.goto 4, 3) := by decide +kernel
theorem dL_tick_244 : decode cL_tick 244 = .ok (.iconst 0, 1) := by decide +kernel
theorem dL_tick_245 : decode cL_tick 245 = .ok (.iastore, 1) := by decide +kernel
theorem dL_tick_246 : decode cL_tick 246 = .ok (.iinc 7 (-1), 3) := by decide +kernel
theorem dL_tick_249 : decode cL_tick 249 = .ok (.goto (-28), 3) := by decide +kernel
theorem dL_tick_252 : decode cL_tick 252 = .ok (.aload_n 0, 1) := by decide +kernel
theorem dL_tick_253 : decode cL_tick 253 = .ok (.bipush 16, 2) := by decide +kernel
theorem dL_tick_255 : decode cL_tick 255 = .ok (.iaload, 1) := by decide +kernel
theorem dL_tick_256 : decode cL_tick 256 = .ok (.ifCond .eq 10, 3) := by decide +kernel
theorem dL_tick_259 : decode cL_tick 259 = .ok (.aload_n 0, 1) := by decide +kernel
theorem dL_tick_260 : decode cL_tick 260 = .ok (.bipush 15, 2) := by decide +kernel
theorem dL_tick_262 : decode cL_tick 262 = .ok (.iaload, 1) := by decide +kernel
theorem dL_tick_263 : decode cL_tick 263 = .ok (.ifCond .ne 9, 3) := by decide +kernel
theorem dL_tick_266 : decode cL_tick 266 = .ok (.aload_n 0, 1) := by decide +kernel
theorem dL_tick_267 : decode cL_tick 267 = .ok (.aload_n 1, 1) := by decide +kernel
theorem dL_tick_268 : decode cL_tick 268 = .ok (.aload_n 2, 1) := by decide +kernel
theorem dL_tick_269 : decode cL_tick 269 = .ok (.invokestatic 15, 3) := by decide +kernel
theorem dL_tick_272 : decode cL_tick 272 = .ok (.aload_n 1, 1) := by decide +kernel
theorem dL_tick_273 : decode cL_tick 273 = .ok (.iconst 4, 1) := by decide +kernel
theorem dL_tick_274 : decode cL_tick 274 = .ok (.bipush 7, 2) := by decide +kernel
theorem dL_tick_276 : decode cL_tick 276 = .ok (.invokestatic 9, 3) := by decide +kernel
theorem dL_tick_279 : decode cL_tick 279 = .ok (.aload_n 0, 1) := by decide +kernel
theorem dL_tick_280 : decode cL_tick 280 = .ok (.iconst 3, 1) := by decide +kernel
theorem dL_tick_281 : decode cL_tick 281 = .ok (.iaload, 1) := by decide +kernel
theorem dL_tick_282 : decode cL_tick 282 = .ok (.iadd, 1) := by decide +kernel
theorem dL_tick_283 : decode cL_tick 283 = .ok (.aload_n 0, 1) := by decide +kernel
theorem dL_tick_284 : decode cL_tick 284 = .ok (.iconst 4, 1) := by decide +kernel
theorem dL_tick_285 : decode cL_tick 285 = .ok (.iaload, 1) := by decide +kernel
theorem dL_tick_286 : decode cL_tick 286 = .ok (.isub, 1) := by decide +kernel
theorem dL_tick_287 : decode cL_tick 287 = .ok (.aload_n 0, 1) := by decide +kernel
theorem dL_tick_288 : decode cL_tick 288 = .ok (.bipush 6, 2) := by decide +kernel
theorem dL_tick_290 : decode cL_tick 290 = .ok (.iaload, 1) := by decide +kernel
theorem dL_tick_291 : decode cL_tick 291 = .ok (.iadd, 1) := by decide +kernel
theorem dL_tick_292 : decode cL_tick 292 = .ok (.istore 7, 2) := by decide +kernel
theorem dL_tick_294 : decode cL_tick 294 = .ok (.iload 7, 2) := by decide +kernel
theorem dL_tick_296 : decode cL_tick 296 = .ok (.ifCond .ge 9, 3) := by decide +kernel
theorem dL_tick_299 : decode cL_tick 299 = .ok (.iload 7, 2) := by decide +kernel
theorem dL_tick_301 : decode cL_tick 301 = .ok (.ineg, 1) := by decide +kernel
theorem dL_tick_302 : decode cL_tick 302 = .ok (.goto 5, 3) := by decide +kernel
theorem dL_tick_305 : decode cL_tick 305 = .ok (.iload 7, 2) := by decide +kernel
theorem dL_tick_307 : decode cL_tick 307 = .ok (.iconst 4, 1) := by decide +kernel
theorem dL_tick_308 : decode cL_tick 308 = .ok (.idiv, 1) := by decide +kernel
theorem dL_tick_309 : decode cL_tick 309 = .ok (.istore 8, 2) := by decide +kernel
theorem dL_tick_311 : decode cL_tick 311 = .ok (.iload 7, 2) := by decide +kernel
theorem dL_tick_313 : decode cL_tick 313 = .ok (.ifCond .ge 9, 3) := by decide +kernel
theorem dL_tick_316 : decode cL_tick 316 = .ok (.iload 8, 2) := by decide +kernel
theorem dL_tick_318 : decode cL_tick 318 = .ok (.ineg, 1) := by decide +kernel
theorem dL_tick_319 : decode cL_tick 319 = .ok (.goto 5, 3) := by decide +kernel
theorem dL_tick_322 : decode cL_tick 322 = .ok (.iload 8, 2) := by decide +kernel
theorem dL_tick_324 : decode cL_tick 324 = .ok (.istore 8, 2) := by decide +kernel
theorem dL_tick_326 : decode cL_tick 326 = .ok (.aload_n 0, 1) := by decide +kernel
theorem dL_tick_327 : decode cL_tick 327 = .ok (.iconst 5, 1) := by decide +kernel
theorem dL_tick_328 : decode cL_tick 328 = .ok (.dup2, 1) := by decide +kernel
theorem dL_tick_329 : decode cL_tick 329 = .ok (.iaload, 1) := by decide +kernel
theorem dL_tick_330 : decode cL_tick 330 = .ok (.iload 8, 2) := by decide +kernel
theorem dL_tick_332 : decode cL_tick 332 = .ok (.iadd, 1) := by decide +kernel
theorem dL_tick_333 : decode cL_tick 333 = .ok (.iastore, 1) := by decide +kernel
theorem dL_tick_334 : decode cL_tick 334 = .ok (.aload_n 0, 1) := by decide +kernel
theorem dL_tick_335 : decode cL_tick 335 = .ok (.bipush 6, 2) := by decide +kernel
theorem dL_tick_337 : decode cL_tick 337 = .ok (.iload 7, 2) := by decide +kernel
theorem dL_tick_339 : decode cL_tick 339 = .ok (.iconst 4, 1) := by decide +kernel
theorem dL_tick_340 : decode cL_tick 340 = .ok (.iload 8, 2) := by decide +kernel
theorem dL_tick_342 : decode cL_tick 342 = .ok (.imul, 1) := by decide +kernel
theorem dL_tick_343 : decode cL_tick 343 = .ok (.isub, 1) := by decide +kernel
theorem dL_tick_344 : decode cL_tick 344 = .ok (.iastore, 1) := by decide +kernel
theorem dL_tick_345 : decode cL_tick 345 = .ok (.aload_n 0, 1) := by decide +kernel
theorem dL_tick_346 : decode cL_tick 346 = .ok (.bipush 8, 2) := by decide +kernel
theorem dL_tick_348 : decode cL_tick 348 = .ok (.iconst 0, 1) := by decide +kernel
theorem dL_tick_349 : decode cL_tick 349 = .ok (.iastore, 1) := by decide +kernel
theorem dL_tick_350 : decode cL_tick 350 = .ok (.iload 5, 2) := by decide +kernel
theorem dL_tick_352 : decode cL_tick 352 = .ok (.ifCond .lt 33, 3) := by decide +kernel
