theorem dL_areBins_40 : decode cL_areBins 40 = .ok (.if_icmp .ge 154, 3) := by decide +kernel
theorem dL_areBins_43 : decode cL_areBins 43 = .ok (.iload_n 3, 1) := by decide +kernel
theorem dL_areBins_44 : decode cL_areBins 44 = .ok (.ifCond .eq 150, 3) := by decide +kernel
theorem dL_areBins_47 : decode cL_areBins 47 = .ok (.iconst 0, 1) := by decide +kernel
theorem dL_areBins_48 : decode cL_areBins 48 = .ok (.istore 5, 2) := by decide +kernel
theorem dL_areBins_50 : decode cL_areBins 50 = .ok (.iconst 0, 1) := by decide +kernel
theorem dL_areBins_51 : decode cL_areBins 51 = .ok (.istore 6, 2) := by decide +kernel
theorem dL_areBins_53 : decode cL_areBins 53 = .ok (.iload 6, 2) := by decide +kernel
theorem dL_areBins_55 : decode cL_areBins 55 = .ok (.iconst 4, 1) := by decide +kernel
theorem dL_areBins_56 : decode cL_areBins 56 = .ok (.if_icmp .ge 55, 3) := by decide +kernel
theorem dL_areBins_59 : decode cL_areBins 59 = .ok (.iload 5, 2) := by decide +kernel
theorem dL_areBins_61 : decode cL_areBins 61 = .ok (.aload_n 2, 1) := by decide +kernel
theorem dL_areBins_62 : decode cL_areBins 62 = .ok (.bipush 6, 2) := by decide +kernel
theorem dL_areBins_64 : decode cL_areBins 64 = .ok (.iload 4, 2) := by decide +kernel
theorem dL_areBins_66 : decode cL_areBins 66 = .ok (.imul, 1) := by decide +kernel
theorem dL_areBins_67 : decode cL_areBins 67 = .ok (.iload 6, 2) := by decide +kernel
theorem dL_areBins_69 : decode cL_areBins 69 = .ok (.iadd, 1) := by decide +kernel
theorem dL_areBins_70 : decode cL_areBins 70 = .ok (.iaload, 1) := by decide +kernel
theorem dL_areBins_71 : decode cL_areBins 71 = .ok (.iadd, 1) := by decide +kernel
theorem dL_areBins_72 : decode cL_areBins 72 = .ok (.istore 5, 2) := by decide +kernel
theorem dL_areBins_74 : decode cL_areBins 74 = .ok (.iload_n 3, 1) := by decide +kernel
theorem dL_areBins_75 : decode cL_areBins 75 = .ok (.ifCond .eq 28, 3) := by decide +kernel
theorem dL_areBins_78 : decode cL_areBins 78 = .ok (.aload_n 0, 1) := by decide +kernel
theorem dL_areBins_79 : decode cL_areBins 79 = .ok (.iload 4, 2) := by decide +kernel
theorem dL_areBins_81 : decode cL_areBins 81 = .ok (.iload 6, 2) := by decide +kernel
theorem dL_areBins_83 : decode cL_areBins 83 = .ok (.invokevirtual 80, 3) := by decide +kernel
theorem dL_areBins_86 : decode cL_areBins 86 = .ok (.aload_n 2, 1) := by decide +kernel
theorem dL_areBins_87 : decode cL_areBins 87 = .ok (.bipush 6, 2) := by decide +kernel
theorem dL_areBins_89 : decode cL_areBins 89 = .ok (.iload 4, 2) := by decide +kernel
theorem dL_areBins_91 : decode cL_areBins 91 = .ok (.imul, 1) := by decide +kernel
theorem dL_areBins_92 : decode cL_areBins 92 = .ok (.iload 6, 2) := by decide +kernel
theorem dL_areBins_94 : decode cL_areBins 94 = .ok (.iadd, 1) := by decide +kernel
theorem dL_areBins_95 : decode cL_areBins 95 = .ok (.iaload, 1) := by decide +kernel
theorem dL_areBins_96 : decode cL_areBins 96 = .ok (.if_icmp .ne 7, 3) := by decide +kernel
theorem dL_areBins_99 : decode cL_areBins 99 = .ok (.iconst 1, 1) := by decide +kernel
theorem dL_areBins_100 : decode cL_areBins 100 = .ok (.goto 4, 3) := by decide +kernel
theorem dL_areBins_103 : decode cL_areBins 103 = .ok (.iconst 0, 1) := by decide +kernel
theorem dL_areBins_104 : decode cL_areBins 104 = .ok (.istore_n 3, 1) := by decide +kernel
theorem dL_areBins_105 : decode cL_areBins 105 = .ok (.iinc 6 1, 3) := by decide +kernel
theorem dL_areBins_108 : decode cL_areBins 108 = .ok (.goto (-55), 3) := by decide +kernel
theorem dL_areBins_111 : decode cL_areBins 111 = .ok (.iload_n 3, 1) := by decide +kernel
theorem dL_areBins_112 : decode cL_areBins 112 = .ok (.ifCond .eq 74, 3) := by decide +kernel
theorem dL_areBins_115 : decode cL_areBins 115 = .ok (.aload_n 0, 1) := by decide +kernel
theorem dL_areBins_116 : decode cL_areBins 116 = .ok (.iload 4, 2) := by decide +kernel
theorem dL_areBins_118 : decode cL_areBins 118 = .ok (.iconst 4, 1) := by decide +kernel
theorem dL_areBins_119 : decode cL_areBins 119 = .ok (.invokevirtual 80, 3) := by decide +kernel
theorem dL_areBins_122 : decode cL_areBins 122 = .ok (.iload 5, 2) := by decide +kernel
theorem dL_areBins_124 : decode cL_areBins 124 = .ok (.if_icmp .ne 62, 3) := by decide +kernel
theorem dL_areBins_127 : decode cL_areBins 127 = .ok (.aload_n 0, 1) := by decide +kernel
theorem dL_areBins_128 : decode cL_areBins 128 = .ok (.iload 4, 2) := by decide +kernel
theorem dL_areBins_130 : decode cL_areBins 130 = .ok (.iconst 5, 1) := by decide +kernel
theorem dL_areBins_131 : decode cL_areBins 131 = .ok (.invokevirtual 80, 3) := by decide +kernel
theorem dL_areBins_134 : decode cL_areBins 134 = .ok (.aload_n 2, 1) := by decide +kernel
theorem dL_areBins_135 : decode cL_areBins 135 = .ok (.bipush 6, 2) := by decide +kernel
theorem dL_areBins_137 : decode cL_areBins 137 = .ok (.iload 4, 2) := by decide +kernel
theorem dL_areBins_139 : decode cL_areBins 139 = .ok (.imul, 1) := by decide +kernel
theorem dL_areBins_140 : decode cL_areBins 140 = .ok (.iconst 4, 1) := by decide +kernel
theorem dL_areBins_141 : decode cL_areBins 141 = .ok (.iadd, 1) := by decide +kernel
theorem dL_areBins_142 : decode cL_areBins 142 = .ok (.iaload, 1) := by decide +kernel
theorem dL_areBins_143 : decode cL_areBins 143 = .ok (.ldc 83, 2) := by decide +kernel
theorem dL_areBins_145 : decode cL_areBins 145 = .ok (.iadd, 1) := by decide +kernel
theorem dL_areBins_146 : decode cL_areBins 146 = .ok (.if_icmp .ne 40, 3) := by decide +kernel
theorem dL_areBins_149 : decode cL_areBins 149 = .ok (.aload_n 0, 1) := by decide +kernel
theorem dL_areBins_150 : decode cL_areBins 150 = .ok (.iload 4, 2) := by decide +kernel
theorem dL_areBins_152 : decode cL_areBins 152 = .ok (.bipush 6, 2) := by decide +kernel
theorem dL_areBins_154 : decode cL_areBins 154 = .ok (.invokevirtual 80, 3) := by decide +kernel
theorem dL_areBins_157 : decode cL_areBins 157 = .ok (.aload_n 2, 1) := by decide +kernel
theorem dL_areBins_158 : decode cL_areBins 158 = .ok (.bipush 6, 2) := by decide +kernel
theorem dL_areBins_160 : decode cL_areBins 160 = .ok (.iload 4, 2) := by decide +kernel
theorem dL_areBins_162 : decode cL_areBins 162 = .ok (.imul, 1) := by decide +kernel
theorem dL_areBins_163 : decode cL_areBins 163 = .ok (.iconst 5, 1) := by decide +kernel
theorem dL_areBins_164 : decode cL_areBins 164 = .ok (.iadd, 1) := by decide +kernel
theorem dL_areBins_165 : decode cL_areBins 165 = .ok (.iaload, 1) := by decide +kernel
theorem dL_areBins_166 : decode cL_areBins 166 = .ok (.if_icmp .ne 20, 3) := by decide +kernel
theorem dL_areBins_169 : decode cL_areBins 169 = .ok (.aload_n 0, 1) := by decide +kernel
theorem dL_areBins_170 : decode cL_areBins 170 = .ok (.iload 4, 2) := by decide +kernel
theorem dL_areBins_172 : decode cL_areBins 172 = .ok (.bipush 7, 2) := by decide +kernel
theorem dL_areBins_174 : decode cL_areBins 174 = .ok (.invokevirtual 80, 3) := by decide +kernel
theorem dL_areBins_177 : decode cL_areBins 177 = .ok (.ldc 62, 2) := by decide +kernel
theorem dL_areBins_179 : decode cL_areBins 179 = .ok (.if_icmp .ne 7, 3) := by decide +kernel
theorem dL_areBins_182 : decode cL_areBins 182 = .ok (.iconst 1, 1) := by decide +kernel
theorem dL_areBins_183 : decode cL_areBins 183 = .ok (.goto 4, 3) := by decide +kernel
theorem dL_areBins_186 : decode cL_areBins 186 = .ok (.iconst 0, 1) := by decide +kernel
theorem dL_areBins_187 : decode cL_areBins 187 = .ok (.istore_n 3, 1) := by decide +kernel
theorem dL_areBins_188 : decode cL_areBins 188 = .ok (.iinc 4 1, 3) := by decide +kernel
theorem dL_areBins_191 : decode cL_areBins 191 = .ok (.goto (-157), 3) := by decide +kernel
theorem dL_areBins_194 : decode cL_areBins 194 = .ok (.iload_n 3, 1) := by decide +kernel
theorem dL_areBins_195 : decode cL_areBins 195 = .ok (.ireturn, 1) := by decide +kernel
theorem dL_isSo_0 : decode cL_isSo 0 = .ok (.aload_n 0, 1) := by decide +kernel
theorem dL_isSo_1 : decode cL_isSo 1 = .ok (.aload_n 1, 1) := by decide +kernel
theorem dL_isSo_2 : decode cL_isSo 2 = .ok (.aload 4, 2) := by decide +kernel
theorem dL_isSo_4 : decode cL_isSo 4 = .ok (.invokestatic 84, 3) := by decide +kernel
theorem dL_isSo_7 : decode cL_isSo 7 = .ok (.istore 6, 2) := by decide +kernel
theorem dL_isSo_9 : decode cL_isSo 9 = .ok (.iconst 0, 1) := by decide +kernel
theorem dL_isSo_10 : decode cL_isSo 10 = .ok (.istore 7, 2) := by decide +kernel
theorem dL_isSo_12 : decode cL_isSo 12 = .ok (.iconst 0, 1) := by decide +kernel
theorem dL_isSo_13 : decode cL_isSo 13 = .ok (.istore 8, 2) := by decide +kernel
theorem dL_isSo_15 : decode cL_isSo 15 = .ok (.iconst 0, 1) := by decide +kernel
theorem dL_isSo_16 : decode cL_isSo 16 = .ok (.istore 9, 2) := by decide +kernel
theorem dL_isSo_18 : decode cL_isSo 18 = .ok (.iconst 0, 1) := by decide +kernel
theorem dL_isSo_19 : decode cL_isSo 19 = .ok (.istore 10, 2) := by decide +kernel
theorem dL_isSo_21 : decode cL_isSo 21 = .ok (.iload 10, 2) := by decide +kernel
theorem dL_isSo_23 : decode cL_isSo 23 = .ok (.bipush 48, 2) := by decide +kernel
theorem dL_isSo_25 : decode cL_isSo 25 = .ok (.if_icmp .ge 99, 3) := by decide +kernel
theorem dL_isSo_28 : decode cL_isSo 28 = .ok (.iload 6, 2) := by decide +kernel
theorem dL_isSo_30 : decode cL_isSo 30 = .ok (.ifCond .eq 94, 3) := by decide +kernel
theorem dL_isSo_33 : decode cL_isSo 33 = .ok (.iload 8, 2) := by decide +kernel
theorem dL_isSo_35 : decode cL_isSo 35 = .ok (.iload 10, 2) := by decide +kernel
theorem dL_isSo_37 : decode cL_isSo 37 = .ok (.bipush 6, 2) := by decide +kernel
theorem dL_isSo_39 : decode cL_isSo 39 = .ok (.irem, 1) := by decide +kernel
theorem dL_isSo_40 : decode cL_isSo 40 = .ok (.iconst 4, 1) := by decide +kernel
theorem dL_isSo_41 : decode cL_isSo 41 = .ok (.if_icmp .ge 23, 3) := by decide +kernel
theorem dL_isSo_44 : decode cL_isSo 44 = .ok (.iload 10, 2) := by decide +kernel
theorem dL_isSo_46 : decode cL_isSo 46 = .ok (.bipush 6, 2) := by decide +kernel
theorem dL_isSo_48 : decode cL_isSo 48 = .ok (.idiv, 1) := by decide +kernel
theorem dL_isSo_49 : decode cL_isSo 49 = .ok (.aload_n 1, 1) := by decide +kernel
theorem dL_isSo_50 : decode cL_isSo 50 = .ok (.bipush 12, 2) := by decide +kernel
theorem dL_isSo_52 : decode cL_isSo 52 = .ok (.iaload, 1) := by decide +kernel
theorem dL_isSo_53 : decode cL_isSo 53 = .ok (.if_icmp .ge 11, 3) := by decide +kernel
theorem dL_isSo_56 : decode cL_isSo 56 = .ok (.aload 4, 2) := by decide +kernel
theorem dL_isSo_58 : decode cL_isSo 58 = .ok (.iload 10, 2) := by decide +kernel
theorem dL_isSo_60 : decode cL_isSo 60 = .ok (.iaload, 1) := by decide +kernel
theorem dL_isSo_61 : decode cL_isSo 61 = .ok (.goto 4, 3) := by decide +kernel
theorem dL_isSo_64 : decode cL_isSo 64 = .ok (.iconst 0, 1) := by decide +kernel
theorem dL_isSo_65 : decode cL_isSo 65 = .ok (.iadd, 1) := by decide +kernel
theorem dL_isSo_66 : decode cL_isSo 66 = .ok (.istore 8, 2) := by decide +kernel
theorem dL_isSo_68 : decode cL_isSo 68 = .ok (.aload_n 0, 1) := by decide +kernel
theorem dL_isSo_69 : decode cL_isSo 69 = .ok (.iload 10, 2) := by decide +kernel
theorem dL_isSo_71 : decode cL_isSo 71 = .ok (.iconst 4, 1) := by decide +kernel
theorem dL_isSo_72 : decode cL_isSo 72 = .ok (.idiv, 1) := by decide +kernel
theorem dL_isSo_73 : decode cL_isSo 73 = .ok (.iload 10, 2) := by decide +kernel
theorem dL_isSo_75 : decode cL_isSo 75 = .ok (.iconst 4, 1) := by decide +kernel
theorem dL_isSo_76 : decode cL_isSo 76 = .ok (.irem, 1) := by decide +kernel
theorem dL_isSo_77 : decode cL_isSo 77 = .ok (.invokevirtual 88, 3) := by decide +kernel
theorem dL_isSo_80 : decode cL_isSo 80 = .ok (.aload_n 2, 1) := by decide +kernel
theorem dL_isSo_81 : decode cL_isSo 81 = .ok (.iload 10, 2) := by decide +kernel
theorem dL_isSo_83 : decode cL_isSo 83 = .ok (.iaload, 1) := by decide +kernel
theorem dL_isSo_84 : decode cL_isSo 84 = .ok (.if_icmp .ne 31, 3) := by decide +kernel
theorem dL_isSo_87 : decode cL_isSo 87 = .ok (.aload_n 0, 1) := by decide +kernel
theorem dL_isSo_88 : decode cL_isSo 88 = .ok (.iload 10, 2) := by decide +kernel
theorem dL_isSo_90 : decode cL_isSo 90 = .ok (.iconst 4, 1) := by decide +kernel
theorem dL_isSo_91 : decode cL_isSo 91 = .ok (.idiv, 1) := by decide +kernel
theorem dL_isSo_92 : decode cL_isSo 92 = .ok (.iconst (-1), 1) := by decide +kernel
theorem dL_isSo_93 : decode cL_isSo 93 = .ok (.invokevirtual 88, 3) := by decide +kernel
theorem dL_isSo_96 : decode cL_isSo 96 = .ok (.aload_n 2, 1) := by decide +kernel
theorem dL_isSo_97 : decode cL_isSo 97 = .ok (.iload 10, 2) := by decide +kernel
theorem dL_isSo_99 : decode cL_isSo 99 = .ok (.iconst 4, 1) := by decide +kernel
theorem dL_isSo_100 : decode cL_isSo 100 = .ok (.idiv, 1) := by decide +kernel
theorem dL_isSo_101 : decode cL_isSo 101 = .ok (.iload 10, 2) := by decide +kernel
theorem dL_isSo_103 : decode cL_isSo 103 = .ok (.iconst 4, 1) := by decide +kernel
theorem dL_isSo_104 : decode cL_isSo 104 = .ok (.idiv, 1) := by decide +kernel
theorem dL_isSo_105 : decode cL_isSo 105 = .ok (.invokestatic 9, 3) := by decide +kernel
theorem dL_isSo_108 : decode cL_isSo 108 = .ok (.if_icmp .ne 7, 3) := by decide +kernel
theorem dL_isSo_111 : decode cL_isSo 111 = .ok (.iconst 1, 1) := by decide +kernel
theorem dL_isSo_112 : decode cL_isSo 112 = .ok (.goto 4, 3) := by decide +kernel
theorem dL_isSo_115 : decode cL_isSo 115 = .ok (.iconst 0, 1) := by decide +kernel
theorem dL_isSo_116 : decode cL_isSo 116 = .ok (.istore 6, 2) := by decide +kernel
theorem dL_isSo_118 : decode cL_isSo 118 = .ok (.iinc 10 1, 3) := by decide +kernel
theorem dL_isSo_121 : decode cL_isSo 121 = .ok (.goto (-100), 3) := by decide +kernel
theorem dL_isSo_124 : decode cL_isSo 124 = .ok (.iconst 0, 1) := by decide +kernel
theorem dL_isSo_125 : decode cL_isSo 125 = .ok (.istore 10, 2) := by decide +kernel
theorem dL_isSo_127 : decode cL_isSo 127 = .ok (.iload 10, 2) := by decide +kernel
theorem dL_isSo_129 : decode cL_isSo 129 = .ok (.bipush 12, 2) := by decide +kernel
theorem dL_isSo_131 : decode cL_isSo 131 = .ok (.if_icmp .ge 88, 3) := by decide +kernel
theorem dL_isSo_134 : decode cL_isSo 134 = .ok (.iload 6, 2) := by decide +kernel
theorem dL_isSo_136 : decode cL_isSo 136 = .ok (.ifCond .eq 83, 3) := by decide +kernel
theorem dL_isSo_139 : decode cL_isSo 139 = .ok (.iload 7, 2) := by decide +kernel
theorem dL_isSo_141 : decode cL_isSo 141 = .ok (.iload 10, 2) := by decide +kernel
theorem dL_isSo_143 : decode cL_isSo 143 = .ok (.iconst 2, 1) := by decide +kernel
theorem dL_isSo_144 : decode cL_isSo 144 = .ok (.irem, 1) := by decide +kernel
theorem dL_isSo_145 : decode cL_isSo 145 = .ok (.iconst 1, 1) := by decide +kernel
theorem dL_isSo_146 : decode cL_isSo 146 = .ok (.if_icmp .ne 21, 3) := by decide +kernel
theorem dL_isSo_149 : decode cL_isSo 149 = .ok (.iload 10, 2) := by decide +kernel
theorem dL_isSo_151 : decode cL_isSo 151 = .ok (.iconst 2, 1) := by decide +kernel
theorem dL_isSo_152 : decode cL_isSo 152 = .ok (.idiv, 1) := by decide +kernel
theorem dL_isSo_153 : decode cL_isSo 153 = .ok (.aload_n 1, 1) := by decide +kernel
theorem dL_isSo_154 : decode cL_isSo 154 = .ok (.bipush 13, 2) := by decide +kernel
theorem dL_isSo_156 : decode cL_isSo 156 = .ok (.iaload, 1) := by decide +kernel
theorem dL_isSo_157 : decode cL_isSo 157 = .ok (.if_icmp .ge 10, 3) := by decide +kernel
theorem dL_isSo_160 : decode cL_isSo 160 = .ok (.aload_n 3, 1) := by decide +kernel
theorem dL_isSo_161 : decode cL_isSo 161 = .ok (.iload 10, 2) := by decide +kernel
theorem dL_isSo_163 : decode cL_isSo 163 = .ok (.iaload, 1) := by decide +kernel
theorem dL_isSo_164 : decode cL_isSo 164 = .ok (.goto 4, 3) := by decide +kernel
theorem dL_isSo_167 : decode cL_isSo 167 = .ok (.iconst 0, 1) := by decide +kernel
theorem dL_isSo_168 : decode cL_isSo 168 = .ok (.iadd, 1) := by decide +kernel
theorem dL_isSo_169 : decode cL_isSo 169 = .ok (.istore 7, 2) := by decide +kernel
theorem dL_isSo_171 : decode cL_isSo 171 = .ok (.aload_n 0, 1) := by decide +kernel
theorem dL_isSo_172 : decode cL_isSo 172 = .ok (.iload 10, 2) := by decide +kernel
theorem dL_isSo_174 : decode cL_isSo 174 = .ok (.iconst 2, 1) := by decide +kernel
theorem dL_isSo_175 : decode cL_isSo 175 = .ok (.idiv, 1) := by decide +kernel
theorem dL_isSo_176 : decode cL_isSo 176 = .ok (.iload 10, 2) := by decide +kernel
theorem dL_isSo_178 : decode cL_isSo 178 = .ok (.iconst 2, 1) := by decide +kernel
theorem dL_isSo_179 : decode cL_isSo 179 = .ok (.irem, 1) := by decide +kernel
theorem dL_isSo_180 : decode cL_isSo 180 = .ok (.invokevirtual 91, 3) := by decide +kernel
theorem dL_isSo_183 : decode cL_isSo 183 = .ok (.iload 10, 2) := by decide +kernel
theorem dL_isSo_185 : decode cL_isSo 185 = .ok (.iconst 2, 1) := by decide +kernel
theorem dL_isSo_186 : decode cL_isSo 186 = .ok (.idiv, 1) := by decide +kernel
theorem dL_isSo_187 : decode cL_isSo 187 = .ok (.aload_n 1, 1) := by decide +kernel
theorem dL_isSo_188 : decode cL_isSo 188 = .ok (.bipush 13, 2) := by decide +kernel
theorem dL_isSo_190 : decode cL_isSo 190 = .ok (.iaload, 1) := by decide +kernel
theorem dL_isSo_191 : decode cL_isSo 191 = .ok (.if_icmp .ge 10, 3) := by decide +kernel
theorem dL_isSo_194 : decode cL_isSo 194 = .ok (.aload_n 3, 1) := by decide +kernel
theorem dL_isSo_195 : decode cL_isSo 195 = .ok (.iload 10, 2) := by decide +kernel
theorem dL_isSo_197 : decode cL_isSo 197 = .ok (.iaload, 1) := by decide +kernel
theorem dL_isSo_198 : decode cL_isSo 198 = .ok (.goto 5, 3) := by decide +kernel
theorem dL_isSo_201 : decode cL_isSo 201 = .ok (.ldc 94, 2) := by decide +kernel
theorem dL_isSo_203 : decode cL_isSo 203 = .ok (.if_icmp .ne 7, 3) := by decide +kernel
theorem dL_isSo_206 : decode cL_isSo 206 = .ok (.iconst 1, 1) := by decide +kernel
theorem dL_isSo_207 : decode cL_isSo 207 = .ok (.goto 4, 3) := by decide +kernel
theorem dL_isSo_210 : decode cL_isSo 210 = .ok (.iconst 0, 1) := by decide +kernel
theorem dL_isSo_211 : decode cL_isSo 211 = .ok (.istore 6, 2) := by decide +kernel
theorem dL_isSo_213 : decode cL_isSo 213 = .ok (.iinc 10 1, 3) := by decide +kernel
theorem dL_isSo_216 : decode cL_isSo 216 = .ok (.goto (-89), 3) := by decide +kernel
theorem dL_isSo_219 : decode cL_isSo 219 = .ok (.iconst 0, 1) := by decide +kernel
theorem dL_isSo_220 : decode cL_isSo 220 = .ok (.istore 10, 2) := by decide +kernel
theorem dL_isSo_222 : decode cL_isSo 222 = .ok (.iload 10, 2) := by decide +kernel
theorem dL_isSo_224 : decode cL_isSo 224 = .ok (.aload_n 1, 1) := by decide +kernel
theorem dL_isSo_225 : decode cL_isSo 225 = .ok (.bipush 14, 2) := by decide +kernel
theorem dL_isSo_227 : decode cL_isSo 227 = .ok (.iaload, 1) := by decide +kernel
theorem dL_isSo_228 : decode cL_isSo 228 = .ok (.if_icmp .ge 83, 3) := by decide +kernel
theorem dL_isSo_231 : decode cL_isSo 231 = .ok (.iload 6, 2) := by decide +kernel
theorem dL_isSo_233 : decode cL_isSo 233 = .ok (.ifCond .eq 78, 3) := by decide +kernel
theorem dL_isSo_236 : decode cL_isSo 236 = .ok (.iload 9, 2) := by decide +kernel
theorem dL_isSo_238 : decode cL_isSo 238 = .ok (.aload 5, 2) := by decide +kernel
theorem dL_isSo_240 : decode cL_isSo 240 = .ok (.iconst 2, 1) := by decide +kernel
theorem dL_isSo_241 : decode cL_isSo 241 = .ok (.iload 10, 2) := by decide +kernel
theorem dL_isSo_243 : decode cL_isSo 243 = .ok (.imul, 1) := by decide +kernel
theorem dL_isSo_244 : decode cL_isSo 244 = .ok (.iconst 1, 1) := by decide +kernel
theorem dL_isSo_245 : decode cL_isSo 245 = .ok (.iadd, 1) := by decide +kernel
theorem dL_isSo_246 : decode cL_isSo 246 = .ok (.iaload, 1) := by decide +kernel
theorem dL_isSo_247 : decode cL_isSo 247 = .ok (.iadd, 1) := by decide +kernel
theorem dL_isSo_248 : decode cL_isSo 248 = .ok (.istore 9, 2) := by decide +kernel
theorem dL_isSo_250 : decode cL_isSo 250 = .ok (.aload_n 0, 1) := by decide +kernel
theorem dL_isSo_251 : decode cL_isSo 251 = .ok (.iload 10, 2) := by decide +kernel
theorem dL_isSo_253 : decode cL_isSo 253 = .ok (.iconst 0, 1) := by decide +kernel
theorem dL_isSo_254 : decode cL_isSo 254 = .ok (.invokevirtual 95, 3) := by decide +kernel
theorem dL_isSo_257 : decode cL_isSo 257 = .ok (.aload 5, 2) := by decide +kernel
theorem dL_isSo_259 : decode cL_isSo 259 = .ok (.iconst 2, 1) := by decide +kernel
theorem dL_isSo_260 : decode cL_isSo 260 = .ok (.iload 10, 2) := by decide +kernel
theorem dL_isSo_262 : decode cL_isSo 262 = .ok (.imul, 1) := by decide +kernel
theorem dL_isSo_263 : decode cL_isSo 263 = .ok (.iaload, 1) := by decide +kernel
theorem dL_isSo_264 : decode cL_isSo 264 = .ok (.if_icmp .ne 38, 3) := by decide +kernel
theorem dL_isSo_267 : decode cL_isSo 267 = .ok (.aload_n 0, 1) := by decide +kernel
theorem dL_isSo_268 : decode cL_isSo 268 = .ok (.iload 10, 2) := by decide +kernel
