theorem dL_cuts_240 : decode cL_cuts 240 = .ok (.iconst 0, 1) := by decide +kernel
theorem dL_cuts_241 : decode cL_cuts 241 = .ok (.iconst 0, 1) := by decide +kernel
theorem dL_cuts_242 : decode cL_cuts 242 = .ok (.iconst 0, 1) := by decide +kernel
theorem dL_cuts_243 : decode cL_cuts 243 = .ok (.invokestatic 170, 3) := by decide +kernel
theorem dL_cuts_246 : decode cL_cuts 246 = .ok (.ifCond .lt 16, 3) := by decide +kernel
theorem dL_cuts_249 : decode cL_cuts 249 = .ok (.aload_n 0, 1) := by decide +kernel
theorem dL_cuts_250 : decode cL_cuts 250 = .ok (.invokestatic 184, 3) := by decide +kernel
theorem dL_cuts_253 : decode cL_cuts 253 = .ok (.lload_n 3, 1) := by decide +kernel
theorem dL_cuts_254 : decode cL_cuts 254 = .ok (.lcmp, 1) := by decide +kernel
theorem dL_cuts_255 : decode cL_cuts 255 = .ok (.ifCond .ne 7, 3) := by decide +kernel
theorem dL_cuts_258 : decode cL_cuts 258 = .ok (.iconst 1, 1) := by decide +kernel
theorem dL_cuts_259 : decode cL_cuts 259 = .ok (.goto 4, 3) := by decide +kernel
theorem dL_cuts_262 : decode cL_cuts 262 = .ok (.iconst 0, 1) := by decide +kernel
theorem dL_cuts_263 : decode cL_cuts 263 = .ok (.ireturn, 1) := by decide +kernel
theorem dL_lacks_0 : decode cL_lacks 0 = .ok (.iconst 0, 1) := by decide +kernel
theorem dL_lacks_1 : decode cL_lacks 1 = .ok (.istore_n 1, 1) := by decide +kernel
theorem dL_lacks_2 : decode cL_lacks 2 = .ok (.iconst 0, 1) := by decide +kernel
theorem dL_lacks_3 : decode cL_lacks 3 = .ok (.istore_n 2, 1) := by decide +kernel
theorem dL_lacks_4 : decode cL_lacks 4 = .ok (.iload_n 2, 1) := by decide +kernel
theorem dL_lacks_5 : decode cL_lacks 5 = .ok (.aload_n 0, 1) := by decide +kernel
theorem dL_lacks_6 : decode cL_lacks 6 = .ok (.iconst 0, 1) := by decide +kernel
theorem dL_lacks_7 : decode cL_lacks 7 = .ok (.invokestatic 176, 3) := by decide +kernel
theorem dL_lacks_10 : decode cL_lacks 10 = .ok (.if_icmp .ge 18, 3) := by decide +kernel
theorem dL_lacks_13 : decode cL_lacks 13 = .ok (.iload_n 1, 1) := by decide +kernel
theorem dL_lacks_14 : decode cL_lacks 14 = .ok (.aload_n 0, 1) := by decide +kernel
theorem dL_lacks_15 : decode cL_lacks 15 = .ok (.iload_n 2, 1) := by decide +kernel
theorem dL_lacks_16 : decode cL_lacks 16 = .ok (.iconst 4, 1) := by decide +kernel
theorem dL_lacks_17 : decode cL_lacks 17 = .ok (.invokestatic 178, 3) := by decide +kernel
theorem dL_lacks_20 : decode cL_lacks 20 = .ok (.iadd, 1) := by decide +kernel
theorem dL_lacks_21 : decode cL_lacks 21 = .ok (.istore_n 1, 1) := by decide +kernel
theorem dL_lacks_22 : decode cL_lacks 22 = .ok (.iinc 2 1, 3) := by decide +kernel
theorem dL_lacks_25 : decode cL_lacks 25 = .ok (.goto (-21), 3) := by decide +kernel
theorem dL_lacks_28 : decode cL_lacks 28 = .ok (.aload_n 0, 1) := by decide +kernel
theorem dL_lacks_29 : decode cL_lacks 29 = .ok (.invokevirtual 191, 3) := by decide +kernel
theorem dL_lacks_32 : decode cL_lacks 32 = .ok (.istore_n 2, 1) := by decide +kernel
theorem dL_lacks_33 : decode cL_lacks 33 = .ok (.aload_n 0, 1) := by decide +kernel
theorem dL_lacks_34 : decode cL_lacks 34 = .ok (.invokevirtual 194, 3) := by decide +kernel
theorem dL_lacks_37 : decode cL_lacks 37 = .ok (.istore_n 3, 1) := by decide +kernel
theorem dL_lacks_38 : decode cL_lacks 38 = .ok (.iload_n 1, 1) := by decide +kernel
theorem dL_lacks_39 : decode cL_lacks 39 = .ok (.ifCond .ne 7, 3) := by decide +kernel
theorem dL_lacks_42 : decode cL_lacks 42 = .ok (.iconst 1, 1) := by decide +kernel
theorem dL_lacks_43 : decode cL_lacks 43 = .ok (.goto 4, 3) := by decide +kernel
theorem dL_lacks_46 : decode cL_lacks 46 = .ok (.iconst 0, 1) := by decide +kernel
theorem dL_lacks_47 : decode cL_lacks 47 = .ok (.iload_n 2, 1) := by decide +kernel
theorem dL_lacks_48 : decode cL_lacks 48 = .ok (.ifCond .ne 7, 3) := by decide +kernel
theorem dL_lacks_51 : decode cL_lacks 51 = .ok (.iconst 1, 1) := by decide +kernel
theorem dL_lacks_52 : decode cL_lacks 52 = .ok (.goto 4, 3) := by decide +kernel
theorem dL_lacks_55 : decode cL_lacks 55 = .ok (.iconst 0, 1) := by decide +kernel
theorem dL_lacks_56 : decode cL_lacks 56 = .ok (.if_icmp .ne 44, 3) := by decide +kernel
theorem dL_lacks_59 : decode cL_lacks 59 = .ok (.iload_n 1, 1) := by decide +kernel
theorem dL_lacks_60 : decode cL_lacks 60 = .ok (.ifCond .ne 7, 3) := by decide +kernel
theorem dL_lacks_63 : decode cL_lacks 63 = .ok (.iconst 1, 1) := by decide +kernel
theorem dL_lacks_64 : decode cL_lacks 64 = .ok (.goto 4, 3) := by decide +kernel
theorem dL_lacks_67 : decode cL_lacks 67 = .ok (.iconst 0, 1) := by decide +kernel
theorem dL_lacks_68 : decode cL_lacks 68 = .ok (.iload_n 3, 1) := by decide +kernel
theorem dL_lacks_69 : decode cL_lacks 69 = .ok (.ifCond .ne 7, 3) := by decide +kernel
theorem dL_lacks_72 : decode cL_lacks 72 = .ok (.iconst 1, 1) := by decide +kernel
theorem dL_lacks_73 : decode cL_lacks 73 = .ok (.goto 4, 3) := by decide +kernel
theorem dL_lacks_76 : decode cL_lacks 76 = .ok (.iconst 0, 1) := by decide +kernel
theorem dL_lacks_77 : decode cL_lacks 77 = .ok (.if_icmp .ne 23, 3) := by decide +kernel
theorem dL_lacks_80 : decode cL_lacks 80 = .ok (.iload_n 3, 1) := by decide +kernel
theorem dL_lacks_81 : decode cL_lacks 81 = .ok (.bipush (-9), 2) := by decide +kernel
theorem dL_lacks_83 : decode cL_lacks 83 = .ok (.if_icmp .eq 13, 3) := by decide +kernel
theorem dL_lacks_86 : decode cL_lacks 86 = .ok (.iload_n 3, 1) := by decide +kernel
theorem dL_lacks_87 : decode cL_lacks 87 = .ok (.ifCond .lt 13, 3) := by decide +kernel
theorem dL_lacks_90 : decode cL_lacks 90 = .ok (.iload_n 3, 1) := by decide +kernel
theorem dL_lacks_91 : decode cL_lacks 91 = .ok (.bipush 99, 2) := by decide +kernel
theorem dL_lacks_93 : decode cL_lacks 93 = .ok (.if_icmp .gt 7, 3) := by decide +kernel
theorem dL_lacks_96 : decode cL_lacks 96 = .ok (.iconst 1, 1) := by decide +kernel
theorem dL_lacks_97 : decode cL_lacks 97 = .ok (.goto 4, 3) := by decide +kernel
theorem dL_lacks_100 : decode cL_lacks 100 = .ok (.iconst 0, 1) := by decide +kernel
theorem dL_lacks_101 : decode cL_lacks 101 = .ok (.istore 4, 2) := by decide +kernel
theorem dL_lacks_103 : decode cL_lacks 103 = .ok (.iload_n 3, 1) := by decide +kernel
theorem dL_lacks_104 : decode cL_lacks 104 = .ok (.iconst 1, 1) := by decide +kernel
theorem dL_lacks_105 : decode cL_lacks 105 = .ok (.if_icmp .le 110, 3) := by decide +kernel
theorem dL_lacks_108 : decode cL_lacks 108 = .ok (.aload_n 0, 1) := by decide +kernel
theorem dL_lacks_109 : decode cL_lacks 109 = .ok (.iconst 4, 1) := by decide +kernel
theorem dL_lacks_110 : decode cL_lacks 110 = .ok (.invokestatic 176, 3) := by decide +kernel
theorem dL_lacks_113 : decode cL_lacks 113 = .ok (.ifCond .ne 102, 3) := by decide +kernel
theorem dL_lacks_116 : decode cL_lacks 116 = .ok (.iconst (-1), 1) := by decide +kernel
theorem dL_lacks_117 : decode cL_lacks 117 = .ok (.istore 5, 2) := by decide +kernel
theorem dL_lacks_119 : decode cL_lacks 119 = .ok (.iconst 0, 1) := by decide +kernel
theorem dL_lacks_120 : decode cL_lacks 120 = .ok (.istore 6, 2) := by decide +kernel
theorem dL_lacks_122 : decode cL_lacks 122 = .ok (.iload 6, 2) := by decide +kernel
theorem dL_lacks_124 : decode cL_lacks 124 = .ok (.aload_n 0, 1) := by decide +kernel
theorem dL_lacks_125 : decode cL_lacks 125 = .ok (.iconst 1, 1) := by decide +kernel
theorem dL_lacks_126 : decode cL_lacks 126 = .ok (.invokestatic 176, 3) := by decide +kernel
theorem dL_lacks_129 : decode cL_lacks 129 = .ok (.if_icmp .ge 35, 3) := by decide +kernel
theorem dL_lacks_132 : decode cL_lacks 132 = .ok (.aload_n 0, 1) := by decide +kernel
theorem dL_lacks_133 : decode cL_lacks 133 = .ok (.iload 6, 2) := by decide +kernel
theorem dL_lacks_135 : decode cL_lacks 135 = .ok (.iconst 2, 1) := by decide +kernel
theorem dL_lacks_136 : decode cL_lacks 136 = .ok (.invokestatic 180, 3) := by decide +kernel
theorem dL_lacks_139 : decode cL_lacks 139 = .ok (.aload_n 0, 1) := by decide +kernel
theorem dL_lacks_140 : decode cL_lacks 140 = .ok (.iload 6, 2) := by decide +kernel
theorem dL_lacks_142 : decode cL_lacks 142 = .ok (.iconst 1, 1) := by decide +kernel
theorem dL_lacks_143 : decode cL_lacks 143 = .ok (.invokestatic 180, 3) := by decide +kernel
theorem dL_lacks_146 : decode cL_lacks 146 = .ok (.if_icmp .ge 8, 3) := by decide +kernel
theorem dL_lacks_149 : decode cL_lacks 149 = .ok (.iload 6, 2) := by decide +kernel
theorem dL_lacks_151 : decode cL_lacks 151 = .ok (.goto 5, 3) := by decide +kernel
theorem dL_lacks_154 : decode cL_lacks 154 = .ok (.iload 5, 2) := by decide +kernel
theorem dL_lacks_156 : decode cL_lacks 156 = .ok (.istore 5, 2) := by decide +kernel
theorem dL_lacks_158 : decode cL_lacks 158 = .ok (.iinc 6 1, 3) := by decide +kernel
theorem dL_lacks_161 : decode cL_lacks 161 = .ok (.goto (-39), 3) := by decide +kernel
theorem dL_lacks_164 : decode cL_lacks 164 = .ok (.iload 4, 2) := by decide +kernel
theorem dL_lacks_166 : decode cL_lacks 166 = .ok (.aload_n 0, 1) := by decide +kernel
theorem dL_lacks_167 : decode cL_lacks 167 = .ok (.iconst 0, 1) := by decide +kernel
theorem dL_lacks_168 : decode cL_lacks 168 = .ok (.invokevirtual 197, 3) := by decide +kernel
theorem dL_lacks_171 : decode cL_lacks 171 = .ok (.ifCond .le 40, 3) := by decide +kernel
theorem dL_lacks_174 : decode cL_lacks 174 = .ok (.aload_n 0, 1) := by decide +kernel
theorem dL_lacks_175 : decode cL_lacks 175 = .ok (.invokevirtual 194, 3) := by decide +kernel
theorem dL_lacks_178 : decode cL_lacks 178 = .ok (.ifCond .eq 33, 3) := by decide +kernel
theorem dL_lacks_181 : decode cL_lacks 181 = .ok (.iload 5, 2) := by decide +kernel
theorem dL_lacks_183 : decode cL_lacks 183 = .ok (.ifCond .ge 11, 3) := by decide +kernel
theorem dL_lacks_186 : decode cL_lacks 186 = .ok (.aload_n 0, 1) := by decide +kernel
theorem dL_lacks_187 : decode cL_lacks 187 = .ok (.invokevirtual 194, 3) := by decide +kernel
theorem dL_lacks_190 : decode cL_lacks 190 = .ok (.iload_n 3, 1) := by decide +kernel
theorem dL_lacks_191 : decode cL_lacks 191 = .ok (.if_icmp .ne 20, 3) := by decide +kernel
theorem dL_lacks_194 : decode cL_lacks 194 = .ok (.aload_n 0, 1) := by decide +kernel
theorem dL_lacks_195 : decode cL_lacks 195 = .ok (.bipush 16, 2) := by decide +kernel
theorem dL_lacks_197 : decode cL_lacks 197 = .ok (.iconst 0, 1) := by decide +kernel
theorem dL_lacks_198 : decode cL_lacks 198 = .ok (.iconst 0, 1) := by decide +kernel
theorem dL_lacks_199 : decode cL_lacks 199 = .ok (.iconst 0, 1) := by decide +kernel
theorem dL_lacks_200 : decode cL_lacks 200 = .ok (.iconst 0, 1) := by decide +kernel
theorem dL_lacks_201 : decode cL_lacks 201 = .ok (.invokestatic 170, 3) := by decide +kernel
theorem dL_lacks_204 : decode cL_lacks 204 = .ok (.ifCond .lt 7, 3) := by decide +kernel
theorem dL_lacks_207 : decode cL_lacks 207 = .ok (.iconst 1, 1) := by decide +kernel
theorem dL_lacks_208 : decode cL_lacks 208 = .ok (.goto 4, 3) := by decide +kernel
theorem dL_lacks_211 : decode cL_lacks 211 = .ok (.iconst 0, 1) := by decide +kernel
theorem dL_lacks_212 : decode cL_lacks 212 = .ok (.iand, 1) := by decide +kernel
theorem dL_lacks_213 : decode cL_lacks 213 = .ok (.istore 4, 2) := by decide +kernel
theorem dL_lacks_215 : decode cL_lacks 215 = .ok (.iload 4, 2) := by decide +kernel
theorem dL_lacks_217 : decode cL_lacks 217 = .ok (.ireturn, 1) := by decide +kernel
theorem dL_pays_0 : decode cL_pays 0 = .ok (.aload_n 0, 1) := by decide +kernel
theorem dL_pays_1 : decode cL_pays 1 = .ok (.invokestatic 184, 3) := by decide +kernel
theorem dL_pays_4 : decode cL_pays 4 = .ok (.lstore_n 1, 1) := by decide +kernel
theorem dL_pays_5 : decode cL_pays 5 = .ok (.aload_n 0, 1) := by decide +kernel
theorem dL_pays_6 : decode cL_pays 6 = .ok (.bipush 9, 2) := by decide +kernel
theorem dL_pays_8 : decode cL_pays 8 = .ok (.invokestatic 176, 3) := by decide +kernel
theorem dL_pays_11 : decode cL_pays 11 = .ok (.istore_n 3, 1) := by decide +kernel
theorem dL_pays_12 : decode cL_pays 12 = .ok (.aload_n 0, 1) := by decide +kernel
theorem dL_pays_13 : decode cL_pays 13 = .ok (.bipush 10, 2) := by decide +kernel
theorem dL_pays_15 : decode cL_pays 15 = .ok (.invokestatic 176, 3) := by decide +kernel
theorem dL_pays_18 : decode cL_pays 18 = .ok (.istore 4, 2) := by decide +kernel
theorem dL_pays_20 : decode cL_pays 20 = .ok (.aload_n 0, 1) := by decide +kernel
theorem dL_pays_21 : decode cL_pays 21 = .ok (.invokevirtual 201, 3) := by decide +kernel
theorem dL_pays_24 : decode cL_pays 24 = .ok (.iload_n 3, 1) := by decide +kernel
theorem dL_pays_25 : decode cL_pays 25 = .ok (.if_icmp .ne 42, 3) := by decide +kernel
theorem dL_pays_28 : decode cL_pays 28 = .ok (.aload_n 0, 1) := by decide +kernel
theorem dL_pays_29 : decode cL_pays 29 = .ok (.bipush 9, 2) := by decide +kernel
theorem dL_pays_31 : decode cL_pays 31 = .ok (.invokestatic 176, 3) := by decide +kernel
theorem dL_pays_34 : decode cL_pays 34 = .ok (.ifCond .ne 33, 3) := by decide +kernel
theorem dL_pays_37 : decode cL_pays 37 = .ok (.aload_n 0, 1) := by decide +kernel
theorem dL_pays_38 : decode cL_pays 38 = .ok (.bipush 10, 2) := by decide +kernel
theorem dL_pays_40 : decode cL_pays 40 = .ok (.invokestatic 176, 3) := by decide +kernel
theorem dL_pays_43 : decode cL_pays 43 = .ok (.iload 4, 2) := by decide +kernel
theorem dL_pays_45 : decode cL_pays 45 = .ok (.iload_n 3, 1) := by decide +kernel
theorem dL_pays_46 : decode cL_pays 46 = .ok (.iadd, 1) := by decide +kernel
theorem dL_pays_47 : decode cL_pays 47 = .ok (.if_icmp .ne 20, 3) := by decide +kernel
theorem dL_pays_50 : decode cL_pays 50 = .ok (.aload_n 0, 1) := by decide +kernel
theorem dL_pays_51 : decode cL_pays 51 = .ok (.iconst 1, 1) := by decide +kernel
theorem dL_pays_52 : decode cL_pays 52 = .ok (.invokevirtual 197, 3) := by decide +kernel
theorem dL_pays_55 : decode cL_pays 55 = .ok (.aload_n 0, 1) := by decide +kernel
theorem dL_pays_56 : decode cL_pays 56 = .ok (.iconst 3, 1) := by decide +kernel
theorem dL_pays_57 : decode cL_pays 57 = .ok (.invokestatic 176, 3) := by decide +kernel
theorem dL_pays_60 : decode cL_pays 60 = .ok (.if_icmp .ne 7, 3) := by decide +kernel
theorem dL_pays_63 : decode cL_pays 63 = .ok (.iconst 1, 1) := by decide +kernel
theorem dL_pays_64 : decode cL_pays 64 = .ok (.goto 4, 3) := by decide +kernel
theorem dL_pays_67 : decode cL_pays 67 = .ok (.iconst 0, 1) := by decide +kernel
theorem dL_pays_68 : decode cL_pays 68 = .ok (.istore 5, 2) := by decide +kernel
theorem dL_pays_70 : decode cL_pays 70 = .ok (.iconst 0, 1) := by decide +kernel
theorem dL_pays_71 : decode cL_pays 71 = .ok (.istore 6, 2) := by decide +kernel
theorem dL_pays_73 : decode cL_pays 73 = .ok (.iconst 0, 1) := by decide +kernel
theorem dL_pays_74 : decode cL_pays 74 = .ok (.istore 7, 2) := by decide +kernel
theorem dL_pays_76 : decode cL_pays 76 = .ok (.iload 7, 2) := by decide +kernel
theorem dL_pays_78 : decode cL_pays 78 = .ok (.aload_n 0, 1) := by decide +kernel
theorem dL_pays_79 : decode cL_pays 79 = .ok (.iconst 1, 1) := by decide +kernel
theorem dL_pays_80 : decode cL_pays 80 = .ok (.invokestatic 176, 3) := by decide +kernel
theorem dL_pays_83 : decode cL_pays 83 = .ok (.if_icmp .ge 21, 3) := by decide +kernel
theorem dL_pays_86 : decode cL_pays 86 = .ok (.iload 6, 2) := by decide +kernel
theorem dL_pays_88 : decode cL_pays 88 = .ok (.aload_n 0, 1) := by decide +kernel
theorem dL_pays_89 : decode cL_pays 89 = .ok (.iload 7, 2) := by decide +kernel
theorem dL_pays_91 : decode cL_pays 91 = .ok (.iconst 0, 1) := by decide +kernel
theorem dL_pays_92 : decode cL_pays 92 = .ok (.invokestatic 180, 3) := by decide +kernel
theorem dL_pays_95 : decode cL_pays 95 = .ok (.iadd, 1) := by decide +kernel
theorem dL_pays_96 : decode cL_pays 96 = .ok (.istore 6, 2) := by decide +kernel
theorem dL_pays_98 : decode cL_pays 98 = .ok (.iinc 7 1, 3) := by decide +kernel
theorem dL_pays_101 : decode cL_pays 101 = .ok (.goto (-25), 3) := by decide +kernel
theorem dL_pays_104 : decode cL_pays 104 = .ok (.iload 5, 2) := by decide +kernel
theorem dL_pays_106 : decode cL_pays 106 = .ok (.aload_n 0, 1) := by decide +kernel
theorem dL_pays_107 : decode cL_pays 107 = .ok (.bipush 9, 2) := by decide +kernel
theorem dL_pays_109 : decode cL_pays 109 = .ok (.invokestatic 176, 3) := by decide +kernel
theorem dL_pays_112 : decode cL_pays 112 = .ok (.iconst 2, 1) := by decide +kernel
theorem dL_pays_113 : decode cL_pays 113 = .ok (.iload 6, 2) := by decide +kernel
theorem dL_pays_115 : decode cL_pays 115 = .ok (.imul, 1) := by decide +kernel
theorem dL_pays_116 : decode cL_pays 116 = .ok (.if_icmp .ne 14, 3) := by decide +kernel
theorem dL_pays_119 : decode cL_pays 119 = .ok (.aload_n 0, 1) := by decide +kernel
theorem dL_pays_120 : decode cL_pays 120 = .ok (.invokevirtual 188, 3) := by decide +kernel
theorem dL_pays_123 : decode cL_pays 123 = .ok (.ifCond .ne 7, 3) := by decide +kernel
theorem dL_pays_126 : decode cL_pays 126 = .ok (.iconst 1, 1) := by decide +kernel
theorem dL_pays_127 : decode cL_pays 127 = .ok (.goto 4, 3) := by decide +kernel
theorem dL_pays_130 : decode cL_pays 130 = .ok (.iconst 0, 1) := by decide +kernel
theorem dL_pays_131 : decode cL_pays 131 = .ok (.iand, 1) := by decide +kernel
theorem dL_pays_132 : decode cL_pays 132 = .ok (.istore 5, 2) := by decide +kernel
theorem dL_pays_134 : decode cL_pays 134 = .ok (.iload 5, 2) := by decide +kernel
theorem dL_pays_136 : decode cL_pays 136 = .ok (.ifCond .eq 42, 3) := by decide +kernel
theorem dL_pays_139 : decode cL_pays 139 = .ok (.aload_n 0, 1) := by decide +kernel
theorem dL_pays_140 : decode cL_pays 140 = .ok (.bipush 16, 2) := by decide +kernel
theorem dL_pays_142 : decode cL_pays 142 = .ok (.iconst 0, 1) := by decide +kernel
theorem dL_pays_143 : decode cL_pays 143 = .ok (.iconst 0, 1) := by decide +kernel
theorem dL_pays_144 : decode cL_pays 144 = .ok (.iconst 0, 1) := by decide +kernel
theorem dL_pays_145 : decode cL_pays 145 = .ok (.iconst 0, 1) := by decide +kernel
theorem dL_pays_146 : decode cL_pays 146 = .ok (.invokestatic 170, 3) := by decide +kernel
theorem dL_pays_149 : decode cL_pays 149 = .ok (.ifCond .lt 29, 3) := by decide +kernel
theorem dL_pays_152 : decode cL_pays 152 = .ok (.aload_n 0, 1) := by decide +kernel
theorem dL_pays_153 : decode cL_pays 153 = .ok (.bipush 16, 2) := by decide +kernel
theorem dL_pays_155 : decode cL_pays 155 = .ok (.iconst 0, 1) := by decide +kernel
theorem dL_pays_156 : decode cL_pays 156 = .ok (.iconst 0, 1) := by decide +kernel
theorem dL_pays_157 : decode cL_pays 157 = .ok (.iconst 0, 1) := by decide +kernel
theorem dL_pays_158 : decode cL_pays 158 = .ok (.iconst 0, 1) := by decide +kernel
theorem dL_pays_159 : decode cL_pays 159 = .ok (.invokestatic 170, 3) := by decide +kernel
theorem dL_pays_162 : decode cL_pays 162 = .ok (.ifCond .lt 16, 3) := by decide +kernel
theorem dL_pays_165 : decode cL_pays 165 = .ok (.aload_n 0, 1) := by decide +kernel
theorem dL_pays_166 : decode cL_pays 166 = .ok (.invokestatic 184, 3) := by decide +kernel
theorem dL_pays_169 : decode cL_pays 169 = .ok (.lload_n 1, 1) := by decide +kernel
theorem dL_pays_170 : decode cL_pays 170 = .ok (.lcmp, 1) := by decide +kernel
theorem dL_pays_171 : decode cL_pays 171 = .ok (.ifCond .ne 7, 3) := by decide +kernel
theorem dL_pays_174 : decode cL_pays 174 = .ok (.iconst 1, 1) := by decide +kernel
theorem dL_pays_175 : decode cL_pays 175 = .ok (.goto 4, 3) := by decide +kernel
theorem dL_pays_178 : decode cL_pays 178 = .ok (.iconst 0, 1) := by decide +kernel
theorem dL_pays_179 : decode cL_pays 179 = .ok (.ireturn, 1) := by decide +kernel
theorem dL_fails_0 : decode cL_fails 0 = .ok (.aload_n 0, 1) := by decide +kernel
theorem dL_fails_1 : decode cL_fails 1 = .ok (.iconst 0, 1) := by decide +kernel
theorem dL_fails_2 : decode cL_fails 2 = .ok (.invokestatic 176, 3) := by decide +kernel
theorem dL_fails_5 : decode cL_fails 5 = .ok (.istore_n 2, 1) := by decide +kernel
theorem dL_fails_6 : decode cL_fails 6 = .ok (.aload_n 0, 1) := by decide +kernel
theorem dL_fails_7 : decode cL_fails 7 = .ok (.iconst 1, 1) := by decide +kernel
theorem dL_fails_8 : decode cL_fails 8 = .ok (.invokestatic 176, 3) := by decide +kernel
theorem dL_fails_11 : decode cL_fails 11 = .ok (.istore_n 3, 1) := by decide +kernel
theorem dL_fails_12 : decode cL_fails 12 = .ok (.aload_n 0, 1) := by decide +kernel
theorem dL_fails_13 : decode cL_fails 13 = .ok (.iconst 2, 1) := by decide +kernel
theorem dL_fails_14 : decode cL_fails 14 = .ok (.invokestatic 176, 3) := by decide +kernel
theorem dL_fails_17 : decode cL_fails 17 = .ok (.istore 4, 2) := by decide +kernel
theorem dL_fails_19 : decode cL_fails 19 = .ok (.aload_n 0, 1) := by decide +kernel
theorem dL_fails_20 : decode cL_fails 20 = .ok (.iconst 0, 1) := by decide +kernel
theorem dL_fails_21 : decode cL_fails 21 = .ok (.sipush 256, 3) := by decide +kernel
theorem dL_fails_24 : decode cL_fails 24 = .ok (.iload_n 1, 1) := by decide +kernel
theorem dL_fails_25 : decode cL_fails 25 = .ok (.bipush 9, 2) := by decide +kernel
theorem dL_fails_27 : decode cL_fails 27 = .ok (.irem, 1) := by decide +kernel
theorem dL_fails_28 : decode cL_fails 28 = .ok (.iadd, 1) := by decide +kernel
theorem dL_fails_29 : decode cL_fails 29 = .ok (.iconst 0, 1) := by decide +kernel
theorem dL_fails_30 : decode cL_fails 30 = .ok (.iconst 0, 1) := by decide +kernel
theorem dL_fails_31 : decode cL_fails 31 = .ok (.iconst 0, 1) := by decide +kernel
theorem dL_fails_32 : decode cL_fails 32 = .ok (.invokestatic 170, 3) := by decide +kernel
theorem dL_fails_35 : decode cL_fails 35 = .ok (.ldc 15, 2) := by decide +kernel
theorem dL_fails_37 : decode cL_fails 37 = .ok (.if_icmp .ne 92, 3) := by decide +kernel
theorem dL_fails_40 : decode cL_fails 40 = .ok (.aload_n 0, 1) := by decide +kernel
theorem dL_fails_41 : decode cL_fails 41 = .ok (.bipush 12, 2) := by decide +kernel
theorem dL_fails_43 : decode cL_fails 43 = .ok (.invokestatic 176, 3) := by decide +kernel
theorem dL_fails_46 : decode cL_fails 46 = .ok (.ldc 15, 2) := by decide +kernel
theorem dL_fails_48 : decode cL_fails 48 = .ok (.if_icmp .ne 81, 3) := by decide +kernel
theorem dL_fails_51 : decode cL_fails 51 = .ok (.aload_n 0, 1) := by decide +kernel
theorem dL_fails_52 : decode cL_fails 52 = .ok (.iload_n 2, 1) := by decide +kernel
theorem dL_fails_53 : decode cL_fails 53 = .ok (.iconst 0, 1) := by decide +kernel
theorem dL_fails_54 : decode cL_fails 54 = .ok (.invokestatic 178, 3) := by decide +kernel
theorem dL_fails_57 : decode cL_fails 57 = .ok (.ldc 40, 2) := by decide +kernel
theorem dL_fails_59 : decode cL_fails 59 = .ok (.if_icmp .ne 70, 3) := by decide +kernel
theorem dL_fails_62 : decode cL_fails 62 = .ok (.aload_n 0, 1) := by decide +kernel
theorem dL_fails_63 : decode cL_fails 63 = .ok (.iconst 0, 1) := by decide +kernel
theorem dL_fails_64 : decode cL_fails 64 = .ok (.bipush 7, 2) := by decide +kernel
theorem dL_fails_66 : decode cL_fails 66 = .ok (.invokestatic 178, 3) := by decide +kernel
theorem dL_fails_69 : decode cL_fails 69 = .ok (.ldc 15, 2) := by decide +kernel
theorem dL_fails_71 : decode cL_fails 71 = .ok (.if_icmp .ne 58, 3) := by decide +kernel
theorem dL_fails_74 : decode cL_fails 74 = .ok (.aload_n 0, 1) := by decide +kernel
theorem dL_fails_75 : decode cL_fails 75 = .ok (.iload_n 3, 1) := by decide +kernel
theorem dL_fails_76 : decode cL_fails 76 = .ok (.iconst 0, 1) := by decide +kernel
theorem dL_fails_77 : decode cL_fails 77 = .ok (.invokestatic 180, 3) := by decide +kernel
theorem dL_fails_80 : decode cL_fails 80 = .ok (.ldc 40, 2) := by decide +kernel
theorem dL_fails_82 : decode cL_fails 82 = .ok (.if_icmp .ne 47, 3) := by decide +kernel
theorem dL_fails_85 : decode cL_fails 85 = .ok (.aload_n 0, 1) := by decide +kernel
theorem dL_fails_86 : decode cL_fails 86 = .ok (.iconst 0, 1) := by decide +kernel
theorem dL_fails_87 : decode cL_fails 87 = .ok (.bipush 6, 2) := by decide +kernel
theorem dL_fails_89 : decode cL_fails 89 = .ok (.invokestatic 180, 3) := by decide +kernel
theorem dL_fails_92 : decode cL_fails 92 = .ok (.ldc 15, 2) := by decide +kernel
theorem dL_fails_94 : decode cL_fails 94 = .ok (.if_icmp .ne 35, 3) := by decide +kernel
theorem dL_fails_97 : decode cL_fails 97 = .ok (.aload_n 0, 1) := by decide +kernel
theorem dL_fails_98 : decode cL_fails 98 = .ok (.iload 4, 2) := by decide +kernel
theorem dL_fails_100 : decode cL_fails 100 = .ok (.iconst 0, 1) := by decide +kernel
theorem dL_fails_101 : decode cL_fails 101 = .ok (.invokestatic 182, 3) := by decide +kernel
theorem dL_fails_104 : decode cL_fails 104 = .ok (.ldc 40, 2) := by decide +kernel
theorem dL_fails_106 : decode cL_fails 106 = .ok (.if_icmp .ne 23, 3) := by decide +kernel
theorem dL_fails_109 : decode cL_fails 109 = .ok (.aload_n 0, 1) := by decide +kernel
theorem dL_fails_110 : decode cL_fails 110 = .ok (.bipush 6, 2) := by decide +kernel
theorem dL_fails_112 : decode cL_fails 112 = .ok (.iload 4, 2) := by decide +kernel
theorem dL_fails_114 : decode cL_fails 114 = .ok (.iconst 0, 1) := by decide +kernel
theorem dL_fails_115 : decode cL_fails 115 = .ok (.iconst 0, 1) := by decide +kernel
theorem dL_fails_116 : decode cL_fails 116 = .ok (.iconst 0, 1) := by decide +kernel
theorem dL_fails_117 : decode cL_fails 117 = .ok (.invokestatic 170, 3) := by decide +kernel
theorem dL_fails_120 : decode cL_fails 120 = .ok (.ldc 40, 2) := by decide +kernel
theorem dL_fails_122 : decode cL_fails 122 = .ok (.if_icmp .ne 7, 3) := by decide +kernel
theorem dL_fails_125 : decode cL_fails 125 = .ok (.iconst 1, 1) := by decide +kernel
theorem dL_fails_126 : decode cL_fails 126 = .ok (.goto 4, 3) := by decide +kernel
theorem dL_fails_129 : decode cL_fails 129 = .ok (.iconst 0, 1) := by decide +kernel
theorem dL_fails_130 : decode cL_fails 130 = .ok (.istore 5, 2) := by decide +kernel
theorem dL_fails_132 : decode cL_fails 132 = .ok (.iload 5, 2) := by decide +kernel
theorem dL_fails_134 : decode cL_fails 134 = .ok (.aload_n 0, 1) := by decide +kernel
theorem dL_fails_135 : decode cL_fails 135 = .ok (.bipush 7, 2) := by decide +kernel
theorem dL_fails_137 : decode cL_fails 137 = .ok (.iconst 0, 1) := by decide +kernel
theorem dL_fails_138 : decode cL_fails 138 = .ok (.iconst 1, 1) := by decide +kernel
theorem dL_fails_139 : decode cL_fails 139 = .ok (.iconst 1, 1) := by decide +kernel
theorem dL_fails_140 : decode cL_fails 140 = .ok (.iconst 0, 1) := by decide +kernel
theorem dL_fails_141 : decode cL_fails 141 = .ok (.invokestatic 170, 3) := by decide +kernel
theorem dL_fails_144 : decode cL_fails 144 = .ok (.ldc 15, 2) := by decide +kernel
theorem dL_fails_146 : decode cL_fails 146 = .ok (.if_icmp .ne 117, 3) := by decide +kernel
theorem dL_fails_149 : decode cL_fails 149 = .ok (.aload_n 0, 1) := by decide +kernel
theorem dL_fails_150 : decode cL_fails 150 = .ok (.bipush 7, 2) := by decide +kernel
theorem dL_fails_152 : decode cL_fails 152 = .ok (.iconst 1, 1) := by decide +kernel
theorem dL_fails_153 : decode cL_fails 153 = .ok (.bipush 7, 2) := by decide +kernel
theorem dL_fails_155 : decode cL_fails 155 = .ok (.iconst 1, 1) := by decide +kernel
theorem dL_fails_156 : decode cL_fails 156 = .ok (.iconst 0, 1) := by decide +kernel
theorem dL_fails_157 : decode cL_fails 157 = .ok (.invokestatic 170, 3) := by decide +kernel
theorem dL_fails_160 : decode cL_fails 160 = .ok (.ldc 15, 2) := by decide +kernel
theorem dL_fails_162 : decode cL_fails 162 = .ok (.if_icmp .ne 101, 3) := by decide +kernel
theorem dL_fails_165 : decode cL_fails 165 = .ok (.aload_n 0, 1) := by decide +kernel
theorem dL_fails_166 : decode cL_fails 166 = .ok (.bipush 7, 2) := by decide +kernel
theorem dL_fails_168 : decode cL_fails 168 = .ok (.iconst 1, 1) := by decide +kernel
theorem dL_fails_169 : decode cL_fails 169 = .ok (.iconst 1, 1) := by decide +kernel
theorem dL_fails_170 : decode cL_fails 170 = .ok (.bipush 10, 2) := by decide +kernel
theorem dL_fails_172 : decode cL_fails 172 = .ok (.iconst 0, 1) := by decide +kernel
theorem dL_fails_173 : decode cL_fails 173 = .ok (.invokestatic 170, 3) := by decide +kernel
theorem dL_fails_176 : decode cL_fails 176 = .ok (.ldc 15, 2) := by decide +kernel
theorem dL_fails_178 : decode cL_fails 178 = .ok (.if_icmp .ne 85, 3) := by decide +kernel
theorem dL_fails_181 : decode cL_fails 181 = .ok (.aload_n 0, 1) := by decide +kernel
theorem dL_fails_182 : decode cL_fails 182 = .ok (.bipush 8, 2) := by decide +kernel
theorem dL_fails_184 : decode cL_fails 184 = .ok (.iconst 0, 1) := by decide +kernel
theorem dL_fails_185 : decode cL_fails 185 = .ok (.iconst 1, 1) := by decide +kernel
theorem dL_fails_186 : decode cL_fails 186 = .ok (.iconst 0, 1) := by decide +kernel
theorem dL_fails_187 : decode cL_fails 187 = .ok (.iconst 0, 1) := by decide +kernel
theorem dL_fails_188 : decode cL_fails 188 = .ok (.invokestatic 170, 3) := by decide +kernel
theorem dL_fails_191 : decode cL_fails 191 = .ok (.ldc 15, 2) := by decide +kernel
theorem dL_fails_193 : decode cL_fails 193 = .ok (.if_icmp .ne 70, 3) := by decide +kernel
theorem dL_fails_196 : decode cL_fails 196 = .ok (.aload_n 0, 1) := by decide +kernel
theorem dL_fails_197 : decode cL_fails 197 = .ok (.bipush 8, 2) := by decide +kernel
theorem dL_fails_199 : decode cL_fails 199 = .ok (.iconst 1, 1) := by decide +kernel
theorem dL_fails_200 : decode cL_fails 200 = .ok (.bipush 13, 2) := by decide +kernel
theorem dL_fails_202 : decode cL_fails 202 = .ok (.iconst 0, 1) := by decide +kernel
theorem dL_fails_203 : decode cL_fails 203 = .ok (.iconst 0, 1) := by decide +kernel
theorem dL_fails_204 : decode cL_fails 204 = .ok (.invokestatic 170, 3) := by decide +kernel
theorem dL_fails_207 : decode cL_fails 207 = .ok (.ldc 15, 2) := by decide +kernel
theorem dL_fails_209 : decode cL_fails 209 = .ok (.if_icmp .ne 54, 3) := by decide +kernel
theorem dL_fails_212 : decode cL_fails 212 = .ok (.aload_n 0, 1) := by decide +kernel
theorem dL_fails_213 : decode cL_fails 213 = .ok (.bipush 9, 2) := by decide +kernel
theorem dL_fails_215 : decode cL_fails 215 = .ok (.iload_n 3, 1) := by decide +kernel
theorem dL_fails_216 : decode cL_fails 216 = .ok (.iconst 1, 1) := by decide +kernel
theorem dL_fails_217 : decode cL_fails 217 = .ok (.iconst 0, 1) := by decide +kernel
theorem dL_fails_218 : decode cL_fails 218 = .ok (.iconst 0, 1) := by decide +kernel
theorem dL_fails_219 : decode cL_fails 219 = .ok (.invokestatic 170, 3) := by decide +kernel
theorem dL_fails_222 : decode cL_fails 222 = .ok (.ldc 40, 2) := by decide +kernel
theorem dL_fails_224 : decode cL_fails 224 = .ok (.if_icmp .ne 39, 3) := by decide +kernel
theorem dL_fails_227 : decode cL_fails 227 = .ok (.aload_n 0, 1) := by decide +kernel
theorem dL_fails_228 : decode cL_fails 228 = .ok (.bipush 9, 2) := by decide +kernel
theorem dL_fails_230 : decode cL_fails 230 = .ok (.iconst 0, 1) := by decide +kernel
theorem dL_fails_231 : decode cL_fails 231 = .ok (.bipush 10, 2) := by decide +kernel
theorem dL_fails_233 : decode cL_fails 233 = .ok (.iconst 0, 1) := by decide +kernel
theorem dL_fails_234 : decode cL_fails 234 = .ok (.iconst 0, 1) := by decide +kernel
theorem dL_fails_235 : decode cL_fails 235 = .ok (.invokestatic 170, 3) := by decide +kernel
theorem dL_fails_238 : decode cL_fails 238 = .ok (.ldc 15, 2) := by decide +kernel
theorem dL_fails_240 : decode cL_fails 240 = .ok (.if_icmp .ne 23, 3) := by decide +kernel
theorem dL_fails_243 : decode cL_fails 243 = .ok (.aload_n 0, 1) := by decide +kernel
theorem dL_fails_244 : decode cL_fails 244 = .ok (.bipush 10, 2) := by decide +kernel
theorem dL_fails_246 : decode cL_fails 246 = .ok (.bipush 10, 2) := by decide +kernel
theorem dL_fails_248 : decode cL_fails 248 = .ok (.iconst 0, 1) := by decide +kernel
theorem dL_fails_249 : decode cL_fails 249 = .ok (.iconst 0, 1) := by decide +kernel
theorem dL_fails_250 : decode cL_fails 250 = .ok (.iconst 0, 1) := by decide +kernel
theorem dL_fails_251 : decode cL_fails 251 = .ok (.invokestatic 170, 3) := by decide +kernel
theorem dL_fails_254 : decode cL_fails 254 = .ok (.ldc 15, 2) := by decide +kernel
theorem dL_fails_256 : decode cL_fails 256 = .ok (.if_icmp .ne 7, 3) := by decide +kernel
theorem dL_fails_259 : decode cL_fails 259 = .ok (.iconst 1, 1) := by decide +kernel
theorem dL_fails_260 : decode cL_fails 260 = .ok (.goto 4, 3) := by decide +kernel
theorem dL_fails_263 : decode cL_fails 263 = .ok (.iconst 0, 1) := by decide +kernel
theorem dL_fails_264 : decode cL_fails 264 = .ok (.iand, 1) := by decide +kernel
theorem dL_fails_265 : decode cL_fails 265 = .ok (.istore 5, 2) := by decide +kernel
theorem dL_fails_267 : decode cL_fails 267 = .ok (.iload 5, 2) := by decide +kernel
theorem dL_fails_269 : decode cL_fails 269 = .ok (.aload_n 0, 1) := by decide +kernel
theorem dL_fails_270 : decode cL_fails 270 = .ok (.bipush 11, 2) := by decide +kernel
theorem dL_fails_272 : decode cL_fails 272 = .ok (.iload_n 3, 1) := by decide +kernel
theorem dL_fails_273 : decode cL_fails 273 = .ok (.iconst 0, 1) := by decide +kernel
theorem dL_fails_274 : decode cL_fails 274 = .ok (.iconst 0, 1) := by decide +kernel
theorem dL_fails_275 : decode cL_fails 275 = .ok (.iconst 0, 1) := by decide +kernel
theorem dL_fails_276 : decode cL_fails 276 = .ok (.invokestatic 170, 3) := by decide +kernel
theorem dL_fails_279 : decode cL_fails 279 = .ok (.ldc 40, 2) := by decide +kernel
theorem dL_fails_281 : decode cL_fails 281 = .ok (.if_icmp .ne 116, 3) := by decide +kernel
theorem dL_fails_284 : decode cL_fails 284 = .ok (.aload_n 0, 1) := by decide +kernel
theorem dL_fails_285 : decode cL_fails 285 = .ok (.bipush 11, 2) := by decide +kernel
theorem dL_fails_287 : decode cL_fails 287 = .ok (.iconst 0, 1) := by decide +kernel
theorem dL_fails_288 : decode cL_fails 288 = .ok (.iload_n 2, 1) := by decide +kernel
theorem dL_fails_289 : decode cL_fails 289 = .ok (.iconst 0, 1) := by decide +kernel
theorem dL_fails_290 : decode cL_fails 290 = .ok (.iconst 0, 1) := by decide +kernel
theorem dL_fails_291 : decode cL_fails 291 = .ok (.invokestatic 170, 3) := by decide +kernel
theorem dL_fails_294 : decode cL_fails 294 = .ok (.ldc 40, 2) := by decide +kernel
theorem dL_fails_296 : decode cL_fails 296 = .ok (.if_icmp .ne 101, 3) := by decide +kernel
theorem dL_fails_299 : decode cL_fails 299 = .ok (.aload_n 0, 1) := by decide +kernel
theorem dL_fails_300 : decode cL_fails 300 = .ok (.bipush 11, 2) := by decide +kernel
theorem dL_fails_302 : decode cL_fails 302 = .ok (.iconst 0, 1) := by decide +kernel
theorem dL_fails_303 : decode cL_fails 303 = .ok (.iconst 0, 1) := by decide +kernel
theorem dL_fails_304 : decode cL_fails 304 = .ok (.iconst (-1), 1) := by decide +kernel
theorem dL_fails_305 : decode cL_fails 305 = .ok (.iconst 0, 1) := by decide +kernel
theorem dL_fails_306 : decode cL_fails 306 = .ok (.invokestatic 170, 3) := by decide +kernel
theorem dL_fails_309 : decode cL_fails 309 = .ok (.ldc 15, 2) := by decide +kernel
theorem dL_fails_311 : decode cL_fails 311 = .ok (.if_icmp .ne 86, 3) := by decide +kernel
theorem dL_fails_314 : decode cL_fails 314 = .ok (.aload_n 0, 1) := by decide +kernel
theorem dL_fails_315 : decode cL_fails 315 = .ok (.bipush 12, 2) := by decide +kernel
theorem dL_fails_317 : decode cL_fails 317 = .ok (.iload 4, 2) := by decide +kernel
theorem dL_fails_319 : decode cL_fails 319 = .ok (.iconst 0, 1) := by decide +kernel
theorem dL_fails_320 : decode cL_fails 320 = .ok (.iconst 0, 1) := by decide +kernel
theorem dL_fails_321 : decode cL_fails 321 = .ok (.iconst 0, 1) := by decide +kernel
theorem dL_fails_322 : decode cL_fails 322 = .ok (.invokestatic 170, 3) := by decide +kernel
theorem dL_fails_325 : decode cL_fails 325 = .ok (.ldc 40, 2) := by decide +kernel
theorem dL_fails_327 : decode cL_fails 327 = .ok (.if_icmp .ne 70, 3) := by decide +kernel
theorem dL_fails_330 : decode cL_fails 330 = .ok (.aload_n 0, 1) := by decide +kernel
theorem dL_fails_331 : decode cL_fails 331 = .ok (.bipush 13, 2) := by decide +kernel
theorem dL_fails_333 : decode cL_fails 333 = .ok (.iconst 0, 1) := by decide +kernel
theorem dL_fails_334 : decode cL_fails 334 = .ok (.iload 4, 2) := by decide +kernel
theorem dL_fails_336 : decode cL_fails 336 = .ok (.iconst 0, 1) := by decide +kernel
theorem dL_fails_337 : decode cL_fails 337 = .ok (.iconst 0, 1) := by decide +kernel
theorem dL_fails_338 : decode cL_fails 338 = .ok (.invokestatic 170, 3) := by decide +kernel
theorem dL_fails_341 : decode cL_fails 341 = .ok (.ldc 40, 2) := by decide +kernel
theorem dL_fails_343 : decode cL_fails 343 = .ok (.if_icmp .ne 54, 3) := by decide +kernel
theorem dL_fails_346 : decode cL_fails 346 = .ok (.aload_n 0, 1) := by decide +kernel
theorem dL_fails_347 : decode cL_fails 347 = .ok (.bipush 14, 2) := by decide +kernel
theorem dL_fails_349 : decode cL_fails 349 = .ok (.iconst (-1), 1) := by decide +kernel
theorem dL_fails_350 : decode cL_fails 350 = .ok (.iconst 0, 1) := by decide +kernel
theorem dL_fails_351 : decode cL_fails 351 = .ok (.iconst 0, 1) := by decide +kernel
theorem dL_fails_352 : decode cL_fails 352 = .ok (.iconst 0, 1) := by decide +kernel
theorem dL_fails_353 : decode cL_fails 353 = .ok (.invokestatic 170, 3) := by decide +kernel
theorem dL_fails_356 : decode cL_fails 356 = .ok (.ldc 40, 2) := by decide +kernel
theorem dL_fails_358 : decode cL_fails 358 = .ok (.if_icmp .ne 39, 3) := by decide +kernel
theorem dL_fails_361 : decode cL_fails 361 = .ok (.aload_n 0, 1) := by decide +kernel
theorem dL_fails_362 : decode cL_fails 362 = .ok (.bipush 15, 2) := by decide +kernel
theorem dL_fails_364 : decode cL_fails 364 = .ok (.iload 4, 2) := by decide +kernel
theorem dL_fails_366 : decode cL_fails 366 = .ok (.iconst 0, 1) := by decide +kernel
theorem dL_fails_367 : decode cL_fails 367 = .ok (.iconst 0, 1) := by decide +kernel
theorem dL_fails_368 : decode cL_fails 368 = .ok (.iconst 0, 1) := by decide +kernel
theorem dL_fails_369 : decode cL_fails 369 = .ok (.invokestatic 170, 3) := by decide +kernel
theorem dL_fails_372 : decode cL_fails 372 = .ok (.ldc 40, 2) := by decide +kernel
theorem dL_fails_374 : decode cL_fails 374 = .ok (.if_icmp .ne 23, 3) := by decide +kernel
theorem dL_fails_377 : decode cL_fails 377 = .ok (.aload_n 0, 1) := by decide +kernel
theorem dL_fails_378 : decode cL_fails 378 = .ok (.bipush 17, 2) := by decide +kernel
theorem dL_fails_380 : decode cL_fails 380 = .ok (.iload 4, 2) := by decide +kernel
theorem dL_fails_382 : decode cL_fails 382 = .ok (.iconst 0, 1) := by decide +kernel
theorem dL_fails_383 : decode cL_fails 383 = .ok (.iconst 0, 1) := by decide +kernel
theorem dL_fails_384 : decode cL_fails 384 = .ok (.iconst 0, 1) := by decide +kernel
theorem dL_fails_385 : decode cL_fails 385 = .ok (.invokestatic 170, 3) := by decide +kernel
theorem dL_fails_388 : decode cL_fails 388 = .ok (.ldc 40, 2) := by decide +kernel
theorem dL_fails_390 : decode cL_fails 390 = .ok (.if_icmp .ne 7, 3) := by decide +kernel
theorem dL_fails_393 : decode cL_fails 393 = .ok (.iconst 1, 1) := by decide +kernel
theorem dL_fails_394 : decode cL_fails 394 = .ok (.goto 4, 3) := by decide +kernel
theorem dL_fails_397 : decode cL_fails 397 = .ok (.iconst 0, 1) := by decide +kernel
theorem dL_fails_398 : decode cL_fails 398 = .ok (.iand, 1) := by decide +kernel
theorem dL_fails_399 : decode cL_fails 399 = .ok (.istore 5, 2) := by decide +kernel
theorem dL_fails_401 : decode cL_fails 401 = .ok (.iload 5, 2) := by decide +kernel
theorem dL_fails_403 : decode cL_fails 403 = .ok (.aload_n 0, 1) := by decide +kernel
theorem dL_fails_404 : decode cL_fails 404 = .ok (.bipush 18, 2) := by decide +kernel
theorem dL_fails_406 : decode cL_fails 406 = .ok (.iload_n 2, 1) := by decide +kernel
theorem dL_fails_407 : decode cL_fails 407 = .ok (.iconst 0, 1) := by decide +kernel
theorem dL_fails_408 : decode cL_fails 408 = .ok (.iconst 0, 1) := by decide +kernel
theorem dL_fails_409 : decode cL_fails 409 = .ok (.iconst 0, 1) := by decide +kernel
theorem dL_fails_410 : decode cL_fails 410 = .ok (.invokestatic 170, 3) := by decide +kernel
theorem dL_fails_413 : decode cL_fails 413 = .ok (.ldc 40, 2) := by decide +kernel
theorem dL_fails_415 : decode cL_fails 415 = .ok (.if_icmp .ne 53, 3) := by decide +kernel
theorem dL_fails_418 : decode cL_fails 418 = .ok (.aload_n 0, 1) := by decide +kernel
theorem dL_fails_419 : decode cL_fails 419 = .ok (.bipush 19, 2) := by decide +kernel
theorem dL_fails_421 : decode cL_fails 421 = .ok (.bipush 10, 2) := by decide +kernel
theorem dL_fails_423 : decode cL_fails 423 = .ok (.iconst 0, 1) := by decide +kernel
theorem dL_fails_424 : decode cL_fails 424 = .ok (.iconst 0, 1) := by decide +kernel
theorem dL_fails_425 : decode cL_fails 425 = .ok (.iconst 0, 1) := by decide +kernel
theorem dL_fails_426 : decode cL_fails 426 = .ok (.invokestatic 170, 3) := by decide +kernel
theorem dL_fails_429 : decode cL_fails 429 = .ok (.ldc 15, 2) := by decide +kernel
theorem dL_fails_431 : decode cL_fails 431 = .ok (.if_icmp .ne 37, 3) := by decide +kernel
theorem dL_fails_434 : decode cL_fails 434 = .ok (.aload_n 0, 1) := by decide +kernel
theorem dL_fails_435 : decode cL_fails 435 = .ok (.bipush 20, 2) := by decide +kernel
theorem dL_fails_437 : decode cL_fails 437 = .ok (.iconst 2, 1) := by decide +kernel
theorem dL_fails_438 : decode cL_fails 438 = .ok (.iconst 0, 1) := by decide +kernel
theorem dL_fails_439 : decode cL_fails 439 = .ok (.iconst 0, 1) := by decide +kernel
theorem dL_fails_440 : decode cL_fails 440 = .ok (.iconst 0, 1) := by decide +kernel
theorem dL_fails_441 : decode cL_fails 441 = .ok (.invokestatic 170, 3) := by decide +kernel
theorem dL_fails_444 : decode cL_fails 444 = .ok (.ldc 40, 2) := by decide +kernel
theorem dL_fails_446 : decode cL_fails 446 = .ok (.if_icmp .ne 22, 3) := by decide +kernel
theorem dL_fails_449 : decode cL_fails 449 = .ok (.aload_n 0, 1) := by decide +kernel
theorem dL_fails_450 : decode cL_fails 450 = .ok (.bipush 21, 2) := by decide +kernel
theorem dL_fails_452 : decode cL_fails 452 = .ok (.iconst (-1), 1) := by decide +kernel
theorem dL_fails_453 : decode cL_fails 453 = .ok (.iconst 0, 1) := by decide +kernel
theorem dL_fails_454 : decode cL_fails 454 = .ok (.iconst 0, 1) := by decide +kernel
theorem dL_fails_455 : decode cL_fails 455 = .ok (.iconst 0, 1) := by decide +kernel
theorem dL_fails_456 : decode cL_fails 456 = .ok (.invokestatic 170, 3) := by decide +kernel
theorem dL_fails_459 : decode cL_fails 459 = .ok (.ldc 40, 2) := by decide +kernel
theorem dL_fails_461 : decode cL_fails 461 = .ok (.if_icmp .ne 7, 3) := by decide +kernel
theorem dL_fails_464 : decode cL_fails 464 = .ok (.iconst 1, 1) := by decide +kernel
theorem dL_fails_465 : decode cL_fails 465 = .ok (.goto 4, 3) := by decide +kernel
theorem dL_fails_468 : decode cL_fails 468 = .ok (.iconst 0, 1) := by decide +kernel
theorem dL_fails_469 : decode cL_fails 469 = .ok (.iand, 1) := by decide +kernel
theorem dL_fails_470 : decode cL_fails 470 = .ok (.istore 5, 2) := by decide +kernel
theorem dL_fails_472 : decode cL_fails 472 = .ok (.iload 5, 2) := by decide +kernel
theorem dL_fails_474 : decode cL_fails 474 = .ok (.ifCond .eq 69, 3) := by decide +kernel
theorem dL_fails_477 : decode cL_fails 477 = .ok (.aload_n 0, 1) := by decide +kernel
theorem dL_fails_478 : decode cL_fails 478 = .ok (.iconst 4, 1) := by decide +kernel
theorem dL_fails_479 : decode cL_fails 479 = .ok (.lconst 0, 1) := by decide +kernel
theorem dL_fails_480 : decode cL_fails 480 = .ok (.invokestatic 204, 3) := by decide +kernel
theorem dL_fails_483 : decode cL_fails 483 = .ok (.ldc 15, 2) := by decide +kernel
theorem dL_fails_485 : decode cL_fails 485 = .ok (.if_icmp .ne 58, 3) := by decide +kernel
theorem dL_fails_488 : decode cL_fails 488 = .ok (.aload_n 0, 1) := by decide +kernel
theorem dL_fails_489 : decode cL_fails 489 = .ok (.iconst 1, 1) := by decide +kernel
theorem dL_fails_490 : decode cL_fails 490 = .ok (.ldc2_w 208, 3) := by decide +kernel
theorem dL_fails_493 : decode cL_fails 493 = .ok (.invokestatic 204, 3) := by decide +kernel
theorem dL_fails_496 : decode cL_fails 496 = .ok (.ldc 15, 2) := by decide +kernel
theorem dL_fails_498 : decode cL_fails 498 = .ok (.if_icmp .ne 45, 3) := by decide +kernel
theorem dL_fails_501 : decode cL_fails 501 = .ok (.aload_n 0, 1) := by decide +kernel
theorem dL_fails_502 : decode cL_fails 502 = .ok (.iconst 2, 1) := by decide +kernel
theorem dL_fails_503 : decode cL_fails 503 = .ok (.ldc2_w 210, 3) := by decide +kernel
theorem dL_fails_506 : decode cL_fails 506 = .ok (.invokestatic 204, 3) := by decide +kernel
theorem dL_fails_509 : decode cL_fails 509 = .ok (.ldc 15, 2) := by decide +kernel
theorem dL_fails_511 : decode cL_fails 511 = .ok (.if_icmp .ne 32, 3) := by decide +kernel
theorem dL_fails_514 : decode cL_fails 514 = .ok (.aload_n 0, 1) := by decide +kernel
theorem dL_fails_515 : decode cL_fails 515 = .ok (.iload_n 1, 1) := by decide +kernel
theorem dL_fails_516 : decode cL_fails 516 = .ok (.i2l, 1) := by decide +kernel
theorem dL_fails_517 : decode cL_fails 517 = .ok (.iconst 0, 1) := by decide +kernel
theorem dL_fails_518 : decode cL_fails 518 = .ok (.invokestatic 212, 3) := by decide +kernel
theorem dL_fails_521 : decode cL_fails 521 = .ok (.ldc 15, 2) := by decide +kernel
theorem dL_fails_523 : decode cL_fails 523 = .ok (.if_icmp .ne 20, 3) := by decide +kernel
theorem dL_fails_526 : decode cL_fails 526 = .ok (.aload_n 0, 1) := by decide +kernel
theorem dL_fails_527 : decode cL_fails 527 = .ok (.iload_n 1, 1) := by decide +kernel
theorem dL_fails_528 : decode cL_fails 528 = .ok (.i2l, 1) := by decide +kernel
theorem dL_fails_529 : decode cL_fails 529 = .ok (.bipush 100, 2) := by decide +kernel
theorem dL_fails_531 : decode cL_fails 531 = .ok (.invokestatic 212, 3) := by decide +kernel
theorem dL_fails_534 : decode cL_fails 534 = .ok (.ldc 15, 2) := by decide +kernel
theorem dL_fails_536 : decode cL_fails 536 = .ok (.if_icmp .ne 7, 3) := by decide +kernel
theorem dL_fails_539 : decode cL_fails 539 = .ok (.iconst 1, 1) := by decide +kernel
theorem dL_fails_540 : decode cL_fails 540 = .ok (.goto 4, 3) := by decide +kernel
theorem dL_fails_543 : decode cL_fails 543 = .ok (.iconst 0, 1) := by decide +kernel
theorem dL_fails_544 : decode cL_fails 544 = .ok (.ireturn, 1) := by decide +kernel
theorem dL_act_0 : decode cL_act 0 = .ok (.iload_n 2, 1) := by decide +kernel
theorem dL_act_1 : decode cL_act 1 = .ok (.aload_n 0, 1) := by decide +kernel
theorem dL_act_2 : decode cL_act 2 = .ok (.iconst 1, 1) := by decide +kernel
theorem dL_act_3 : decode cL_act 3 = .ok (.invokestatic 176, 3) := by decide +kernel
theorem dL_act_6 : decode cL_act 6 = .ok (.irem, 1) := by decide +kernel
theorem dL_act_7 : decode cL_act 7 = .ok (.istore_n 3, 1) := by decide +kernel
theorem dL_act_8 : decode cL_act 8 = .ok (.iload_n 2, 1) := by decide +kernel
theorem dL_act_9 : decode cL_act 9 = .ok (.bipush 8, 2) := by decide +kernel
theorem dL_act_11 : decode cL_act 11 = .ok (.idiv, 1) := by decide +kernel
theorem dL_act_12 : decode cL_act 12 = .ok (.aload_n 0, 1) := by decide +kernel
theorem dL_act_13 : decode cL_act 13 = .ok (.iconst 0, 1) := by decide +kernel
theorem dL_act_14 : decode cL_act 14 = .ok (.invokestatic 176, 3) := by decide +kernel
theorem dL_act_17 : decode cL_act 17 = .ok (.irem, 1) := by decide +kernel
theorem dL_act_18 : decode cL_act 18 = .ok (.istore 4, 2) := by decide +kernel
theorem dL_act_20 : decode cL_act 20 = .ok (.aload_n 0, 1) := by decide +kernel
theorem dL_act_21 : decode cL_act 21 = .ok (.iconst 2, 1) := by decide +kernel
theorem dL_act_22 : decode cL_act 22 = .ok (.invokestatic 176, 3) := by decide +kernel
theorem dL_act_25 : decode cL_act 25 = .ok (.ifCond .ne 7, 3) := by decide +kernel
theorem dL_act_28 : decode cL_act 28 = .ok (.iconst 0, 1) := by decide +kernel
theorem dL_act_29 : decode cL_act 29 = .ok (.goto 13, 3) := by decide +kernel
theorem dL_act_32 : decode cL_act 32 = .ok (.iload_n 2, 1) := by decide +kernel
theorem dL_act_33 : decode cL_act 33 = .ok (.bipush 64, 2) := by decide +kernel
theorem dL_act_35 : decode cL_act 35 = .ok (.idiv, 1) := by decide +kernel
theorem dL_act_36 : decode cL_act 36 = .ok (.aload_n 0, 1) := by decide +kernel
theorem dL_act_37 : decode cL_act 37 = .ok (.iconst 2, 1) := by decide +kernel
theorem dL_act_38 : decode cL_act 38 = .ok (.invokestatic 176, 3) := by decide +kernel
theorem dL_act_41 : decode cL_act 41 = .ok (.irem, 1) := by decide +kernel
theorem dL_act_42 : decode cL_act 42 = .ok (.istore 5, 2) := by decide +kernel
theorem dL_act_44 : decode cL_act 44 = .ok (.iload_n 1, 1) := by decide +kernel
theorem dL_act_45 : decode cL_act 45 = .ok (.bipush 18, 2) := by decide +kernel
theorem dL_act_47 : decode cL_act 47 = .ok (.irem, 1) := by decide +kernel
theorem dL_act_48 : decode cL_act 48 = .ok (.tableswitch 272 0 16 #[84, 116, 140, 159, 173, 173, 173, 173, 191, 191, 203, 216, 228, 228, 240, 245, 261], 84) := by decide +kernel
theorem dL_act_132 : decode cL_act 132 = .ok (.aload_n 0, 1) := by decide +kernel
theorem dL_act_133 : decode cL_act 133 = .ok (.bipush 7, 2) := by decide +kernel
theorem dL_act_135 : decode cL_act 135 = .ok (.iconst 1, 1) := by decide +kernel
theorem dL_act_136 : decode cL_act 136 = .ok (.iload_n 2, 1) := by decide +kernel
theorem dL_act_137 : decode cL_act 137 = .ok (.bipush 9, 2) := by decide +kernel
theorem dL_act_139 : decode cL_act 139 = .ok (.irem, 1) := by decide +kernel
theorem dL_act_140 : decode cL_act 140 = .ok (.iadd, 1) := by decide +kernel
theorem dL_act_141 : decode cL_act 141 = .ok (.iconst 1, 1) := by decide +kernel
theorem dL_act_142 : decode cL_act 142 = .ok (.iload_n 2, 1) := by decide +kernel
theorem dL_act_143 : decode cL_act 143 = .ok (.bipush 16, 2) := by decide +kernel
theorem dL_act_145 : decode cL_act 145 = .ok (.idiv, 1) := by decide +kernel
theorem dL_act_146 : decode cL_act 146 = .ok (.bipush 6, 2) := by decide +kernel
theorem dL_act_148 : decode cL_act 148 = .ok (.irem, 1) := by decide +kernel
theorem dL_act_149 : decode cL_act 149 = .ok (.iadd, 1) := by decide +kernel
theorem dL_act_150 : decode cL_act 150 = .ok (.iconst 1, 1) := by decide +kernel
theorem dL_act_151 : decode cL_act 151 = .ok (.iload_n 2, 1) := by decide +kernel
theorem dL_act_152 : decode cL_act 152 = .ok (.sipush 128, 3) := by decide +kernel
theorem dL_act_155 : decode cL_act 155 = .ok (.idiv, 1) := by decide +kernel
theorem dL_act_156 : decode cL_act 156 = .ok (.iconst 3, 1) := by decide +kernel
theorem dL_act_157 : decode cL_act 157 = .ok (.irem, 1) := by decide +kernel
theorem dL_act_158 : decode cL_act 158 = .ok (.iadd, 1) := by decide +kernel
theorem dL_act_159 : decode cL_act 159 = .ok (.iconst 0, 1) := by decide +kernel
theorem dL_act_160 : decode cL_act 160 = .ok (.invokestatic 170, 3) := by decide +kernel
theorem dL_act_163 : decode cL_act 163 = .ok (.ireturn, 1) := by decide +kernel
theorem dL_act_164 : decode cL_act 164 = .ok (.aload_n 0, 1) := by decide +kernel
theorem dL_act_165 : decode cL_act 165 = .ok (.bipush 8, 2) := by decide +kernel
theorem dL_act_167 : decode cL_act 167 = .ok (.iconst 1, 1) := by decide +kernel
theorem dL_act_168 : decode cL_act 168 = .ok (.iload_n 2, 1) := by decide +kernel
theorem dL_act_169 : decode cL_act 169 = .ok (.bipush 9, 2) := by decide +kernel
theorem dL_act_171 : decode cL_act 171 = .ok (.irem, 1) := by decide +kernel
theorem dL_act_172 : decode cL_act 172 = .ok (.iadd, 1) := by decide +kernel
theorem dL_act_173 : decode cL_act 173 = .ok (.iconst 1, 1) := by decide +kernel
theorem dL_act_174 : decode cL_act 174 = .ok (.iload_n 2, 1) := by decide +kernel
theorem dL_act_175 : decode cL_act 175 = .ok (.bipush 16, 2) := by decide +kernel
theorem dL_act_177 : decode cL_act 177 = .ok (.idiv, 1) := by decide +kernel
theorem dL_act_178 : decode cL_act 178 = .ok (.bipush 12, 2) := by decide +kernel
theorem dL_act_180 : decode cL_act 180 = .ok (.irem, 1) := by decide +kernel
theorem dL_act_181 : decode cL_act 181 = .ok (.iadd, 1) := by decide +kernel
theorem dL_act_182 : decode cL_act 182 = .ok (.iconst 0, 1) := by decide +kernel
theorem dL_act_183 : decode cL_act 183 = .ok (.iconst 0, 1) := by decide +kernel
theorem dL_act_184 : decode cL_act 184 = .ok (.invokestatic 170, 3) := by decide +kernel
theorem dL_act_187 : decode cL_act 187 = .ok (.ireturn, 1) := by decide +kernel
theorem dL_act_188 : decode cL_act 188 = .ok (.aload_n 0, 1) := by decide +kernel
theorem dL_act_189 : decode cL_act 189 = .ok (.bipush 9, 2) := by decide +kernel
theorem dL_act_191 : decode cL_act 191 = .ok (.iload_n 3, 1) := by decide +kernel
theorem dL_act_192 : decode cL_act 192 = .ok (.iconst 1, 1) := by decide +kernel
theorem dL_act_193 : decode cL_act 193 = .ok (.iload_n 2, 1) := by decide +kernel
theorem dL_act_194 : decode cL_act 194 = .ok (.bipush 16, 2) := by decide +kernel
theorem dL_act_196 : decode cL_act 196 = .ok (.idiv, 1) := by decide +kernel
theorem dL_act_197 : decode cL_act 197 = .ok (.bipush 9, 2) := by decide +kernel
theorem dL_act_199 : decode cL_act 199 = .ok (.irem, 1) := by decide +kernel
theorem dL_act_200 : decode cL_act 200 = .ok (.iadd, 1) := by decide +kernel
theorem dL_act_201 : decode cL_act 201 = .ok (.iconst 0, 1) := by decide +kernel
theorem dL_act_202 : decode cL_act 202 = .ok (.iconst 0, 1) := by decide +kernel
theorem dL_act_203 : decode cL_act 203 = .ok (.invokestatic 170, 3) := by decide +kernel
theorem dL_act_206 : decode cL_act 206 = .ok (.ireturn, 1) := by decide +kernel
theorem dL_act_207 : decode cL_act 207 = .ok (.aload_n 0, 1) := by decide +kernel
theorem dL_act_208 : decode cL_act 208 = .ok (.bipush 10, 2) := by decide +kernel
theorem dL_act_210 : decode cL_act 210 = .ok (.iload_n 2, 1) := by decide +kernel
theorem dL_act_211 : decode cL_act 211 = .ok (.bipush 10, 2) := by decide +kernel
theorem dL_act_213 : decode cL_act 213 = .ok (.irem, 1) := by decide +kernel
theorem dL_act_214 : decode cL_act 214 = .ok (.iconst 0, 1) := by decide +kernel
theorem dL_act_215 : decode cL_act 215 = .ok (.iconst 0, 1) := by decide +kernel
theorem dL_act_216 : decode cL_act 216 = .ok (.iconst 0, 1) := by decide +kernel
theorem dL_act_217 : decode cL_act 217 = .ok (.invokestatic 170, 3) := by decide +kernel
theorem dL_act_220 : decode cL_act 220 = .ok (.ireturn, 1) := by decide +kernel
theorem dL_act_221 : decode cL_act 221 = .ok (.aload_n 0, 1) := by decide +kernel
theorem dL_act_222 : decode cL_act 222 = .ok (.bipush 11, 2) := by decide +kernel
theorem dL_act_224 : decode cL_act 224 = .ok (.iload_n 3, 1) := by decide +kernel
theorem dL_act_225 : decode cL_act 225 = .ok (.iload 4, 2) := by decide +kernel
theorem dL_act_227 : decode cL_act 227 = .ok (.iload_n 2, 1) := by decide +kernel
theorem dL_act_228 : decode cL_act 228 = .ok (.bipush 64, 2) := by decide +kernel
theorem dL_act_230 : decode cL_act 230 = .ok (.idiv, 1) := by decide +kernel
theorem dL_act_231 : decode cL_act 231 = .ok (.bipush 8, 2) := by decide +kernel
theorem dL_act_233 : decode cL_act 233 = .ok (.irem, 1) := by decide +kernel
theorem dL_act_234 : decode cL_act 234 = .ok (.iconst 0, 1) := by decide +kernel
theorem dL_act_235 : decode cL_act 235 = .ok (.invokestatic 170, 3) := by decide +kernel
theorem dL_act_238 : decode cL_act 238 = .ok (.ireturn, 1) := by decide +kernel
theorem dL_act_239 : decode cL_act 239 = .ok (.aload_n 0, 1) := by decide +kernel
theorem dL_act_240 : decode cL_act 240 = .ok (.bipush 12, 2) := by decide +kernel
theorem dL_act_242 : decode cL_act 242 = .ok (.iload 5, 2) := by decide +kernel
theorem dL_act_244 : decode cL_act 244 = .ok (.iconst 0, 1) := by decide +kernel
theorem dL_act_245 : decode cL_act 245 = .ok (.iconst 0, 1) := by decide +kernel
theorem dL_act_246 : decode cL_act 246 = .ok (.iconst 0, 1) := by decide +kernel
theorem dL_act_247 : decode cL_act 247 = .ok (.invokestatic 170, 3) := by decide +kernel
theorem dL_act_250 : decode cL_act 250 = .ok (.ireturn, 1) := by decide +kernel
theorem dL_act_251 : decode cL_act 251 = .ok (.aload_n 0, 1) := by decide +kernel
theorem dL_act_252 : decode cL_act 252 = .ok (.bipush 13, 2) := by decide +kernel
theorem dL_act_254 : decode cL_act 254 = .ok (.iload_n 3, 1) := by decide +kernel
theorem dL_act_255 : decode cL_act 255 = .ok (.iload 5, 2) := by decide +kernel
theorem dL_act_257 : decode cL_act 257 = .ok (.iload 4, 2) := by decide +kernel
theorem dL_act_259 : decode cL_act 259 = .ok (.iconst 0, 1) := by decide +kernel
theorem dL_act_260 : decode cL_act 260 = .ok (.invokestatic 170, 3) := by decide +kernel
theorem dL_act_263 : decode cL_act 263 = .ok (.ireturn, 1) := by decide +kernel
theorem dL_act_264 : decode cL_act 264 = .ok (.aload_n 0, 1) := by decide +kernel
theorem dL_act_265 : decode cL_act 265 = .ok (.bipush 14, 2) := by decide +kernel
theorem dL_act_267 : decode cL_act 267 = .ok (.iload 5, 2) := by decide +kernel
theorem dL_act_269 : decode cL_act 269 = .ok (.iconst 0, 1) := by decide +kernel
theorem dL_act_270 : decode cL_act 270 = .ok (.iconst 0, 1) := by decide +kernel
theorem dL_act_271 : decode cL_act 271 = .ok (.iconst 0, 1) := by decide +kernel
theorem dL_act_272 : decode cL_act 272 = .ok (.invokestatic 170, 3) := by decide +kernel
theorem dL_act_275 : decode cL_act 275 = .ok (.ireturn, 1) := by decide +kernel
theorem dL_act_276 : decode cL_act 276 = .ok (.aload_n 0, 1) := by decide +kernel
theorem dL_act_277 : decode cL_act 277 = .ok (.bipush 15, 2) := by decide +kernel
theorem dL_act_279 : decode cL_act 279 = .ok (.iload 5, 2) := by decide +kernel
theorem dL_act_281 : decode cL_act 281 = .ok (.iconst 0, 1) := by decide +kernel
theorem dL_act_282 : decode cL_act 282 = .ok (.iconst 0, 1) := by decide +kernel
theorem dL_act_283 : decode cL_act 283 = .ok (.iconst 0, 1) := by decide +kernel
theorem dL_act_284 : decode cL_act 284 = .ok (.invokestatic 170, 3) := by decide +kernel
theorem dL_act_287 : decode cL_act 287 = .ok (.ireturn, 1) := by decide +kernel
theorem dL_act_288 : decode cL_act 288 = .ok (.aload_n 0, 1) := by decide +kernel
theorem dL_act_289 : decode cL_act 289 = .ok (.invokevirtual 201, 3) := by decide +kernel
theorem dL_act_292 : decode cL_act 292 = .ok (.ireturn, 1) := by decide +kernel
theorem dL_act_293 : decode cL_act 293 = .ok (.aload_n 0, 1) := by decide +kernel
theorem dL_act_294 : decode cL_act 294 = .ok (.iload_n 2, 1) := by decide +kernel
theorem dL_act_295 : decode cL_act 295 = .ok (.iconst 4, 1) := by decide +kernel
theorem dL_act_296 : decode cL_act 296 = .ok (.irem, 1) := by decide +kernel
theorem dL_act_297 : decode cL_act 297 = .ok (.ifCond .ne 7, 3) := by decide +kernel
theorem dL_act_300 : decode cL_act 300 = .ok (.iconst 1, 1) := by decide +kernel
theorem dL_act_301 : decode cL_act 301 = .ok (.goto 4, 3) := by decide +kernel
theorem dL_act_304 : decode cL_act 304 = .ok (.iconst 0, 1) := by decide +kernel
theorem dL_act_305 : decode cL_act 305 = .ok (.invokevirtual 197, 3) := by decide +kernel
theorem dL_act_308 : decode cL_act 308 = .ok (.ireturn, 1) := by decide +kernel
theorem dL_act_309 : decode cL_act 309 = .ok (.aload_n 0, 1) := by decide +kernel
theorem dL_act_310 : decode cL_act 310 = .ok (.bipush 16, 2) := by decide +kernel
theorem dL_act_312 : decode cL_act 312 = .ok (.iconst 0, 1) := by decide +kernel
theorem dL_act_313 : decode cL_act 313 = .ok (.iconst 0, 1) := by decide +kernel
theorem dL_act_314 : decode cL_act 314 = .ok (.iconst 0, 1) := by decide +kernel
theorem dL_act_315 : decode cL_act 315 = .ok (.iconst 0, 1) := by decide +kernel
theorem dL_act_316 : decode cL_act 316 = .ok (.invokestatic 170, 3) := by decide +kernel
theorem dL_act_319 : decode cL_act 319 = .ok (.ireturn, 1) := by decide +kernel
theorem dL_act_320 : decode cL_act 320 = .ok (.iload_n 2, 1) := by decide +kernel
theorem dL_act_321 : decode cL_act 321 = .ok (.iconst 2, 1) := by decide +kernel
theorem dL_act_322 : decode cL_act 322 = .ok (.irem, 1) := by decide +kernel
theorem dL_act_323 : decode cL_act 323 = .ok (.ifCond .ne 16, 3) := by decide +kernel
theorem dL_act_326 : decode cL_act 326 = .ok (.aload_n 0, 1) := by decide +kernel
theorem dL_act_327 : decode cL_act 327 = .ok (.bipush 20, 2) := by decide +kernel
theorem dL_act_329 : decode cL_act 329 = .ok (.iconst 1, 1) := by decide +kernel
theorem dL_act_330 : decode cL_act 330 = .ok (.iconst 0, 1) := by decide +kernel
theorem dL_act_331 : decode cL_act 331 = .ok (.iconst 0, 1) := by decide +kernel
theorem dL_act_332 : decode cL_act 332 = .ok (.iconst 0, 1) := by decide +kernel
theorem dL_act_333 : decode cL_act 333 = .ok (.invokestatic 170, 3) := by decide +kernel
theorem dL_act_336 : decode cL_act 336 = .ok (.goto 13, 3) := by decide +kernel
theorem dL_act_339 : decode cL_act 339 = .ok (.aload_n 0, 1) := by decide +kernel
theorem dL_act_340 : decode cL_act 340 = .ok (.bipush 21, 2) := by decide +kernel
theorem dL_act_342 : decode cL_act 342 = .ok (.iconst 1, 1) := by decide +kernel
theorem dL_act_343 : decode cL_act 343 = .ok (.iconst 0, 1) := by decide +kernel
theorem dL_act_344 : decode cL_act 344 = .ok (.iconst 0, 1) := by decide +kernel
theorem dL_act_345 : decode cL_act 345 = .ok (.iconst 0, 1) := by decide +kernel
theorem dL_act_346 : decode cL_act 346 = .ok (.invokestatic 170, 3) := by decide +kernel
theorem dL_act_349 : decode cL_act 349 = .ok (.ireturn, 1) := by decide +kernel
theorem dL_begin_0 : decode cL_begin 0 = .ok (.aload_n 0, 1) := by decide +kernel
theorem dL_begin_1 : decode cL_begin 1 = .ok (.iconst 0, 1) := by decide +kernel
theorem dL_begin_2 : decode cL_begin 2 = .ok (.bipush 76, 2) := by decide +kernel
theorem dL_begin_4 : decode cL_begin 4 = .ok (.iconst 0, 1) := by decide +kernel
theorem dL_begin_5 : decode cL_begin 5 = .ok (.iconst 0, 1) := by decide +kernel
theorem dL_begin_6 : decode cL_begin 6 = .ok (.iconst 0, 1) := by decide +kernel
theorem dL_begin_7 : decode cL_begin 7 = .ok (.invokestatic 170, 3) := by decide +kernel
theorem dL_begin_10 : decode cL_begin 10 = .ok (.iconst 1, 1) := by decide +kernel
theorem dL_begin_11 : decode cL_begin 11 = .ok (.if_icmp .ne 26, 3) := by decide +kernel
theorem dL_begin_14 : decode cL_begin 14 = .ok (.aload_n 0, 1) := by decide +kernel
theorem dL_begin_15 : decode cL_begin 15 = .ok (.iconst 0, 1) := by decide +kernel
theorem dL_begin_16 : decode cL_begin 16 = .ok (.bipush 48, 2) := by decide +kernel
theorem dL_begin_18 : decode cL_begin 18 = .ok (.iload_n 1, 1) := by decide +kernel
theorem dL_begin_19 : decode cL_begin 19 = .ok (.bipush 10, 2) := by decide +kernel
theorem dL_begin_21 : decode cL_begin 21 = .ok (.irem, 1) := by decide +kernel
theorem dL_begin_22 : decode cL_begin 22 = .ok (.iadd, 1) := by decide +kernel
theorem dL_begin_23 : decode cL_begin 23 = .ok (.iconst 0, 1) := by decide +kernel
theorem dL_begin_24 : decode cL_begin 24 = .ok (.iconst 0, 1) := by decide +kernel
theorem dL_begin_25 : decode cL_begin 25 = .ok (.iconst 0, 1) := by decide +kernel
theorem dL_begin_26 : decode cL_begin 26 = .ok (.invokestatic 170, 3) := by decide +kernel
theorem dL_begin_29 : decode cL_begin 29 = .ok (.iconst 2, 1) := by decide +kernel
theorem dL_begin_30 : decode cL_begin 30 = .ok (.if_icmp .ne 7, 3) := by decide +kernel
theorem dL_begin_33 : decode cL_begin 33 = .ok (.iconst 1, 1) := by decide +kernel
theorem dL_begin_34 : decode cL_begin 34 = .ok (.goto 4, 3) := by decide +kernel
theorem dL_begin_37 : decode cL_begin 37 = .ok (.iconst 0, 1) := by decide +kernel
theorem dL_begin_38 : decode cL_begin 38 = .ok (.istore_n 2, 1) := by decide +kernel
theorem dL_begin_39 : decode cL_begin 39 = .ok (.iconst 0, 1) := by decide +kernel
theorem dL_begin_40 : decode cL_begin 40 = .ok (.istore_n 3, 1) := by decide +kernel
theorem dL_begin_41 : decode cL_begin 41 = .ok (.iload_n 3, 1) := by decide +kernel
theorem dL_begin_42 : decode cL_begin 42 = .ok (.iconst 2, 1) := by decide +kernel
theorem dL_begin_43 : decode cL_begin 43 = .ok (.if_icmp .ge 110, 3) := by decide +kernel
theorem dL_begin_46 : decode cL_begin 46 = .ok (.iload_n 2, 1) := by decide +kernel
theorem dL_begin_47 : decode cL_begin 47 = .ok (.ifCond .eq 106, 3) := by decide +kernel
theorem dL_begin_50 : decode cL_begin 50 = .ok (.aload_n 0, 1) := by decide +kernel
theorem dL_begin_51 : decode cL_begin 51 = .ok (.iconst 0, 1) := by decide +kernel
theorem dL_begin_52 : decode cL_begin 52 = .ok (.bipush 99, 2) := by decide +kernel
theorem dL_begin_54 : decode cL_begin 54 = .ok (.iconst 0, 1) := by decide +kernel
theorem dL_begin_55 : decode cL_begin 55 = .ok (.iconst 0, 1) := by decide +kernel
theorem dL_begin_56 : decode cL_begin 56 = .ok (.iconst 0, 1) := by decide +kernel
theorem dL_begin_57 : decode cL_begin 57 = .ok (.invokestatic 170, 3) := by decide +kernel
theorem dL_begin_60 : decode cL_begin 60 = .ok (.ifCond .le 85, 3) := by decide +kernel
theorem dL_begin_63 : decode cL_begin 63 = .ok (.aload_n 0, 1) := by decide +kernel
theorem dL_begin_64 : decode cL_begin 64 = .ok (.iconst 0, 1) := by decide +kernel
theorem dL_begin_65 : decode cL_begin 65 = .ok (.bipush 57, 2) := by decide +kernel
theorem dL_begin_67 : decode cL_begin 67 = .ok (.iload_n 1, 1) := by decide +kernel
theorem dL_begin_68 : decode cL_begin 68 = .ok (.bipush 16, 2) := by decide +kernel
theorem dL_begin_70 : decode cL_begin 70 = .ok (.iload_n 3, 1) := by decide +kernel
theorem dL_begin_71 : decode cL_begin 71 = .ok (.iadd, 1) := by decide +kernel
theorem dL_begin_72 : decode cL_begin 72 = .ok (.idiv, 1) := by decide +kernel
theorem dL_begin_73 : decode cL_begin 73 = .ok (.bipush 9, 2) := by decide +kernel
theorem dL_begin_75 : decode cL_begin 75 = .ok (.irem, 1) := by decide +kernel
theorem dL_begin_76 : decode cL_begin 76 = .ok (.isub, 1) := by decide +kernel
theorem dL_begin_77 : decode cL_begin 77 = .ok (.iconst 0, 1) := by decide +kernel
theorem dL_begin_78 : decode cL_begin 78 = .ok (.iconst 0, 1) := by decide +kernel
theorem dL_begin_79 : decode cL_begin 79 = .ok (.iconst 0, 1) := by decide +kernel
theorem dL_begin_80 : decode cL_begin 80 = .ok (.invokestatic 170, 3) := by decide +kernel
theorem dL_begin_83 : decode cL_begin 83 = .ok (.ifCond .le 62, 3) := by decide +kernel
theorem dL_begin_86 : decode cL_begin 86 = .ok (.aload_n 0, 1) := by decide +kernel
theorem dL_begin_87 : decode cL_begin 87 = .ok (.iconst 0, 1) := by decide +kernel
theorem dL_begin_88 : decode cL_begin 88 = .ok (.bipush 49, 2) := by decide +kernel
theorem dL_begin_90 : decode cL_begin 90 = .ok (.iload_n 1, 1) := by decide +kernel
theorem dL_begin_91 : decode cL_begin 91 = .ok (.bipush 64, 2) := by decide +kernel
theorem dL_begin_93 : decode cL_begin 93 = .ok (.iload_n 3, 1) := by decide +kernel
theorem dL_begin_94 : decode cL_begin 94 = .ok (.iadd, 1) := by decide +kernel
theorem dL_begin_95 : decode cL_begin 95 = .ok (.idiv, 1) := by decide +kernel
theorem dL_begin_96 : decode cL_begin 96 = .ok (.bipush 6, 2) := by decide +kernel
theorem dL_begin_98 : decode cL_begin 98 = .ok (.irem, 1) := by decide +kernel
theorem dL_begin_99 : decode cL_begin 99 = .ok (.iadd, 1) := by decide +kernel
theorem dL_begin_100 : decode cL_begin 100 = .ok (.iconst 0, 1) := by decide +kernel
theorem dL_begin_101 : decode cL_begin 101 = .ok (.iconst 0, 1) := by decide +kernel
theorem dL_begin_102 : decode cL_begin 102 = .ok (.iconst 0, 1) := by decide +kernel
theorem dL_begin_103 : decode cL_begin 103 = .ok (.invokestatic 170, 3) := by decide +kernel
theorem dL_begin_106 : decode cL_begin 106 = .ok (.ifCond .le 39, 3) := by decide +kernel
theorem dL_begin_109 : decode cL_begin 109 = .ok (.aload_n 0, 1) := by decide +kernel
theorem dL_begin_110 : decode cL_begin 110 = .ok (.iconst 0, 1) := by decide +kernel
theorem dL_begin_111 : decode cL_begin 111 = .ok (.bipush 49, 2) := by decide +kernel
theorem dL_begin_113 : decode cL_begin 113 = .ok (.iload_n 1, 1) := by decide +kernel
theorem dL_begin_114 : decode cL_begin 114 = .ok (.sipush 256, 3) := by decide +kernel
theorem dL_begin_117 : decode cL_begin 117 = .ok (.iload_n 3, 1) := by decide +kernel
theorem dL_begin_118 : decode cL_begin 118 = .ok (.iadd, 1) := by decide +kernel
theorem dL_begin_119 : decode cL_begin 119 = .ok (.idiv, 1) := by decide +kernel
theorem dL_begin_120 : decode cL_begin 120 = .ok (.iconst 3, 1) := by decide +kernel
theorem dL_begin_121 : decode cL_begin 121 = .ok (.irem, 1) := by decide +kernel
theorem dL_begin_122 : decode cL_begin 122 = .ok (.iadd, 1) := by decide +kernel
theorem dL_begin_123 : decode cL_begin 123 = .ok (.iconst 0, 1) := by decide +kernel
theorem dL_begin_124 : decode cL_begin 124 = .ok (.iconst 0, 1) := by decide +kernel
theorem dL_begin_125 : decode cL_begin 125 = .ok (.iconst 0, 1) := by decide +kernel
theorem dL_begin_126 : decode cL_begin 126 = .ok (.invokestatic 170, 3) := by decide +kernel
theorem dL_begin_129 : decode cL_begin 129 = .ok (.ifCond .le 16, 3) := by decide +kernel
theorem dL_begin_132 : decode cL_begin 132 = .ok (.aload_n 0, 1) := by decide +kernel
theorem dL_begin_133 : decode cL_begin 133 = .ok (.invokevirtual 216, 3) := by decide +kernel
theorem dL_begin_136 : decode cL_begin 136 = .ok (.bipush (-9), 2) := by decide +kernel
theorem dL_begin_138 : decode cL_begin 138 = .ok (.if_icmp .ne 7, 3) := by decide +kernel
theorem dL_begin_141 : decode cL_begin 141 = .ok (.iconst 1, 1) := by decide +kernel
theorem dL_begin_142 : decode cL_begin 142 = .ok (.goto 4, 3) := by decide +kernel
theorem dL_begin_145 : decode cL_begin 145 = .ok (.iconst 0, 1) := by decide +kernel
theorem dL_begin_146 : decode cL_begin 146 = .ok (.istore_n 2, 1) := by decide +kernel
theorem dL_begin_147 : decode cL_begin 147 = .ok (.iinc 3 1, 3) := by decide +kernel
theorem dL_begin_150 : decode cL_begin 150 = .ok (.goto (-109), 3) := by decide +kernel
theorem dL_begin_153 : decode cL_begin 153 = .ok (.iconst 0, 1) := by decide +kernel
theorem dL_begin_154 : decode cL_begin 154 = .ok (.istore_n 3, 1) := by decide +kernel
theorem dL_begin_155 : decode cL_begin 155 = .ok (.iload_n 3, 1) := by decide +kernel
theorem dL_begin_156 : decode cL_begin 156 = .ok (.iconst 2, 1) := by decide +kernel
theorem dL_begin_157 : decode cL_begin 157 = .ok (.if_icmp .ge 102, 3) := by decide +kernel
theorem dL_begin_160 : decode cL_begin 160 = .ok (.iload_n 2, 1) := by decide +kernel
theorem dL_begin_161 : decode cL_begin 161 = .ok (.ifCond .eq 98, 3) := by decide +kernel
theorem dL_begin_164 : decode cL_begin 164 = .ok (.aload_n 0, 1) := by decide +kernel
theorem dL_begin_165 : decode cL_begin 165 = .ok (.iconst 0, 1) := by decide +kernel
theorem dL_begin_166 : decode cL_begin 166 = .ok (.bipush 109, 2) := by decide +kernel
theorem dL_begin_168 : decode cL_begin 168 = .ok (.iconst 0, 1) := by decide +kernel
theorem dL_begin_169 : decode cL_begin 169 = .ok (.iconst 0, 1) := by decide +kernel
theorem dL_begin_170 : decode cL_begin 170 = .ok (.iconst 0, 1) := by decide +kernel
theorem dL_begin_171 : decode cL_begin 171 = .ok (.invokestatic 170, 3) := by decide +kernel
theorem dL_begin_174 : decode cL_begin 174 = .ok (.ifCond .le 77, 3) := by decide +kernel
theorem dL_begin_177 : decode cL_begin 177 = .ok (.aload_n 0, 1) := by decide +kernel
theorem dL_begin_178 : decode cL_begin 178 = .ok (.iconst 0, 1) := by decide +kernel
theorem dL_begin_179 : decode cL_begin 179 = .ok (.bipush 49, 2) := by decide +kernel
theorem dL_begin_181 : decode cL_begin 181 = .ok (.iload_n 1, 1) := by decide +kernel
theorem dL_begin_182 : decode cL_begin 182 = .ok (.sipush 1024, 3) := by decide +kernel
theorem dL_begin_185 : decode cL_begin 185 = .ok (.iload_n 3, 1) := by decide +kernel
theorem dL_begin_186 : decode cL_begin 186 = .ok (.iadd, 1) := by decide +kernel
theorem dL_begin_187 : decode cL_begin 187 = .ok (.idiv, 1) := by decide +kernel
theorem dL_begin_188 : decode cL_begin 188 = .ok (.bipush 9, 2) := by decide +kernel
theorem dL_begin_190 : decode cL_begin 190 = .ok (.irem, 1) := by decide +kernel
theorem dL_begin_191 : decode cL_begin 191 = .ok (.iadd, 1) := by decide +kernel
theorem dL_begin_192 : decode cL_begin 192 = .ok (.iconst 0, 1) := by decide +kernel
theorem dL_begin_193 : decode cL_begin 193 = .ok (.iconst 0, 1) := by decide +kernel
theorem dL_begin_194 : decode cL_begin 194 = .ok (.iconst 0, 1) := by decide +kernel
theorem dL_begin_195 : decode cL_begin 195 = .ok (.invokestatic 170, 3) := by decide +kernel
theorem dL_begin_198 : decode cL_begin 198 = .ok (.ifCond .le 53, 3) := by decide +kernel
theorem dL_begin_201 : decode cL_begin 201 = .ok (.aload_n 0, 1) := by decide +kernel
theorem dL_begin_202 : decode cL_begin 202 = .ok (.iconst 0, 1) := by decide +kernel
theorem dL_begin_203 : decode cL_begin 203 = .ok (.bipush 48, 2) := by decide +kernel
theorem dL_begin_205 : decode cL_begin 205 = .ok (.iconst 0, 1) := by decide +kernel
theorem dL_begin_206 : decode cL_begin 206 = .ok (.iconst 0, 1) := by decide +kernel
theorem dL_begin_207 : decode cL_begin 207 = .ok (.iconst 0, 1) := by decide +kernel
theorem dL_begin_208 : decode cL_begin 208 = .ok (.invokestatic 170, 3) := by decide +kernel
theorem dL_begin_211 : decode cL_begin 211 = .ok (.ifCond .le 40, 3) := by decide +kernel
theorem dL_begin_214 : decode cL_begin 214 = .ok (.aload_n 0, 1) := by decide +kernel
theorem dL_begin_215 : decode cL_begin 215 = .ok (.iconst 0, 1) := by decide +kernel
theorem dL_begin_216 : decode cL_begin 216 = .ok (.bipush 49, 2) := by decide +kernel
theorem dL_begin_218 : decode cL_begin 218 = .ok (.iload_n 1, 1) := by decide +kernel
theorem dL_begin_219 : decode cL_begin 219 = .ok (.sipush 8192, 3) := by decide +kernel
theorem dL_begin_222 : decode cL_begin 222 = .ok (.iload_n 3, 1) := by decide +kernel
theorem dL_begin_223 : decode cL_begin 223 = .ok (.iadd, 1) := by decide +kernel
theorem dL_begin_224 : decode cL_begin 224 = .ok (.idiv, 1) := by decide +kernel
theorem dL_begin_225 : decode cL_begin 225 = .ok (.bipush 9, 2) := by decide +kernel
theorem dL_begin_227 : decode cL_begin 227 = .ok (.irem, 1) := by decide +kernel
theorem dL_begin_228 : decode cL_begin 228 = .ok (.iadd, 1) := by decide +kernel
theorem dL_begin_229 : decode cL_begin 229 = .ok (.iconst 0, 1) := by decide +kernel
theorem dL_begin_230 : decode cL_begin 230 = .ok (.iconst 0, 1) := by decide +kernel
theorem dL_begin_231 : decode cL_begin 231 = .ok (.iconst 0, 1) := by decide +kernel
theorem dL_begin_232 : decode cL_begin 232 = .ok (.invokestatic 170, 3) := by decide +kernel
theorem dL_begin_235 : decode cL_begin 235 = .ok (.ifCond .le 16, 3) := by decide +kernel
theorem dL_begin_238 : decode cL_begin 238 = .ok (.aload_n 0, 1) := by decide +kernel
theorem dL_begin_239 : decode cL_begin 239 = .ok (.invokevirtual 216, 3) := by decide +kernel
theorem dL_begin_242 : decode cL_begin 242 = .ok (.bipush (-9), 2) := by decide +kernel
theorem dL_begin_244 : decode cL_begin 244 = .ok (.if_icmp .ne 7, 3) := by decide +kernel
theorem dL_begin_247 : decode cL_begin 247 = .ok (.iconst 1, 1) := by decide +kernel
theorem dL_begin_248 : decode cL_begin 248 = .ok (.goto 4, 3) := by decide +kernel
theorem dL_begin_251 : decode cL_begin 251 = .ok (.iconst 0, 1) := by decide +kernel
theorem dL_begin_252 : decode cL_begin 252 = .ok (.istore_n 2, 1) := by decide +kernel
theorem dL_begin_253 : decode cL_begin 253 = .ok (.iinc 3 1, 3) := by decide +kernel
theorem dL_begin_256 : decode cL_begin 256 = .ok (.goto (-101), 3) := by decide +kernel
theorem dL_begin_259 : decode cL_begin 259 = .ok (.iload_n 2, 1) := by decide +kernel
theorem dL_begin_260 : decode cL_begin 260 = .ok (.ifCond .eq 59, 3) := by decide +kernel
theorem dL_begin_263 : decode cL_begin 263 = .ok (.aload_n 0, 1) := by decide +kernel
theorem dL_begin_264 : decode cL_begin 264 = .ok (.iconst 0, 1) := by decide +kernel
theorem dL_begin_265 : decode cL_begin 265 = .ok (.bipush 115, 2) := by decide +kernel
theorem dL_begin_267 : decode cL_begin 267 = .ok (.iconst 0, 1) := by decide +kernel
theorem dL_begin_268 : decode cL_begin 268 = .ok (.iconst 0, 1) := by decide +kernel
theorem dL_begin_269 : decode cL_begin 269 = .ok (.iconst 0, 1) := by decide +kernel
theorem dL_begin_270 : decode cL_begin 270 = .ok (.invokestatic 170, 3) := by decide +kernel
theorem dL_begin_273 : decode cL_begin 273 = .ok (.ifCond .le 46, 3) := by decide +kernel
theorem dL_begin_276 : decode cL_begin 276 = .ok (.aload_n 0, 1) := by decide +kernel
theorem dL_begin_277 : decode cL_begin 277 = .ok (.iconst 0, 1) := by decide +kernel
theorem dL_begin_278 : decode cL_begin 278 = .ok (.bipush 49, 2) := by decide +kernel
theorem dL_begin_280 : decode cL_begin 280 = .ok (.iconst 0, 1) := by decide +kernel
theorem dL_begin_281 : decode cL_begin 281 = .ok (.iconst 0, 1) := by decide +kernel
theorem dL_begin_282 : decode cL_begin 282 = .ok (.iconst 0, 1) := by decide +kernel
theorem dL_begin_283 : decode cL_begin 283 = .ok (.invokestatic 170, 3) := by decide +kernel
theorem dL_begin_286 : decode cL_begin 286 = .ok (.ifCond .le 33, 3) := by decide +kernel
theorem dL_begin_289 : decode cL_begin 289 = .ok (.aload_n 0, 1) := by decide +kernel
theorem dL_begin_290 : decode cL_begin 290 = .ok (.iconst 0, 1) := by decide +kernel
theorem dL_begin_291 : decode cL_begin 291 = .ok (.bipush 48, 2) := by decide +kernel
theorem dL_begin_293 : decode cL_begin 293 = .ok (.iconst 0, 1) := by decide +kernel
theorem dL_begin_294 : decode cL_begin 294 = .ok (.iconst 0, 1) := by decide +kernel
theorem dL_begin_295 : decode cL_begin 295 = .ok (.iconst 0, 1) := by decide +kernel
theorem dL_begin_296 : decode cL_begin 296 = .ok (.invokestatic 170, 3) := by decide +kernel
theorem dL_begin_299 : decode cL_begin 299 = .ok (.ifCond .le 20, 3) := by decide +kernel
theorem dL_begin_302 : decode cL_begin 302 = .ok (.aload_n 0, 1) := by decide +kernel
theorem dL_begin_303 : decode cL_begin 303 = .ok (.iconst 0, 1) := by decide +kernel
theorem dL_begin_304 : decode cL_begin 304 = .ok (.bipush 50, 2) := by decide +kernel
theorem dL_begin_306 : decode cL_begin 306 = .ok (.iconst 0, 1) := by decide +kernel
theorem dL_begin_307 : decode cL_begin 307 = .ok (.iconst 0, 1) := by decide +kernel
theorem dL_begin_308 : decode cL_begin 308 = .ok (.iconst 0, 1) := by decide +kernel
theorem dL_begin_309 : decode cL_begin 309 = .ok (.invokestatic 170, 3) := by decide +kernel
theorem dL_begin_312 : decode cL_begin 312 = .ok (.ifCond .le 7, 3) := by decide +kernel
theorem dL_begin_315 : decode cL_begin 315 = .ok (.iconst 1, 1) := by decide +kernel
theorem dL_begin_316 : decode cL_begin 316 = .ok (.goto 4, 3) := by decide +kernel
theorem dL_begin_319 : decode cL_begin 319 = .ok (.iconst 0, 1) := by decide +kernel
theorem dL_begin_320 : decode cL_begin 320 = .ok (.istore_n 2, 1) := by decide +kernel
theorem dL_begin_321 : decode cL_begin 321 = .ok (.iload_n 2, 1) := by decide +kernel
theorem dL_begin_322 : decode cL_begin 322 = .ok (.ifCond .eq 20, 3) := by decide +kernel
theorem dL_begin_325 : decode cL_begin 325 = .ok (.aload_n 0, 1) := by decide +kernel
theorem dL_begin_326 : decode cL_begin 326 = .ok (.iconst 1, 1) := by decide +kernel
theorem dL_begin_327 : decode cL_begin 327 = .ok (.iconst 0, 1) := by decide +kernel
theorem dL_begin_328 : decode cL_begin 328 = .ok (.iconst 0, 1) := by decide +kernel
theorem dL_begin_329 : decode cL_begin 329 = .ok (.iconst 0, 1) := by decide +kernel
theorem dL_begin_330 : decode cL_begin 330 = .ok (.iconst 0, 1) := by decide +kernel
theorem dL_begin_331 : decode cL_begin 331 = .ok (.invokestatic 170, 3) := by decide +kernel
theorem dL_begin_334 : decode cL_begin 334 = .ok (.iconst 1, 1) := by decide +kernel
theorem dL_begin_335 : decode cL_begin 335 = .ok (.if_icmp .ne 7, 3) := by decide +kernel
theorem dL_begin_338 : decode cL_begin 338 = .ok (.iconst 1, 1) := by decide +kernel
theorem dL_begin_339 : decode cL_begin 339 = .ok (.goto 4, 3) := by decide +kernel
theorem dL_begin_342 : decode cL_begin 342 = .ok (.iconst 0, 1) := by decide +kernel
theorem dL_begin_343 : decode cL_begin 343 = .ok (.ireturn, 1) := by decide +kernel
theorem dL_law_0 : decode cL_law 0 = .ok (.new 8, 3) := by decide +kernel
theorem dL_law_3 : decode cL_law 3 = .ok (.dup, 1) := by decide +kernel
theorem dL_law_4 : decode cL_law 4 = .ok (.invokespecial 219, 3) := by decide +kernel
theorem dL_law_7 : decode cL_law 7 = .ok (.astore_n 1, 1) := by decide +kernel
theorem dL_law_8 : decode cL_law 8 = .ok (.new 8, 3) := by decide +kernel
theorem dL_law_11 : decode cL_law 11 = .ok (.dup, 1) := by decide +kernel
theorem dL_law_12 : decode cL_law 12 = .ok (.invokespecial 219, 3) := by decide +kernel
theorem dL_law_15 : decode cL_law 15 = .ok (.astore_n 2, 1) := by decide +kernel
theorem dL_law_16 : decode cL_law 16 = .ok (.aload_n 0, 1) := by decide +kernel
theorem dL_law_17 : decode cL_law 17 = .ok (.iconst 0, 1) := by decide +kernel
theorem dL_law_18 : decode cL_law 18 = .ok (.invokestatic 220, 3) := by decide +kernel
theorem dL_law_21 : decode cL_law 21 = .ok (.istore_n 3, 1) := by decide +kernel
theorem dL_law_22 : decode cL_law 22 = .ok (.aload_n 1, 1) := by decide +kernel
theorem dL_law_23 : decode cL_law 23 = .ok (.iload_n 3, 1) := by decide +kernel
theorem dL_law_24 : decode cL_law 24 = .ok (.invokestatic 224, 3) := by decide +kernel
theorem dL_law_27 : decode cL_law 27 = .ok (.ifCond .eq 15, 3) := by decide +kernel
theorem dL_law_30 : decode cL_law 30 = .ok (.aload_n 2, 1) := by decide +kernel
theorem dL_law_31 : decode cL_law 31 = .ok (.iload_n 3, 1) := by decide +kernel
theorem dL_law_32 : decode cL_law 32 = .ok (.invokestatic 224, 3) := by decide +kernel
theorem dL_law_35 : decode cL_law 35 = .ok (.ifCond .eq 7, 3) := by decide +kernel
theorem dL_law_38 : decode cL_law 38 = .ok (.iconst 1, 1) := by decide +kernel
theorem dL_law_39 : decode cL_law 39 = .ok (.goto 4, 3) := by decide +kernel
theorem dL_law_42 : decode cL_law 42 = .ok (.iconst 0, 1) := by decide +kernel
theorem dL_law_43 : decode cL_law 43 = .ok (.istore 4, 2) := by decide +kernel
theorem dL_law_45 : decode cL_law 45 = .ok (.iconst 0, 1) := by decide +kernel
theorem dL_law_46 : decode cL_law 46 = .ok (.istore 5, 2) := by decide +kernel
theorem dL_law_48 : decode cL_law 48 = .ok (.iload 5, 2) := by decide +kernel
theorem dL_law_50 : decode cL_law 50 = .ok (.bipush 28, 2) := by decide +kernel
theorem dL_law_52 : decode cL_law 52 = .ok (.if_icmp .ge 338, 3) := by decide +kernel
theorem dL_law_55 : decode cL_law 55 = .ok (.iload 4, 2) := by decide +kernel
theorem dL_law_57 : decode cL_law 57 = .ok (.ifCond .eq 333, 3) := by decide +kernel
theorem dL_law_60 : decode cL_law 60 = .ok (.aload_n 0, 1) := by decide +kernel
theorem dL_law_61 : decode cL_law 61 = .ok (.iconst 1, 1) := by decide +kernel
theorem dL_law_62 : decode cL_law 62 = .ok (.iconst 2, 1) := by decide +kernel
theorem dL_law_63 : decode cL_law 63 = .ok (.iload 5, 2) := by decide +kernel
theorem dL_law_65 : decode cL_law 65 = .ok (.imul, 1) := by decide +kernel
theorem dL_law_66 : decode cL_law 66 = .ok (.iadd, 1) := by decide +kernel
theorem dL_law_67 : decode cL_law 67 = .ok (.invokestatic 220, 3) := by decide +kernel
theorem dL_law_70 : decode cL_law 70 = .ok (.istore 6, 2) := by decide +kernel
theorem dL_law_72 : decode cL_law 72 = .ok (.aload_n 0, 1) := by decide +kernel
theorem dL_law_73 : decode cL_law 73 = .ok (.iconst 2, 1) := by decide +kernel
theorem dL_law_74 : decode cL_law 74 = .ok (.iconst 2, 1) := by decide +kernel
theorem dL_law_75 : decode cL_law 75 = .ok (.iload 5, 2) := by decide +kernel
theorem dL_law_77 : decode cL_law 77 = .ok (.imul, 1) := by decide +kernel
theorem dL_law_78 : decode cL_law 78 = .ok (.iadd, 1) := by decide +kernel
theorem dL_law_79 : decode cL_law 79 = .ok (.invokestatic 220, 3) := by decide +kernel
theorem dL_law_82 : decode cL_law 82 = .ok (.istore 7, 2) := by decide +kernel
theorem dL_law_84 : decode cL_law 84 = .ok (.aload_n 2, 1) := by decide +kernel
theorem dL_law_85 : decode cL_law 85 = .ok (.iload 6, 2) := by decide +kernel
theorem dL_law_87 : decode cL_law 87 = .ok (.invokestatic 228, 3) := by decide +kernel
theorem dL_law_90 : decode cL_law 90 = .ok (.ifCond .eq 45, 3) := by decide +kernel
theorem dL_law_93 : decode cL_law 93 = .ok (.aload_n 1, 1) := by decide +kernel
theorem dL_law_94 : decode cL_law 94 = .ok (.iload 6, 2) := by decide +kernel
theorem dL_law_96 : decode cL_law 96 = .ok (.iload 7, 2) := by decide +kernel
theorem dL_law_98 : decode cL_law 98 = .ok (.invokestatic 231, 3) := by decide +kernel
theorem dL_law_101 : decode cL_law 101 = .ok (.aload_n 2, 1) := by decide +kernel
theorem dL_law_102 : decode cL_law 102 = .ok (.iload 6, 2) := by decide +kernel
theorem dL_law_104 : decode cL_law 104 = .ok (.iload 7, 2) := by decide +kernel
theorem dL_law_106 : decode cL_law 106 = .ok (.invokestatic 231, 3) := by decide +kernel
theorem dL_law_109 : decode cL_law 109 = .ok (.if_icmp .ne 26, 3) := by decide +kernel
theorem dL_law_112 : decode cL_law 112 = .ok (.aload_n 1, 1) := by decide +kernel
theorem dL_law_113 : decode cL_law 113 = .ok (.invokestatic 184, 3) := by decide +kernel
theorem dL_law_116 : decode cL_law 116 = .ok (.aload_n 2, 1) := by decide +kernel
theorem dL_law_117 : decode cL_law 117 = .ok (.invokestatic 184, 3) := by decide +kernel
theorem dL_law_120 : decode cL_law 120 = .ok (.lcmp, 1) := by decide +kernel
theorem dL_law_121 : decode cL_law 121 = .ok (.ifCond .ne 14, 3) := by decide +kernel
theorem dL_law_124 : decode cL_law 124 = .ok (.aload_n 1, 1) := by decide +kernel
theorem dL_law_125 : decode cL_law 125 = .ok (.invokestatic 234, 3) := by decide +kernel
theorem dL_law_128 : decode cL_law 128 = .ok (.ifCond .eq 7, 3) := by decide +kernel
theorem dL_law_131 : decode cL_law 131 = .ok (.iconst 1, 1) := by decide +kernel
theorem dL_law_132 : decode cL_law 132 = .ok (.goto 4, 3) := by decide +kernel
theorem dL_law_135 : decode cL_law 135 = .ok (.iconst 0, 1) := by decide +kernel
theorem dL_law_136 : decode cL_law 136 = .ok (.istore 4, 2) := by decide +kernel
theorem dL_law_138 : decode cL_law 138 = .ok (.iload 5, 2) := by decide +kernel
theorem dL_law_140 : decode cL_law 140 = .ok (.iconst 3, 1) := by decide +kernel
theorem dL_law_141 : decode cL_law 141 = .ok (.irem, 1) := by decide +kernel
theorem dL_law_142 : decode cL_law 142 = .ok (.iconst 2, 1) := by decide +kernel
theorem dL_law_143 : decode cL_law 143 = .ok (.if_icmp .ne 105, 3) := by decide +kernel
theorem dL_law_146 : decode cL_law 146 = .ok (.iload 4, 2) := by decide +kernel
theorem dL_law_148 : decode cL_law 148 = .ok (.ifCond .eq 100, 3) := by decide +kernel
theorem dL_law_151 : decode cL_law 151 = .ok (.aload_n 1, 1) := by decide +kernel
theorem dL_law_152 : decode cL_law 152 = .ok (.invokestatic 238, 3) := by decide +kernel
theorem dL_law_155 : decode cL_law 155 = .ok (.ifCond .eq 90, 3) := by decide +kernel
theorem dL_law_158 : decode cL_law 158 = .ok (.aload_n 2, 1) := by decide +kernel
theorem dL_law_159 : decode cL_law 159 = .ok (.invokestatic 238, 3) := by decide +kernel
theorem dL_law_162 : decode cL_law 162 = .ok (.ifCond .eq 83, 3) := by decide +kernel
theorem dL_law_165 : decode cL_law 165 = .ok (.aload_n 1, 1) := by decide +kernel
theorem dL_law_166 : decode cL_law 166 = .ok (.iload 7, 2) := by decide +kernel
theorem dL_law_168 : decode cL_law 168 = .ok (.bipush 10, 2) := by decide +kernel
theorem dL_law_170 : decode cL_law 170 = .ok (.irem, 1) := by decide +kernel
theorem dL_law_171 : decode cL_law 171 = .ok (.invokestatic 241, 3) := by decide +kernel
theorem dL_law_174 : decode cL_law 174 = .ok (.ifCond .eq 71, 3) := by decide +kernel
theorem dL_law_177 : decode cL_law 177 = .ok (.aload_n 2, 1) := by decide +kernel
theorem dL_law_178 : decode cL_law 178 = .ok (.iload 7, 2) := by decide +kernel
theorem dL_law_180 : decode cL_law 180 = .ok (.bipush 10, 2) := by decide +kernel
theorem dL_law_182 : decode cL_law 182 = .ok (.irem, 1) := by decide +kernel
theorem dL_law_183 : decode cL_law 183 = .ok (.invokestatic 241, 3) := by decide +kernel
theorem dL_law_186 : decode cL_law 186 = .ok (.ifCond .eq 59, 3) := by decide +kernel
theorem dL_law_189 : decode cL_law 189 = .ok (.aload_n 1, 1) := by decide +kernel
theorem dL_law_190 : decode cL_law 190 = .ok (.iload 6, 2) := by decide +kernel
theorem dL_law_192 : decode cL_law 192 = .ok (.bipush 32, 2) := by decide +kernel
theorem dL_law_194 : decode cL_law 194 = .ok (.idiv, 1) := by decide +kernel
theorem dL_law_195 : decode cL_law 195 = .ok (.aload_n 1, 1) := by decide +kernel
theorem dL_law_196 : decode cL_law 196 = .ok (.iconst 0, 1) := by decide +kernel
theorem dL_law_197 : decode cL_law 197 = .ok (.invokestatic 176, 3) := by decide +kernel
theorem dL_law_200 : decode cL_law 200 = .ok (.irem, 1) := by decide +kernel
theorem dL_law_201 : decode cL_law 201 = .ok (.iload 7, 2) := by decide +kernel
theorem dL_law_203 : decode cL_law 203 = .ok (.bipush 16, 2) := by decide +kernel
theorem dL_law_205 : decode cL_law 205 = .ok (.idiv, 1) := by decide +kernel
theorem dL_law_206 : decode cL_law 206 = .ok (.bipush 10, 2) := by decide +kernel
theorem dL_law_208 : decode cL_law 208 = .ok (.irem, 1) := by decide +kernel
theorem dL_law_209 : decode cL_law 209 = .ok (.invokestatic 244, 3) := by decide +kernel
theorem dL_law_212 : decode cL_law 212 = .ok (.ifCond .eq 33, 3) := by decide +kernel
theorem dL_law_215 : decode cL_law 215 = .ok (.aload_n 2, 1) := by decide +kernel
theorem dL_law_216 : decode cL_law 216 = .ok (.iload 6, 2) := by decide +kernel
theorem dL_law_218 : decode cL_law 218 = .ok (.bipush 32, 2) := by decide +kernel
theorem dL_law_220 : decode cL_law 220 = .ok (.idiv, 1) := by decide +kernel
theorem dL_law_221 : decode cL_law 221 = .ok (.aload_n 2, 1) := by decide +kernel
theorem dL_law_222 : decode cL_law 222 = .ok (.iconst 0, 1) := by decide +kernel
theorem dL_law_223 : decode cL_law 223 = .ok (.invokestatic 176, 3) := by decide +kernel
theorem dL_law_226 : decode cL_law 226 = .ok (.irem, 1) := by decide +kernel
theorem dL_law_227 : decode cL_law 227 = .ok (.iload 7, 2) := by decide +kernel
theorem dL_law_229 : decode cL_law 229 = .ok (.bipush 16, 2) := by decide +kernel
theorem dL_law_231 : decode cL_law 231 = .ok (.idiv, 1) := by decide +kernel
theorem dL_law_232 : decode cL_law 232 = .ok (.bipush 10, 2) := by decide +kernel
theorem dL_law_234 : decode cL_law 234 = .ok (.irem, 1) := by decide +kernel
theorem dL_law_235 : decode cL_law 235 = .ok (.invokestatic 244, 3) := by decide +kernel
theorem dL_law_238 : decode cL_law 238 = .ok (.ifCond .eq 7, 3) := by decide +kernel
theorem dL_law_241 : decode cL_law 241 = .ok (.iconst 1, 1) := by decide +kernel
theorem dL_law_242 : decode cL_law 242 = .ok (.goto 4, 3) := by decide +kernel
theorem dL_law_245 : decode cL_law 245 = .ok (.iconst 0, 1) := by decide +kernel
theorem dL_law_246 : decode cL_law 246 = .ok (.istore 4, 2) := by decide +kernel
theorem dL_law_248 : decode cL_law 248 = .ok (.iload 5, 2) := by decide +kernel
theorem dL_law_250 : decode cL_law 250 = .ok (.iconst 4, 1) := by decide +kernel
theorem dL_law_251 : decode cL_law 251 = .ok (.irem, 1) := by decide +kernel
theorem dL_law_252 : decode cL_law 252 = .ok (.iconst 3, 1) := by decide +kernel
theorem dL_law_253 : decode cL_law 253 = .ok (.if_icmp .ne 55, 3) := by decide +kernel
theorem dL_law_256 : decode cL_law 256 = .ok (.iload 4, 2) := by decide +kernel
theorem dL_law_258 : decode cL_law 258 = .ok (.ifCond .eq 50, 3) := by decide +kernel
theorem dL_law_261 : decode cL_law 261 = .ok (.aload_n 1, 1) := by decide +kernel
theorem dL_law_262 : decode cL_law 262 = .ok (.invokestatic 248, 3) := by decide +kernel
theorem dL_law_265 : decode cL_law 265 = .ok (.ifCond .eq 40, 3) := by decide +kernel
theorem dL_law_268 : decode cL_law 268 = .ok (.aload_n 2, 1) := by decide +kernel
theorem dL_law_269 : decode cL_law 269 = .ok (.invokestatic 248, 3) := by decide +kernel
theorem dL_law_272 : decode cL_law 272 = .ok (.ifCond .eq 33, 3) := by decide +kernel
theorem dL_law_275 : decode cL_law 275 = .ok (.aload_n 1, 1) := by decide +kernel
theorem dL_law_276 : decode cL_law 276 = .ok (.invokestatic 251, 3) := by decide +kernel
theorem dL_law_279 : decode cL_law 279 = .ok (.ifCond .eq 26, 3) := by decide +kernel
theorem dL_law_282 : decode cL_law 282 = .ok (.aload_n 2, 1) := by decide +kernel
theorem dL_law_283 : decode cL_law 283 = .ok (.invokestatic 251, 3) := by decide +kernel
theorem dL_law_286 : decode cL_law 286 = .ok (.ifCond .eq 19, 3) := by decide +kernel
theorem dL_law_289 : decode cL_law 289 = .ok (.aload_n 1, 1) := by decide +kernel
theorem dL_law_290 : decode cL_law 290 = .ok (.invokestatic 184, 3) := by decide +kernel
theorem dL_law_293 : decode cL_law 293 = .ok (.aload_n 2, 1) := by decide +kernel
theorem dL_law_294 : decode cL_law 294 = .ok (.invokestatic 184, 3) := by decide +kernel
theorem dL_law_297 : decode cL_law 297 = .ok (.lcmp, 1) := by decide +kernel
theorem dL_law_298 : decode cL_law 298 = .ok (.ifCond .ne 7, 3) := by decide +kernel
theorem dL_law_301 : decode cL_law 301 = .ok (.iconst 1, 1) := by decide +kernel
theorem dL_law_302 : decode cL_law 302 = .ok (.goto 4, 3) := by decide +kernel
theorem dL_law_305 : decode cL_law 305 = .ok (.iconst 0, 1) := by decide +kernel
theorem dL_law_306 : decode cL_law 306 = .ok (.istore 4, 2) := by decide +kernel
theorem dL_law_308 : decode cL_law 308 = .ok (.iload 5, 2) := by decide +kernel
theorem dL_law_310 : decode cL_law 310 = .ok (.bipush 9, 2) := by decide +kernel
theorem dL_law_312 : decode cL_law 312 = .ok (.irem, 1) := by decide +kernel
theorem dL_law_313 : decode cL_law 313 = .ok (.bipush 8, 2) := by decide +kernel
theorem dL_law_315 : decode cL_law 315 = .ok (.if_icmp .ne 69, 3) := by decide +kernel
theorem dL_law_318 : decode cL_law 318 = .ok (.iload 4, 2) := by decide +kernel
theorem dL_law_320 : decode cL_law 320 = .ok (.ifCond .eq 64, 3) := by decide +kernel
theorem dL_law_323 : decode cL_law 323 = .ok (.iload 7, 2) := by decide +kernel
theorem dL_law_325 : decode cL_law 325 = .ok (.i2l, 1) := by decide +kernel
theorem dL_law_326 : decode cL_law 326 = .ok (.ldc2_w 254, 3) := by decide +kernel
theorem dL_law_329 : decode cL_law 329 = .ok (.lmul, 1) := by decide +kernel
theorem dL_law_330 : decode cL_law 330 = .ok (.ldc2_w 256, 3) := by decide +kernel
theorem dL_law_333 : decode cL_law 333 = .ok (.lsub, 1) := by decide +kernel
theorem dL_law_334 : decode cL_law 334 = .ok (.lstore 8, 2) := by decide +kernel
theorem dL_law_336 : decode cL_law 336 = .ok (.aload_n 1, 1) := by decide +kernel
theorem dL_law_337 : decode cL_law 337 = .ok (.lload 8, 2) := by decide +kernel
theorem dL_law_339 : decode cL_law 339 = .ok (.iconst 1, 1) := by decide +kernel
theorem dL_law_340 : decode cL_law 340 = .ok (.iload 6, 2) := by decide +kernel
theorem dL_law_342 : decode cL_law 342 = .ok (.bipush 70, 2) := by decide +kernel
theorem dL_law_344 : decode cL_law 344 = .ok (.irem, 1) := by decide +kernel
theorem dL_law_345 : decode cL_law 345 = .ok (.iadd, 1) := by decide +kernel
theorem dL_law_346 : decode cL_law 346 = .ok (.invokestatic 212, 3) := by decide +kernel
theorem dL_law_349 : decode cL_law 349 = .ok (.aload_n 2, 1) := by decide +kernel
theorem dL_law_350 : decode cL_law 350 = .ok (.lload 8, 2) := by decide +kernel
theorem dL_law_352 : decode cL_law 352 = .ok (.iconst 1, 1) := by decide +kernel
theorem dL_law_353 : decode cL_law 353 = .ok (.iload 6, 2) := by decide +kernel
theorem dL_law_355 : decode cL_law 355 = .ok (.bipush 70, 2) := by decide +kernel
theorem dL_law_357 : decode cL_law 357 = .ok (.irem, 1) := by decide +kernel
theorem dL_law_358 : decode cL_law 358 = .ok (.iadd, 1) := by decide +kernel
theorem dL_law_359 : decode cL_law 359 = .ok (.invokestatic 212, 3) := by decide +kernel
theorem dL_law_362 : decode cL_law 362 = .ok (.if_icmp .ne 19, 3) := by decide +kernel
theorem dL_law_365 : decode cL_law 365 = .ok (.aload_n 1, 1) := by decide +kernel
theorem dL_law_366 : decode cL_law 366 = .ok (.invokestatic 184, 3) := by decide +kernel
theorem dL_law_369 : decode cL_law 369 = .ok (.aload_n 2, 1) := by decide +kernel
theorem dL_law_370 : decode cL_law 370 = .ok (.invokestatic 184, 3) := by decide +kernel
theorem dL_law_373 : decode cL_law 373 = .ok (.lcmp, 1) := by decide +kernel
theorem dL_law_374 : decode cL_law 374 = .ok (.ifCond .ne 7, 3) := by decide +kernel
theorem dL_law_377 : decode cL_law 377 = .ok (.iconst 1, 1) := by decide +kernel
theorem dL_law_378 : decode cL_law 378 = .ok (.goto 4, 3) := by decide +kernel
theorem dL_law_381 : decode cL_law 381 = .ok (.iconst 0, 1) := by decide +kernel
theorem dL_law_382 : decode cL_law 382 = .ok (.istore 4, 2) := by decide +kernel
theorem dL_law_384 : decode cL_law 384 = .ok (.iinc 5 1, 3) := by decide +kernel
theorem dL_law_387 : decode cL_law 387 = .ok (.goto (-339), 3) := by decide +kernel
theorem dL_law_390 : decode cL_law 390 = .ok (.iload 4, 2) := by decide +kernel
theorem dL_law_392 : decode cL_law 392 = .ok (.ireturn, 1) := by decide +kernel
