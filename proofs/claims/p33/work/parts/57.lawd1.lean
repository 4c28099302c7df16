theorem dL_cell_0 : decode cL_cell 0 = .ok (.iload_n 1, 1) := by decide +kernel
theorem dL_cell_1 : decode cL_cell 1 = .ok (.aload_n 0, 1) := by decide +kernel
theorem dL_cell_2 : decode cL_cell 2 = .ok (.arraylength, 1) := by decide +kernel
theorem dL_cell_3 : decode cL_cell 3 = .ok (.if_icmp .ge 9, 3) := by decide +kernel
theorem dL_cell_6 : decode cL_cell 6 = .ok (.aload_n 0, 1) := by decide +kernel
theorem dL_cell_7 : decode cL_cell 7 = .ok (.iload_n 1, 1) := by decide +kernel
theorem dL_cell_8 : decode cL_cell 8 = .ok (.iaload, 1) := by decide +kernel
theorem dL_cell_9 : decode cL_cell 9 = .ok (.goto 10, 3) := by decide +kernel
theorem dL_cell_12 : decode cL_cell 12 = .ok (.ldc 7, 2) := by decide +kernel
theorem dL_cell_14 : decode cL_cell 14 = .ok (.iload_n 1, 1) := by decide +kernel
theorem dL_cell_15 : decode cL_cell 15 = .ok (.imul, 1) := by decide +kernel
theorem dL_cell_16 : decode cL_cell 16 = .ok (.bipush 109, 2) := by decide +kernel
theorem dL_cell_18 : decode cL_cell 18 = .ok (.iadd, 1) := by decide +kernel
theorem dL_cell_19 : decode cL_cell 19 = .ok (.ldc 8, 2) := by decide +kernel
theorem dL_cell_21 : decode cL_cell 21 = .ok (.iand, 1) := by decide +kernel
theorem dL_cell_22 : decode cL_cell 22 = .ok (.ireturn, 1) := by decide +kernel
theorem dL_holds_0 : decode cL_holds 0 = .ok (.aload_n 0, 1) := by decide +kernel
theorem dL_holds_1 : decode cL_holds 1 = .ok (.invokevirtual 9, 3) := by decide +kernel
theorem dL_holds_4 : decode cL_holds 4 = .ok (.istore_n 1, 1) := by decide +kernel
theorem dL_holds_5 : decode cL_holds 5 = .ok (.aload_n 0, 1) := by decide +kernel
theorem dL_holds_6 : decode cL_holds 6 = .ok (.invokevirtual 15, 3) := by decide +kernel
theorem dL_holds_9 : decode cL_holds 9 = .ok (.istore_n 2, 1) := by decide +kernel
theorem dL_holds_10 : decode cL_holds 10 = .ok (.aload_n 0, 1) := by decide +kernel
theorem dL_holds_11 : decode cL_holds 11 = .ok (.invokevirtual 18, 3) := by decide +kernel
theorem dL_holds_14 : decode cL_holds 14 = .ok (.istore_n 3, 1) := by decide +kernel
theorem dL_holds_15 : decode cL_holds 15 = .ok (.iload_n 2, 1) := by decide +kernel
theorem dL_holds_16 : decode cL_holds 16 = .ok (.ifCond .lt 97, 3) := by decide +kernel
theorem dL_holds_19 : decode cL_holds 19 = .ok (.iload_n 2, 1) := by decide +kernel
theorem dL_holds_20 : decode cL_holds 20 = .ok (.iconst 1, 1) := by decide +kernel
theorem dL_holds_21 : decode cL_holds 21 = .ok (.if_icmp .gt 92, 3) := by decide +kernel
theorem dL_holds_24 : decode cL_holds 24 = .ok (.iload_n 1, 1) := by decide +kernel
theorem dL_holds_25 : decode cL_holds 25 = .ok (.ifCond .lt 7, 3) := by decide +kernel
theorem dL_holds_28 : decode cL_holds 28 = .ok (.iconst 1, 1) := by decide +kernel
theorem dL_holds_29 : decode cL_holds 29 = .ok (.goto 4, 3) := by decide +kernel
theorem dL_holds_32 : decode cL_holds 32 = .ok (.iconst 0, 1) := by decide +kernel
theorem dL_holds_33 : decode cL_holds 33 = .ok (.iload_n 3, 1) := by decide +kernel
theorem dL_holds_34 : decode cL_holds 34 = .ok (.ifCond .lt 7, 3) := by decide +kernel
theorem dL_holds_37 : decode cL_holds 37 = .ok (.iconst 1, 1) := by decide +kernel
theorem dL_holds_38 : decode cL_holds 38 = .ok (.goto 4, 3) := by decide +kernel
theorem dL_holds_41 : decode cL_holds 41 = .ok (.iconst 0, 1) := by decide +kernel
theorem dL_holds_42 : decode cL_holds 42 = .ok (.if_icmp .ne 71, 3) := by decide +kernel
theorem dL_holds_45 : decode cL_holds 45 = .ok (.iload_n 1, 1) := by decide +kernel
theorem dL_holds_46 : decode cL_holds 46 = .ok (.ifCond .lt 63, 3) := by decide +kernel
theorem dL_holds_49 : decode cL_holds 49 = .ok (.iload_n 2, 1) := by decide +kernel
theorem dL_holds_50 : decode cL_holds 50 = .ok (.iconst 1, 1) := by decide +kernel
theorem dL_holds_51 : decode cL_holds 51 = .ok (.if_icmp .ne 62, 3) := by decide +kernel
theorem dL_holds_54 : decode cL_holds 54 = .ok (.iload_n 3, 1) := by decide +kernel
theorem dL_holds_55 : decode cL_holds 55 = .ok (.aload_n 0, 1) := by decide +kernel
theorem dL_holds_56 : decode cL_holds 56 = .ok (.iconst 2, 1) := by decide +kernel
theorem dL_holds_57 : decode cL_holds 57 = .ok (.invokevirtual 21, 3) := by decide +kernel
theorem dL_holds_60 : decode cL_holds 60 = .ok (.if_icmp .ge 53, 3) := by decide +kernel
theorem dL_holds_63 : decode cL_holds 63 = .ok (.aload_n 0, 1) := by decide +kernel
theorem dL_holds_64 : decode cL_holds 64 = .ok (.iload_n 3, 1) := by decide +kernel
theorem dL_holds_65 : decode cL_holds 65 = .ok (.invokevirtual 25, 3) := by decide +kernel
theorem dL_holds_68 : decode cL_holds 68 = .ok (.iload_n 1, 1) := by decide +kernel
theorem dL_holds_69 : decode cL_holds 69 = .ok (.if_icmp .ne 44, 3) := by decide +kernel
theorem dL_holds_72 : decode cL_holds 72 = .ok (.aload_n 0, 1) := by decide +kernel
theorem dL_holds_73 : decode cL_holds 73 = .ok (.invokevirtual 28, 3) := by decide +kernel
theorem dL_holds_76 : decode cL_holds 76 = .ok (.ifCond .le 37, 3) := by decide +kernel
theorem dL_holds_79 : decode cL_holds 79 = .ok (.aload_n 0, 1) := by decide +kernel
theorem dL_holds_80 : decode cL_holds 80 = .ok (.iload_n 1, 1) := by decide +kernel
theorem dL_holds_81 : decode cL_holds 81 = .ok (.invokevirtual 31, 3) := by decide +kernel
theorem dL_holds_84 : decode cL_holds 84 = .ok (.aload_n 0, 1) := by decide +kernel
theorem dL_holds_85 : decode cL_holds 85 = .ok (.invokevirtual 28, 3) := by decide +kernel
theorem dL_holds_88 : decode cL_holds 88 = .ok (.aload_n 0, 1) := by decide +kernel
theorem dL_holds_89 : decode cL_holds 89 = .ok (.iconst 4, 1) := by decide +kernel
theorem dL_holds_90 : decode cL_holds 90 = .ok (.invokevirtual 21, 3) := by decide +kernel
theorem dL_holds_93 : decode cL_holds 93 = .ok (.aload_n 0, 1) := by decide +kernel
theorem dL_holds_94 : decode cL_holds 94 = .ok (.iconst 0, 1) := by decide +kernel
theorem dL_holds_95 : decode cL_holds 95 = .ok (.invokevirtual 21, 3) := by decide +kernel
theorem dL_holds_98 : decode cL_holds 98 = .ok (.aload_n 0, 1) := by decide +kernel
theorem dL_holds_99 : decode cL_holds 99 = .ok (.iconst 2, 1) := by decide +kernel
theorem dL_holds_100 : decode cL_holds 100 = .ok (.invokevirtual 21, 3) := by decide +kernel
theorem dL_holds_103 : decode cL_holds 103 = .ok (.isub, 1) := by decide +kernel
theorem dL_holds_104 : decode cL_holds 104 = .ok (.imul, 1) := by decide +kernel
theorem dL_holds_105 : decode cL_holds 105 = .ok (.iadd, 1) := by decide +kernel
theorem dL_holds_106 : decode cL_holds 106 = .ok (.if_icmp .ne 7, 3) := by decide +kernel
theorem dL_holds_109 : decode cL_holds 109 = .ok (.iconst 1, 1) := by decide +kernel
theorem dL_holds_110 : decode cL_holds 110 = .ok (.goto 4, 3) := by decide +kernel
theorem dL_holds_113 : decode cL_holds 113 = .ok (.iconst 0, 1) := by decide +kernel
theorem dL_holds_114 : decode cL_holds 114 = .ok (.istore 4, 2) := by decide +kernel
theorem dL_holds_116 : decode cL_holds 116 = .ok (.iload 4, 2) := by decide +kernel
theorem dL_holds_118 : decode cL_holds 118 = .ok (.ifCond .eq 64, 3) := by decide +kernel
theorem dL_holds_121 : decode cL_holds 121 = .ok (.aload_n 0, 1) := by decide +kernel
theorem dL_holds_122 : decode cL_holds 122 = .ok (.invokevirtual 34, 3) := by decide +kernel
theorem dL_holds_125 : decode cL_holds 125 = .ok (.ifCond .eq 11, 3) := by decide +kernel
theorem dL_holds_128 : decode cL_holds 128 = .ok (.iload_n 1, 1) := by decide +kernel
theorem dL_holds_129 : decode cL_holds 129 = .ok (.aload_n 0, 1) := by decide +kernel
theorem dL_holds_130 : decode cL_holds 130 = .ok (.invokevirtual 37, 3) := by decide +kernel
theorem dL_holds_133 : decode cL_holds 133 = .ok (.if_icmp .ne 49, 3) := by decide +kernel
theorem dL_holds_136 : decode cL_holds 136 = .ok (.aload_n 0, 1) := by decide +kernel
theorem dL_holds_137 : decode cL_holds 137 = .ok (.invokevirtual 40, 3) := by decide +kernel
theorem dL_holds_140 : decode cL_holds 140 = .ok (.iload_n 1, 1) := by decide +kernel
theorem dL_holds_141 : decode cL_holds 141 = .ok (.ifCond .ge 11, 3) := by decide +kernel
theorem dL_holds_144 : decode cL_holds 144 = .ok (.aload_n 0, 1) := by decide +kernel
theorem dL_holds_145 : decode cL_holds 145 = .ok (.iconst 2, 1) := by decide +kernel
theorem dL_holds_146 : decode cL_holds 146 = .ok (.invokevirtual 21, 3) := by decide +kernel
theorem dL_holds_149 : decode cL_holds 149 = .ok (.goto 4, 3) := by decide +kernel
theorem dL_holds_152 : decode cL_holds 152 = .ok (.iconst 0, 1) := by decide +kernel
theorem dL_holds_153 : decode cL_holds 153 = .ok (.if_icmp .lt 29, 3) := by decide +kernel
theorem dL_holds_156 : decode cL_holds 156 = .ok (.aload_n 0, 1) := by decide +kernel
theorem dL_holds_157 : decode cL_holds 157 = .ok (.invokevirtual 40, 3) := by decide +kernel
theorem dL_holds_160 : decode cL_holds 160 = .ok (.aload_n 0, 1) := by decide +kernel
theorem dL_holds_161 : decode cL_holds 161 = .ok (.iconst 2, 1) := by decide +kernel
theorem dL_holds_162 : decode cL_holds 162 = .ok (.invokevirtual 21, 3) := by decide +kernel
theorem dL_holds_165 : decode cL_holds 165 = .ok (.iload_n 1, 1) := by decide +kernel
theorem dL_holds_166 : decode cL_holds 166 = .ok (.ifCond .ge 7, 3) := by decide +kernel
theorem dL_holds_169 : decode cL_holds 169 = .ok (.iconst 0, 1) := by decide +kernel
theorem dL_holds_170 : decode cL_holds 170 = .ok (.goto 4, 3) := by decide +kernel
theorem dL_holds_173 : decode cL_holds 173 = .ok (.iconst 1, 1) := by decide +kernel
theorem dL_holds_174 : decode cL_holds 174 = .ok (.isub, 1) := by decide +kernel
theorem dL_holds_175 : decode cL_holds 175 = .ok (.if_icmp .gt 7, 3) := by decide +kernel
theorem dL_holds_178 : decode cL_holds 178 = .ok (.iconst 1, 1) := by decide +kernel
theorem dL_holds_179 : decode cL_holds 179 = .ok (.goto 4, 3) := by decide +kernel
theorem dL_holds_182 : decode cL_holds 182 = .ok (.iconst 0, 1) := by decide +kernel
theorem dL_holds_183 : decode cL_holds 183 = .ok (.istore 4, 2) := by decide +kernel
theorem dL_holds_185 : decode cL_holds 185 = .ok (.iload 4, 2) := by decide +kernel
theorem dL_holds_187 : decode cL_holds 187 = .ok (.ifCond .eq 33, 3) := by decide +kernel
theorem dL_holds_190 : decode cL_holds 190 = .ok (.iload_n 1, 1) := by decide +kernel
theorem dL_holds_191 : decode cL_holds 191 = .ok (.ifCond .lt 25, 3) := by decide +kernel
theorem dL_holds_194 : decode cL_holds 194 = .ok (.aload_n 0, 1) := by decide +kernel
theorem dL_holds_195 : decode cL_holds 195 = .ok (.iconst 0, 1) := by decide +kernel
theorem dL_holds_196 : decode cL_holds 196 = .ok (.invokevirtual 43, 3) := by decide +kernel
theorem dL_holds_199 : decode cL_holds 199 = .ok (.aload_n 0, 1) := by decide +kernel
theorem dL_holds_200 : decode cL_holds 200 = .ok (.iconst 2, 1) := by decide +kernel
theorem dL_holds_201 : decode cL_holds 201 = .ok (.invokevirtual 21, 3) := by decide +kernel
theorem dL_holds_204 : decode cL_holds 204 = .ok (.if_icmp .ne 16, 3) := by decide +kernel
theorem dL_holds_207 : decode cL_holds 207 = .ok (.aload_n 0, 1) := by decide +kernel
theorem dL_holds_208 : decode cL_holds 208 = .ok (.iconst 1, 1) := by decide +kernel
theorem dL_holds_209 : decode cL_holds 209 = .ok (.invokevirtual 43, 3) := by decide +kernel
theorem dL_holds_212 : decode cL_holds 212 = .ok (.iload_n 1, 1) := by decide +kernel
theorem dL_holds_213 : decode cL_holds 213 = .ok (.if_icmp .eq 7, 3) := by decide +kernel
theorem dL_holds_216 : decode cL_holds 216 = .ok (.iconst 1, 1) := by decide +kernel
theorem dL_holds_217 : decode cL_holds 217 = .ok (.goto 4, 3) := by decide +kernel
theorem dL_holds_220 : decode cL_holds 220 = .ok (.iconst 0, 1) := by decide +kernel
theorem dL_holds_221 : decode cL_holds 221 = .ok (.ireturn, 1) := by decide +kernel
theorem dL_fragile_0 : decode cL_fragile 0 = .ok (.aload_n 0, 1) := by decide +kernel
theorem dL_fragile_1 : decode cL_fragile 1 = .ok (.iconst 0, 1) := by decide +kernel
theorem dL_fragile_2 : decode cL_fragile 2 = .ok (.invokevirtual 21, 3) := by decide +kernel
theorem dL_fragile_5 : decode cL_fragile 5 = .ok (.istore_n 1, 1) := by decide +kernel
theorem dL_fragile_6 : decode cL_fragile 6 = .ok (.aload_n 0, 1) := by decide +kernel
theorem dL_fragile_7 : decode cL_fragile 7 = .ok (.iconst 3, 1) := by decide +kernel
theorem dL_fragile_8 : decode cL_fragile 8 = .ok (.invokevirtual 21, 3) := by decide +kernel
theorem dL_fragile_11 : decode cL_fragile 11 = .ok (.istore_n 2, 1) := by decide +kernel
theorem dL_fragile_12 : decode cL_fragile 12 = .ok (.aload_n 0, 1) := by decide +kernel
theorem dL_fragile_13 : decode cL_fragile 13 = .ok (.invokevirtual 46, 3) := by decide +kernel
theorem dL_fragile_16 : decode cL_fragile 16 = .ok (.istore_n 3, 1) := by decide +kernel
theorem dL_fragile_17 : decode cL_fragile 17 = .ok (.aload_n 0, 1) := by decide +kernel
theorem dL_fragile_18 : decode cL_fragile 18 = .ok (.invokevirtual 49, 3) := by decide +kernel
theorem dL_fragile_21 : decode cL_fragile 21 = .ok (.istore 4, 2) := by decide +kernel
theorem dL_fragile_23 : decode cL_fragile 23 = .ok (.iconst 0, 1) := by decide +kernel
theorem dL_fragile_24 : decode cL_fragile 24 = .ok (.istore 5, 2) := by decide +kernel
theorem dL_fragile_26 : decode cL_fragile 26 = .ok (.iload_n 3, 1) := by decide +kernel
theorem dL_fragile_27 : decode cL_fragile 27 = .ok (.ifCond .lt 32, 3) := by decide +kernel
theorem dL_fragile_30 : decode cL_fragile 30 = .ok (.iload_n 3, 1) := by decide +kernel
theorem dL_fragile_31 : decode cL_fragile 31 = .ok (.iload_n 1, 1) := by decide +kernel
theorem dL_fragile_32 : decode cL_fragile 32 = .ok (.aload_n 0, 1) := by decide +kernel
theorem dL_fragile_33 : decode cL_fragile 33 = .ok (.bipush 7, 2) := by decide +kernel
theorem dL_fragile_35 : decode cL_fragile 35 = .ok (.invokevirtual 21, 3) := by decide +kernel
theorem dL_fragile_38 : decode cL_fragile 38 = .ok (.isub, 1) := by decide +kernel
theorem dL_fragile_39 : decode cL_fragile 39 = .ok (.iload_n 2, 1) := by decide +kernel
theorem dL_fragile_40 : decode cL_fragile 40 = .ok (.imul, 1) := by decide +kernel
theorem dL_fragile_41 : decode cL_fragile 41 = .ok (.if_icmp .gt 18, 3) := by decide +kernel
theorem dL_fragile_44 : decode cL_fragile 44 = .ok (.iload 4, 2) := by decide +kernel
theorem dL_fragile_46 : decode cL_fragile 46 = .ok (.ifCond .lt 13, 3) := by decide +kernel
theorem dL_fragile_49 : decode cL_fragile 49 = .ok (.iload 4, 2) := by decide +kernel
theorem dL_fragile_51 : decode cL_fragile 51 = .ok (.iload_n 1, 1) := by decide +kernel
theorem dL_fragile_52 : decode cL_fragile 52 = .ok (.if_icmp .gt 7, 3) := by decide +kernel
theorem dL_fragile_55 : decode cL_fragile 55 = .ok (.iconst 1, 1) := by decide +kernel
theorem dL_fragile_56 : decode cL_fragile 56 = .ok (.goto 4, 3) := by decide +kernel
theorem dL_fragile_59 : decode cL_fragile 59 = .ok (.iconst 0, 1) := by decide +kernel
theorem dL_fragile_60 : decode cL_fragile 60 = .ok (.istore 6, 2) := by decide +kernel
theorem dL_fragile_62 : decode cL_fragile 62 = .ok (.iconst 0, 1) := by decide +kernel
theorem dL_fragile_63 : decode cL_fragile 63 = .ok (.istore 7, 2) := by decide +kernel
theorem dL_fragile_65 : decode cL_fragile 65 = .ok (.iload 7, 2) := by decide +kernel
theorem dL_fragile_67 : decode cL_fragile 67 = .ok (.iload_n 1, 1) := by decide +kernel
theorem dL_fragile_68 : decode cL_fragile 68 = .ok (.if_icmp .ge 103, 3) := by decide +kernel
theorem dL_fragile_71 : decode cL_fragile 71 = .ok (.iload 6, 2) := by decide +kernel
theorem dL_fragile_73 : decode cL_fragile 73 = .ok (.ifCond .eq 98, 3) := by decide +kernel
theorem dL_fragile_76 : decode cL_fragile 76 = .ok (.iconst 0, 1) := by decide +kernel
theorem dL_fragile_77 : decode cL_fragile 77 = .ok (.istore 8, 2) := by decide +kernel
theorem dL_fragile_79 : decode cL_fragile 79 = .ok (.iload 8, 2) := by decide +kernel
theorem dL_fragile_81 : decode cL_fragile 81 = .ok (.iload_n 2, 1) := by decide +kernel
theorem dL_fragile_82 : decode cL_fragile 82 = .ok (.if_icmp .ge 83, 3) := by decide +kernel
theorem dL_fragile_85 : decode cL_fragile 85 = .ok (.aload_n 0, 1) := by decide +kernel
theorem dL_fragile_86 : decode cL_fragile 86 = .ok (.iload 7, 2) := by decide +kernel
theorem dL_fragile_88 : decode cL_fragile 88 = .ok (.invokevirtual 52, 3) := by decide +kernel
theorem dL_fragile_91 : decode cL_fragile 91 = .ok (.ifCond .lt 74, 3) := by decide +kernel
theorem dL_fragile_94 : decode cL_fragile 94 = .ok (.iload 6, 2) := by decide +kernel
theorem dL_fragile_96 : decode cL_fragile 96 = .ok (.ifCond .eq 20, 3) := by decide +kernel
theorem dL_fragile_99 : decode cL_fragile 99 = .ok (.aload_n 0, 1) := by decide +kernel
theorem dL_fragile_100 : decode cL_fragile 100 = .ok (.iload 7, 2) := by decide +kernel
theorem dL_fragile_102 : decode cL_fragile 102 = .ok (.iconst 1, 1) := by decide +kernel
theorem dL_fragile_103 : decode cL_fragile 103 = .ok (.iload 8, 2) := by decide +kernel
theorem dL_fragile_105 : decode cL_fragile 105 = .ok (.ishl, 1) := by decide +kernel
theorem dL_fragile_106 : decode cL_fragile 106 = .ok (.invokevirtual 55, 3) := by decide +kernel
theorem dL_fragile_109 : decode cL_fragile 109 = .ok (.ifCond .lt 7, 3) := by decide +kernel
theorem dL_fragile_112 : decode cL_fragile 112 = .ok (.iconst 1, 1) := by decide +kernel
theorem dL_fragile_113 : decode cL_fragile 113 = .ok (.goto 4, 3) := by decide +kernel
theorem dL_fragile_116 : decode cL_fragile 116 = .ok (.iconst 0, 1) := by decide +kernel
theorem dL_fragile_117 : decode cL_fragile 117 = .ok (.istore 6, 2) := by decide +kernel
theorem dL_fragile_119 : decode cL_fragile 119 = .ok (.iload 5, 2) := by decide +kernel
theorem dL_fragile_121 : decode cL_fragile 121 = .ok (.aload_n 0, 1) := by decide +kernel
theorem dL_fragile_122 : decode cL_fragile 122 = .ok (.invokevirtual 9, 3) := by decide +kernel
theorem dL_fragile_125 : decode cL_fragile 125 = .ok (.aload_n 0, 1) := by decide +kernel
theorem dL_fragile_126 : decode cL_fragile 126 = .ok (.invokevirtual 37, 3) := by decide +kernel
theorem dL_fragile_129 : decode cL_fragile 129 = .ok (.if_icmp .ne 7, 3) := by decide +kernel
theorem dL_fragile_132 : decode cL_fragile 132 = .ok (.iconst 0, 1) := by decide +kernel
theorem dL_fragile_133 : decode cL_fragile 133 = .ok (.goto 4, 3) := by decide +kernel
theorem dL_fragile_136 : decode cL_fragile 136 = .ok (.iconst 1, 1) := by decide +kernel
theorem dL_fragile_137 : decode cL_fragile 137 = .ok (.iadd, 1) := by decide +kernel
theorem dL_fragile_138 : decode cL_fragile 138 = .ok (.istore 5, 2) := by decide +kernel
theorem dL_fragile_140 : decode cL_fragile 140 = .ok (.iload 6, 2) := by decide +kernel
theorem dL_fragile_142 : decode cL_fragile 142 = .ok (.ifCond .eq 14, 3) := by decide +kernel
theorem dL_fragile_145 : decode cL_fragile 145 = .ok (.aload_n 0, 1) := by decide +kernel
theorem dL_fragile_146 : decode cL_fragile 146 = .ok (.invokevirtual 59, 3) := by decide +kernel
theorem dL_fragile_149 : decode cL_fragile 149 = .ok (.ifCond .lt 7, 3) := by decide +kernel
theorem dL_fragile_152 : decode cL_fragile 152 = .ok (.iconst 1, 1) := by decide +kernel
theorem dL_fragile_153 : decode cL_fragile 153 = .ok (.goto 4, 3) := by decide +kernel
theorem dL_fragile_156 : decode cL_fragile 156 = .ok (.iconst 0, 1) := by decide +kernel
theorem dL_fragile_157 : decode cL_fragile 157 = .ok (.istore 6, 2) := by decide +kernel
theorem dL_fragile_159 : decode cL_fragile 159 = .ok (.iinc 8 1, 3) := by decide +kernel
theorem dL_fragile_162 : decode cL_fragile 162 = .ok (.goto (-83), 3) := by decide +kernel
theorem dL_fragile_165 : decode cL_fragile 165 = .ok (.iinc 7 1, 3) := by decide +kernel
theorem dL_fragile_168 : decode cL_fragile 168 = .ok (.goto (-103), 3) := by decide +kernel
theorem dL_fragile_171 : decode cL_fragile 171 = .ok (.iload 6, 2) := by decide +kernel
theorem dL_fragile_173 : decode cL_fragile 173 = .ok (.ifCond .eq 13, 3) := by decide +kernel
theorem dL_fragile_176 : decode cL_fragile 176 = .ok (.iload 5, 2) := by decide +kernel
theorem dL_fragile_178 : decode cL_fragile 178 = .ok (.iload_n 3, 1) := by decide +kernel
theorem dL_fragile_179 : decode cL_fragile 179 = .ok (.if_icmp .ne 7, 3) := by decide +kernel
theorem dL_fragile_182 : decode cL_fragile 182 = .ok (.iconst 1, 1) := by decide +kernel
theorem dL_fragile_183 : decode cL_fragile 183 = .ok (.goto 4, 3) := by decide +kernel
theorem dL_fragile_186 : decode cL_fragile 186 = .ok (.iconst 0, 1) := by decide +kernel
theorem dL_fragile_187 : decode cL_fragile 187 = .ok (.istore 6, 2) := by decide +kernel
theorem dL_fragile_189 : decode cL_fragile 189 = .ok (.iconst 0, 1) := by decide +kernel
theorem dL_fragile_190 : decode cL_fragile 190 = .ok (.istore 5, 2) := by decide +kernel
theorem dL_fragile_192 : decode cL_fragile 192 = .ok (.iconst 0, 1) := by decide +kernel
theorem dL_fragile_193 : decode cL_fragile 193 = .ok (.istore 7, 2) := by decide +kernel
theorem dL_fragile_195 : decode cL_fragile 195 = .ok (.iload 7, 2) := by decide +kernel
theorem dL_fragile_197 : decode cL_fragile 197 = .ok (.iload_n 1, 1) := by decide +kernel
theorem dL_fragile_198 : decode cL_fragile 198 = .ok (.if_icmp .ge 71, 3) := by decide +kernel
theorem dL_fragile_201 : decode cL_fragile 201 = .ok (.iload 6, 2) := by decide +kernel
theorem dL_fragile_203 : decode cL_fragile 203 = .ok (.ifCond .eq 66, 3) := by decide +kernel
theorem dL_fragile_206 : decode cL_fragile 206 = .ok (.aload_n 0, 1) := by decide +kernel
theorem dL_fragile_207 : decode cL_fragile 207 = .ok (.iload 7, 2) := by decide +kernel
theorem dL_fragile_209 : decode cL_fragile 209 = .ok (.iconst 1, 1) := by decide +kernel
theorem dL_fragile_210 : decode cL_fragile 210 = .ok (.invokevirtual 62, 3) := by decide +kernel
theorem dL_fragile_213 : decode cL_fragile 213 = .ok (.ifCond .lt 7, 3) := by decide +kernel
theorem dL_fragile_216 : decode cL_fragile 216 = .ok (.iconst 1, 1) := by decide +kernel
theorem dL_fragile_217 : decode cL_fragile 217 = .ok (.goto 4, 3) := by decide +kernel
theorem dL_fragile_220 : decode cL_fragile 220 = .ok (.iconst 0, 1) := by decide +kernel
theorem dL_fragile_221 : decode cL_fragile 221 = .ok (.istore 6, 2) := by decide +kernel
theorem dL_fragile_223 : decode cL_fragile 223 = .ok (.iload 5, 2) := by decide +kernel
theorem dL_fragile_225 : decode cL_fragile 225 = .ok (.aload_n 0, 1) := by decide +kernel
theorem dL_fragile_226 : decode cL_fragile 226 = .ok (.invokevirtual 9, 3) := by decide +kernel
theorem dL_fragile_229 : decode cL_fragile 229 = .ok (.aload_n 0, 1) := by decide +kernel
theorem dL_fragile_230 : decode cL_fragile 230 = .ok (.invokevirtual 37, 3) := by decide +kernel
theorem dL_fragile_233 : decode cL_fragile 233 = .ok (.if_icmp .ne 7, 3) := by decide +kernel
theorem dL_fragile_236 : decode cL_fragile 236 = .ok (.iconst 0, 1) := by decide +kernel
theorem dL_fragile_237 : decode cL_fragile 237 = .ok (.goto 4, 3) := by decide +kernel
theorem dL_fragile_240 : decode cL_fragile 240 = .ok (.iconst 1, 1) := by decide +kernel
theorem dL_fragile_241 : decode cL_fragile 241 = .ok (.iadd, 1) := by decide +kernel
theorem dL_fragile_242 : decode cL_fragile 242 = .ok (.istore 5, 2) := by decide +kernel
theorem dL_fragile_244 : decode cL_fragile 244 = .ok (.iload 6, 2) := by decide +kernel
theorem dL_fragile_246 : decode cL_fragile 246 = .ok (.ifCond .eq 14, 3) := by decide +kernel
theorem dL_fragile_249 : decode cL_fragile 249 = .ok (.aload_n 0, 1) := by decide +kernel
theorem dL_fragile_250 : decode cL_fragile 250 = .ok (.invokevirtual 59, 3) := by decide +kernel
theorem dL_fragile_253 : decode cL_fragile 253 = .ok (.ifCond .lt 7, 3) := by decide +kernel
theorem dL_fragile_256 : decode cL_fragile 256 = .ok (.iconst 1, 1) := by decide +kernel
theorem dL_fragile_257 : decode cL_fragile 257 = .ok (.goto 4, 3) := by decide +kernel
theorem dL_fragile_260 : decode cL_fragile 260 = .ok (.iconst 0, 1) := by decide +kernel
theorem dL_fragile_261 : decode cL_fragile 261 = .ok (.istore 6, 2) := by decide +kernel
theorem dL_fragile_263 : decode cL_fragile 263 = .ok (.iinc 7 1, 3) := by decide +kernel
theorem dL_fragile_266 : decode cL_fragile 266 = .ok (.goto (-71), 3) := by decide +kernel
theorem dL_fragile_269 : decode cL_fragile 269 = .ok (.iload 6, 2) := by decide +kernel
theorem dL_fragile_271 : decode cL_fragile 271 = .ok (.ifCond .eq 14, 3) := by decide +kernel
theorem dL_fragile_274 : decode cL_fragile 274 = .ok (.iload 5, 2) := by decide +kernel
theorem dL_fragile_276 : decode cL_fragile 276 = .ok (.iload 4, 2) := by decide +kernel
theorem dL_fragile_278 : decode cL_fragile 278 = .ok (.if_icmp .ne 7, 3) := by decide +kernel
theorem dL_fragile_281 : decode cL_fragile 281 = .ok (.iconst 1, 1) := by decide +kernel
theorem dL_fragile_282 : decode cL_fragile 282 = .ok (.goto 4, 3) := by decide +kernel
theorem dL_fragile_285 : decode cL_fragile 285 = .ok (.iconst 0, 1) := by decide +kernel
theorem dL_fragile_286 : decode cL_fragile 286 = .ok (.ireturn, 1) := by decide +kernel
theorem dL_cascades_0 : decode cL_cascades 0 = .ok (.aload_n 0, 1) := by decide +kernel
theorem dL_cascades_1 : decode cL_cascades 1 = .ok (.invokevirtual 9, 3) := by decide +kernel
theorem dL_cascades_4 : decode cL_cascades 4 = .ok (.istore_n 1, 1) := by decide +kernel
theorem dL_cascades_5 : decode cL_cascades 5 = .ok (.aload_n 0, 1) := by decide +kernel
theorem dL_cascades_6 : decode cL_cascades 6 = .ok (.invokevirtual 37, 3) := by decide +kernel
theorem dL_cascades_9 : decode cL_cascades 9 = .ok (.istore_n 2, 1) := by decide +kernel
theorem dL_cascades_10 : decode cL_cascades 10 = .ok (.aload_n 0, 1) := by decide +kernel
theorem dL_cascades_11 : decode cL_cascades 11 = .ok (.invokevirtual 65, 3) := by decide +kernel
theorem dL_cascades_14 : decode cL_cascades 14 = .ok (.istore_n 3, 1) := by decide +kernel
theorem dL_cascades_15 : decode cL_cascades 15 = .ok (.iload_n 1, 1) := by decide +kernel
theorem dL_cascades_16 : decode cL_cascades 16 = .ok (.ifCond .ge 24, 3) := by decide +kernel
theorem dL_cascades_19 : decode cL_cascades 19 = .ok (.iload_n 3, 1) := by decide +kernel
theorem dL_cascades_20 : decode cL_cascades 20 = .ok (.sipush (-1002), 3) := by decide +kernel
theorem dL_cascades_23 : decode cL_cascades 23 = .ok (.if_icmp .ne 15, 3) := by decide +kernel
theorem dL_cascades_26 : decode cL_cascades 26 = .ok (.aload_n 0, 1) := by decide +kernel
theorem dL_cascades_27 : decode cL_cascades 27 = .ok (.invokevirtual 37, 3) := by decide +kernel
theorem dL_cascades_30 : decode cL_cascades 30 = .ok (.iload_n 2, 1) := by decide +kernel
theorem dL_cascades_31 : decode cL_cascades 31 = .ok (.if_icmp .ne 7, 3) := by decide +kernel
theorem dL_cascades_34 : decode cL_cascades 34 = .ok (.iconst 1, 1) := by decide +kernel
theorem dL_cascades_35 : decode cL_cascades 35 = .ok (.goto 4, 3) := by decide +kernel
