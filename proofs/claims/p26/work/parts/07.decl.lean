theorem dL_cell_0 : decode cL_cell 0 = .ok (.iload_n 1, 1) := by decide +kernel
theorem dL_cell_1 : decode cL_cell 1 = .ok (.aload_n 0, 1) := by decide +kernel
theorem dL_cell_2 : decode cL_cell 2 = .ok (.arraylength, 1) := by decide +kernel
theorem dL_cell_3 : decode cL_cell 3 = .ok (.if_icmp .ge 9, 3) := by decide +kernel
theorem dL_cell_6 : decode cL_cell 6 = .ok (.aload_n 0, 1) := by decide +kernel
theorem dL_cell_7 : decode cL_cell 7 = .ok (.iload_n 1, 1) := by decide +kernel
theorem dL_cell_8 : decode cL_cell 8 = .ok (.iaload, 1) := by decide +kernel
theorem dL_cell_9 : decode cL_cell 9 = .ok (.goto 15, 3) := by decide +kernel
theorem dL_cell_12 : decode cL_cell 12 = .ok (.sipush 7919, 3) := by decide +kernel
theorem dL_cell_15 : decode cL_cell 15 = .ok (.iload_n 1, 1) := by decide +kernel
theorem dL_cell_16 : decode cL_cell 16 = .ok (.iconst 3, 1) := by decide +kernel
theorem dL_cell_17 : decode cL_cell 17 = .ok (.iadd, 1) := by decide +kernel
theorem dL_cell_18 : decode cL_cell 18 = .ok (.imul, 1) := by decide +kernel
theorem dL_cell_19 : decode cL_cell 19 = .ok (.iload_n 1, 1) := by decide +kernel
theorem dL_cell_20 : decode cL_cell 20 = .ok (.bipush 11, 2) := by decide +kernel
theorem dL_cell_22 : decode cL_cell 22 = .ok (.iadd, 1) := by decide +kernel
theorem dL_cell_23 : decode cL_cell 23 = .ok (.imul, 1) := by decide +kernel
theorem dL_cell_24 : decode cL_cell 24 = .ok (.ireturn, 1) := by decide +kernel
theorem dL_low_0 : decode cL_low 0 = .ok (.iload_n 0, 1) := by decide +kernel
theorem dL_low_1 : decode cL_low 1 = .ok (.ldc 7, 2) := by decide +kernel
theorem dL_low_3 : decode cL_low 3 = .ok (.iand, 1) := by decide +kernel
theorem dL_low_4 : decode cL_low 4 = .ok (.iload_n 1, 1) := by decide +kernel
theorem dL_low_5 : decode cL_low 5 = .ok (.irem, 1) := by decide +kernel
theorem dL_low_6 : decode cL_low 6 = .ok (.ireturn, 1) := by decide +kernel
theorem dL_told_0 : decode cL_told 0 = .ok (.ldc2_w 8, 3) := by decide +kernel
theorem dL_told_3 : decode cL_told 3 = .ok (.lstore_n 1, 1) := by decide +kernel
theorem dL_told_4 : decode cL_told 4 = .ok (.iconst 0, 1) := by decide +kernel
theorem dL_told_5 : decode cL_told 5 = .ok (.istore_n 3, 1) := by decide +kernel
theorem dL_told_6 : decode cL_told 6 = .ok (.iload_n 3, 1) := by decide +kernel
theorem dL_told_7 : decode cL_told 7 = .ok (.bipush 10, 2) := by decide +kernel
theorem dL_told_9 : decode cL_told 9 = .ok (.if_icmp .ge 22, 3) := by decide +kernel
theorem dL_told_12 : decode cL_told 12 = .ok (.ldc2_w 10, 3) := by decide +kernel
theorem dL_told_15 : decode cL_told 15 = .ok (.lload_n 1, 1) := by decide +kernel
theorem dL_told_16 : decode cL_told 16 = .ok (.lmul, 1) := by decide +kernel
theorem dL_told_17 : decode cL_told 17 = .ok (.aload_n 0, 1) := by decide +kernel
theorem dL_told_18 : decode cL_told 18 = .ok (.iload_n 3, 1) := by decide +kernel
theorem dL_told_19 : decode cL_told 19 = .ok (.invokevirtual 12, 3) := by decide +kernel
theorem dL_told_22 : decode cL_told 22 = .ok (.i2l, 1) := by decide +kernel
theorem dL_told_23 : decode cL_told 23 = .ok (.ladd, 1) := by decide +kernel
theorem dL_told_24 : decode cL_told 24 = .ok (.lstore_n 1, 1) := by decide +kernel
theorem dL_told_25 : decode cL_told 25 = .ok (.iinc 3 1, 3) := by decide +kernel
theorem dL_told_28 : decode cL_told 28 = .ok (.goto (-22), 3) := by decide +kernel
theorem dL_told_31 : decode cL_told 31 = .ok (.iconst 0, 1) := by decide +kernel
theorem dL_told_32 : decode cL_told 32 = .ok (.istore_n 3, 1) := by decide +kernel
theorem dL_told_33 : decode cL_told 33 = .ok (.iload_n 3, 1) := by decide +kernel
theorem dL_told_34 : decode cL_told 34 = .ok (.aload_n 0, 1) := by decide +kernel
theorem dL_told_35 : decode cL_told 35 = .ok (.iconst 1, 1) := by decide +kernel
theorem dL_told_36 : decode cL_told 36 = .ok (.invokevirtual 12, 3) := by decide +kernel
theorem dL_told_39 : decode cL_told 39 = .ok (.if_icmp .ge 58, 3) := by decide +kernel
theorem dL_told_42 : decode cL_told 42 = .ok (.aload_n 0, 1) := by decide +kernel
theorem dL_told_43 : decode cL_told 43 = .ok (.iload_n 3, 1) := by decide +kernel
theorem dL_told_44 : decode cL_told 44 = .ok (.invokevirtual 18, 3) := by decide +kernel
theorem dL_told_47 : decode cL_told 47 = .ok (.istore 4, 2) := by decide +kernel
theorem dL_told_49 : decode cL_told 49 = .ok (.ldc2_w 10, 3) := by decide +kernel
theorem dL_told_52 : decode cL_told 52 = .ok (.lload_n 1, 1) := by decide +kernel
theorem dL_told_53 : decode cL_told 53 = .ok (.lmul, 1) := by decide +kernel
theorem dL_told_54 : decode cL_told 54 = .ok (.iload 4, 2) := by decide +kernel
theorem dL_told_56 : decode cL_told 56 = .ok (.i2l, 1) := by decide +kernel
theorem dL_told_57 : decode cL_told 57 = .ok (.ladd, 1) := by decide +kernel
theorem dL_told_58 : decode cL_told 58 = .ok (.lstore_n 1, 1) := by decide +kernel
theorem dL_told_59 : decode cL_told 59 = .ok (.iconst 0, 1) := by decide +kernel
theorem dL_told_60 : decode cL_told 60 = .ok (.istore 5, 2) := by decide +kernel
theorem dL_told_62 : decode cL_told 62 = .ok (.iload 5, 2) := by decide +kernel
theorem dL_told_64 : decode cL_told 64 = .ok (.bipush 12, 2) := by decide +kernel
theorem dL_told_66 : decode cL_told 66 = .ok (.if_icmp .ge 25, 3) := by decide +kernel
theorem dL_told_69 : decode cL_told 69 = .ok (.ldc2_w 10, 3) := by decide +kernel
theorem dL_told_72 : decode cL_told 72 = .ok (.lload_n 1, 1) := by decide +kernel
theorem dL_told_73 : decode cL_told 73 = .ok (.lmul, 1) := by decide +kernel
theorem dL_told_74 : decode cL_told 74 = .ok (.aload_n 0, 1) := by decide +kernel
theorem dL_told_75 : decode cL_told 75 = .ok (.iload 4, 2) := by decide +kernel
theorem dL_told_77 : decode cL_told 77 = .ok (.iload 5, 2) := by decide +kernel
theorem dL_told_79 : decode cL_told 79 = .ok (.invokevirtual 21, 3) := by decide +kernel
theorem dL_told_82 : decode cL_told 82 = .ok (.i2l, 1) := by decide +kernel
theorem dL_told_83 : decode cL_told 83 = .ok (.ladd, 1) := by decide +kernel
theorem dL_told_84 : decode cL_told 84 = .ok (.lstore_n 1, 1) := by decide +kernel
theorem dL_told_85 : decode cL_told 85 = .ok (.iinc 5 1, 3) := by decide +kernel
theorem dL_told_88 : decode cL_told 88 = .ok (.goto (-26), 3) := by decide +kernel
theorem dL_told_91 : decode cL_told 91 = .ok (.iinc 3 1, 3) := by decide +kernel
theorem dL_told_94 : decode cL_told 94 = .ok (.goto (-61), 3) := by decide +kernel
theorem dL_told_97 : decode cL_told 97 = .ok (.iconst 0, 1) := by decide +kernel
theorem dL_told_98 : decode cL_told 98 = .ok (.istore_n 3, 1) := by decide +kernel
theorem dL_told_99 : decode cL_told 99 = .ok (.iload_n 3, 1) := by decide +kernel
theorem dL_told_100 : decode cL_told 100 = .ok (.aload_n 0, 1) := by decide +kernel
theorem dL_told_101 : decode cL_told 101 = .ok (.iconst 2, 1) := by decide +kernel
theorem dL_told_102 : decode cL_told 102 = .ok (.invokevirtual 12, 3) := by decide +kernel
theorem dL_told_105 : decode cL_told 105 = .ok (.if_icmp .ge 39, 3) := by decide +kernel
theorem dL_told_108 : decode cL_told 108 = .ok (.iconst 0, 1) := by decide +kernel
theorem dL_told_109 : decode cL_told 109 = .ok (.istore 4, 2) := by decide +kernel
theorem dL_told_111 : decode cL_told 111 = .ok (.iload 4, 2) := by decide +kernel
theorem dL_told_113 : decode cL_told 113 = .ok (.iconst 3, 1) := by decide +kernel
theorem dL_told_114 : decode cL_told 114 = .ok (.if_icmp .ge 24, 3) := by decide +kernel
theorem dL_told_117 : decode cL_told 117 = .ok (.ldc2_w 10, 3) := by decide +kernel
theorem dL_told_120 : decode cL_told 120 = .ok (.lload_n 1, 1) := by decide +kernel
theorem dL_told_121 : decode cL_told 121 = .ok (.lmul, 1) := by decide +kernel
theorem dL_told_122 : decode cL_told 122 = .ok (.aload_n 0, 1) := by decide +kernel
theorem dL_told_123 : decode cL_told 123 = .ok (.iload_n 3, 1) := by decide +kernel
theorem dL_told_124 : decode cL_told 124 = .ok (.iload 4, 2) := by decide +kernel
theorem dL_told_126 : decode cL_told 126 = .ok (.invokevirtual 25, 3) := by decide +kernel
theorem dL_told_129 : decode cL_told 129 = .ok (.i2l, 1) := by decide +kernel
theorem dL_told_130 : decode cL_told 130 = .ok (.ladd, 1) := by decide +kernel
theorem dL_told_131 : decode cL_told 131 = .ok (.lstore_n 1, 1) := by decide +kernel
theorem dL_told_132 : decode cL_told 132 = .ok (.iinc 4 1, 3) := by decide +kernel
theorem dL_told_135 : decode cL_told 135 = .ok (.goto (-24), 3) := by decide +kernel
theorem dL_told_138 : decode cL_told 138 = .ok (.iinc 3 1, 3) := by decide +kernel
theorem dL_told_141 : decode cL_told 141 = .ok (.goto (-42), 3) := by decide +kernel
theorem dL_told_144 : decode cL_told 144 = .ok (.iconst 0, 1) := by decide +kernel
theorem dL_told_145 : decode cL_told 145 = .ok (.istore_n 3, 1) := by decide +kernel
theorem dL_told_146 : decode cL_told 146 = .ok (.iload_n 3, 1) := by decide +kernel
theorem dL_told_147 : decode cL_told 147 = .ok (.bipush 8, 2) := by decide +kernel
theorem dL_told_149 : decode cL_told 149 = .ok (.if_icmp .ge 23, 3) := by decide +kernel
theorem dL_told_152 : decode cL_told 152 = .ok (.ldc2_w 10, 3) := by decide +kernel
theorem dL_told_155 : decode cL_told 155 = .ok (.lload_n 1, 1) := by decide +kernel
theorem dL_told_156 : decode cL_told 156 = .ok (.lmul, 1) := by decide +kernel
theorem dL_told_157 : decode cL_told 157 = .ok (.aload_n 0, 1) := by decide +kernel
theorem dL_told_158 : decode cL_told 158 = .ok (.iload_n 3, 1) := by decide +kernel
theorem dL_told_159 : decode cL_told 159 = .ok (.iconst 0, 1) := by decide +kernel
theorem dL_told_160 : decode cL_told 160 = .ok (.invokevirtual 28, 3) := by decide +kernel
theorem dL_told_163 : decode cL_told 163 = .ok (.i2l, 1) := by decide +kernel
theorem dL_told_164 : decode cL_told 164 = .ok (.ladd, 1) := by decide +kernel
theorem dL_told_165 : decode cL_told 165 = .ok (.lstore_n 1, 1) := by decide +kernel
theorem dL_told_166 : decode cL_told 166 = .ok (.iinc 3 1, 3) := by decide +kernel
theorem dL_told_169 : decode cL_told 169 = .ok (.goto (-23), 3) := by decide +kernel
theorem dL_told_172 : decode cL_told 172 = .ok (.lload_n 1, 1) := by decide +kernel
theorem dL_told_173 : decode cL_told 173 = .ok (.lreturn, 1) := by decide +kernel
theorem dL_act_0 : decode cL_act 0 = .ok (.iload_n 1, 1) := by decide +kernel
theorem dL_act_1 : decode cL_act 1 = .ok (.iconst 4, 1) := by decide +kernel
theorem dL_act_2 : decode cL_act 2 = .ok (.ishr, 1) := by decide +kernel
theorem dL_act_3 : decode cL_act 3 = .ok (.iload_n 1, 1) := by decide +kernel
theorem dL_act_4 : decode cL_act 4 = .ok (.bipush 20, 2) := by decide +kernel
theorem dL_act_6 : decode cL_act 6 = .ok (.ishr, 1) := by decide +kernel
theorem dL_act_7 : decode cL_act 7 = .ok (.bipush 7, 2) := by decide +kernel
theorem dL_act_9 : decode cL_act 9 = .ok (.iand, 1) := by decide +kernel
theorem dL_act_10 : decode cL_act 10 = .ok (.ifCond .ne 8, 3) := by decide +kernel
theorem dL_act_13 : decode cL_act 13 = .ok (.bipush 101, 2) := by decide +kernel
theorem dL_act_15 : decode cL_act 15 = .ok (.goto 5, 3) := by decide +kernel
theorem dL_act_18 : decode cL_act 18 = .ok (.bipush 9, 2) := by decide +kernel
theorem dL_act_20 : decode cL_act 20 = .ok (.invokestatic 31, 3) := by decide +kernel
theorem dL_act_23 : decode cL_act 23 = .ok (.istore_n 3, 1) := by decide +kernel
theorem dL_act_24 : decode cL_act 24 = .ok (.iload_n 2, 1) := by decide +kernel
theorem dL_act_25 : decode cL_act 25 = .ok (.iconst 3, 1) := by decide +kernel
theorem dL_act_26 : decode cL_act 26 = .ok (.iand, 1) := by decide +kernel
theorem dL_act_27 : decode cL_act 27 = .ok (.ifCond .le 25, 3) := by decide +kernel
theorem dL_act_30 : decode cL_act 30 = .ok (.iload_n 2, 1) := by decide +kernel
theorem dL_act_31 : decode cL_act 31 = .ok (.iconst 2, 1) := by decide +kernel
theorem dL_act_32 : decode cL_act 32 = .ok (.ishr, 1) := by decide +kernel
theorem dL_act_33 : decode cL_act 33 = .ok (.bipush 29, 2) := by decide +kernel
theorem dL_act_35 : decode cL_act 35 = .ok (.invokestatic 31, 3) := by decide +kernel
theorem dL_act_38 : decode cL_act 38 = .ok (.sipush 128, 3) := by decide +kernel
theorem dL_act_41 : decode cL_act 41 = .ok (.iload_n 2, 1) := by decide +kernel
theorem dL_act_42 : decode cL_act 42 = .ok (.bipush 8, 2) := by decide +kernel
theorem dL_act_44 : decode cL_act 44 = .ok (.ishr, 1) := by decide +kernel
theorem dL_act_45 : decode cL_act 45 = .ok (.iconst 1, 1) := by decide +kernel
theorem dL_act_46 : decode cL_act 46 = .ok (.iand, 1) := by decide +kernel
theorem dL_act_47 : decode cL_act 47 = .ok (.imul, 1) := by decide +kernel
theorem dL_act_48 : decode cL_act 48 = .ok (.iadd, 1) := by decide +kernel
theorem dL_act_49 : decode cL_act 49 = .ok (.goto 12, 3) := by decide +kernel
theorem dL_act_52 : decode cL_act 52 = .ok (.iload_n 2, 1) := by decide +kernel
theorem dL_act_53 : decode cL_act 53 = .ok (.iconst 2, 1) := by decide +kernel
theorem dL_act_54 : decode cL_act 54 = .ok (.ishr, 1) := by decide +kernel
theorem dL_act_55 : decode cL_act 55 = .ok (.sipush 258, 3) := by decide +kernel
theorem dL_act_58 : decode cL_act 58 = .ok (.invokestatic 31, 3) := by decide +kernel
theorem dL_act_61 : decode cL_act 61 = .ok (.istore 4, 2) := by decide +kernel
theorem dL_act_63 : decode cL_act 63 = .ok (.iload_n 1, 1) := by decide +kernel
theorem dL_act_64 : decode cL_act 64 = .ok (.bipush 15, 2) := by decide +kernel
theorem dL_act_66 : decode cL_act 66 = .ok (.iand, 1) := by decide +kernel
theorem dL_act_67 : decode cL_act 67 = .ok (.tableswitch 193 0 10 #[57, 57, 57, 86, 113, 113, 113, 129, 129, 166, 185], 57) := by decide +kernel
theorem dL_act_124 : decode cL_act 124 = .ok (.aload_n 0, 1) := by decide +kernel
theorem dL_act_125 : decode cL_act 125 = .ok (.iload_n 3, 1) := by decide +kernel
theorem dL_act_126 : decode cL_act 126 = .ok (.iload_n 2, 1) := by decide +kernel
theorem dL_act_127 : decode cL_act 127 = .ok (.bipush 21, 2) := by decide +kernel
theorem dL_act_129 : decode cL_act 129 = .ok (.invokestatic 31, 3) := by decide +kernel
theorem dL_act_132 : decode cL_act 132 = .ok (.iload_n 2, 1) := by decide +kernel
theorem dL_act_133 : decode cL_act 133 = .ok (.iconst 5, 1) := by decide +kernel
theorem dL_act_134 : decode cL_act 134 = .ok (.ishr, 1) := by decide +kernel
theorem dL_act_135 : decode cL_act 135 = .ok (.iconst 4, 1) := by decide +kernel
theorem dL_act_136 : decode cL_act 136 = .ok (.invokestatic 31, 3) := by decide +kernel
theorem dL_act_139 : decode cL_act 139 = .ok (.iload_n 2, 1) := by decide +kernel
theorem dL_act_140 : decode cL_act 140 = .ok (.bipush 7, 2) := by decide +kernel
theorem dL_act_142 : decode cL_act 142 = .ok (.ishr, 1) := by decide +kernel
theorem dL_act_143 : decode cL_act 143 = .ok (.sipush 801, 3) := by decide +kernel
theorem dL_act_146 : decode cL_act 146 = .ok (.invokestatic 31, 3) := by decide +kernel
theorem dL_act_149 : decode cL_act 149 = .ok (.invokevirtual 36, 3) := by decide +kernel
theorem dL_act_152 : decode cL_act 152 = .ok (.ireturn, 1) := by decide +kernel
theorem dL_act_153 : decode cL_act 153 = .ok (.iload_n 2, 1) := by decide +kernel
theorem dL_act_154 : decode cL_act 154 = .ok (.iconst 3, 1) := by decide +kernel
theorem dL_act_155 : decode cL_act 155 = .ok (.iand, 1) := by decide +kernel
theorem dL_act_156 : decode cL_act 156 = .ok (.ifCond .ne 11, 3) := by decide +kernel
theorem dL_act_159 : decode cL_act 159 = .ok (.aload_n 0, 1) := by decide +kernel
theorem dL_act_160 : decode cL_act 160 = .ok (.iload_n 3, 1) := by decide +kernel
theorem dL_act_161 : decode cL_act 161 = .ok (.invokevirtual 40, 3) := by decide +kernel
theorem dL_act_164 : decode cL_act 164 = .ok (.goto 15, 3) := by decide +kernel
theorem dL_act_167 : decode cL_act 167 = .ok (.aload_n 0, 1) := by decide +kernel
theorem dL_act_168 : decode cL_act 168 = .ok (.iload_n 2, 1) := by decide +kernel
theorem dL_act_169 : decode cL_act 169 = .ok (.iconst 2, 1) := by decide +kernel
theorem dL_act_170 : decode cL_act 170 = .ok (.ishr, 1) := by decide +kernel
theorem dL_act_171 : decode cL_act 171 = .ok (.bipush 11, 2) := by decide +kernel
theorem dL_act_173 : decode cL_act 173 = .ok (.invokestatic 31, 3) := by decide +kernel
theorem dL_act_176 : decode cL_act 176 = .ok (.invokevirtual 43, 3) := by decide +kernel
theorem dL_act_179 : decode cL_act 179 = .ok (.ireturn, 1) := by decide +kernel
theorem dL_act_180 : decode cL_act 180 = .ok (.aload_n 0, 1) := by decide +kernel
theorem dL_act_181 : decode cL_act 181 = .ok (.iload_n 3, 1) := by decide +kernel
theorem dL_act_182 : decode cL_act 182 = .ok (.iload 4, 2) := by decide +kernel
theorem dL_act_184 : decode cL_act 184 = .ok (.iload_n 2, 1) := by decide +kernel
theorem dL_act_185 : decode cL_act 185 = .ok (.bipush 20, 2) := by decide +kernel
theorem dL_act_187 : decode cL_act 187 = .ok (.ishr, 1) := by decide +kernel
theorem dL_act_188 : decode cL_act 188 = .ok (.iconst 4, 1) := by decide +kernel
theorem dL_act_189 : decode cL_act 189 = .ok (.invokestatic 31, 3) := by decide +kernel
theorem dL_act_192 : decode cL_act 192 = .ok (.invokevirtual 46, 3) := by decide +kernel
theorem dL_act_195 : decode cL_act 195 = .ok (.ireturn, 1) := by decide +kernel
theorem dL_act_196 : decode cL_act 196 = .ok (.aload_n 0, 1) := by decide +kernel
theorem dL_act_197 : decode cL_act 197 = .ok (.iload_n 3, 1) := by decide +kernel
theorem dL_act_198 : decode cL_act 198 = .ok (.iload 4, 2) := by decide +kernel
theorem dL_act_200 : decode cL_act 200 = .ok (.iload_n 2, 1) := by decide +kernel
theorem dL_act_201 : decode cL_act 201 = .ok (.bipush 20, 2) := by decide +kernel
theorem dL_act_203 : decode cL_act 203 = .ok (.ishr, 1) := by decide +kernel
theorem dL_act_204 : decode cL_act 204 = .ok (.iconst 3, 1) := by decide +kernel
theorem dL_act_205 : decode cL_act 205 = .ok (.iand, 1) := by decide +kernel
theorem dL_act_206 : decode cL_act 206 = .ok (.ifCond .ne 15, 3) := by decide +kernel
theorem dL_act_209 : decode cL_act 209 = .ok (.iload_n 2, 1) := by decide +kernel
theorem dL_act_210 : decode cL_act 210 = .ok (.iconst 3, 1) := by decide +kernel
theorem dL_act_211 : decode cL_act 211 = .ok (.ishr, 1) := by decide +kernel
theorem dL_act_212 : decode cL_act 212 = .ok (.sipush 256, 3) := by decide +kernel
theorem dL_act_215 : decode cL_act 215 = .ok (.invokestatic 31, 3) := by decide +kernel
theorem dL_act_218 : decode cL_act 218 = .ok (.goto 11, 3) := by decide +kernel
theorem dL_act_221 : decode cL_act 221 = .ok (.iload_n 3, 1) := by decide +kernel
theorem dL_act_222 : decode cL_act 222 = .ok (.iload 4, 2) := by decide +kernel
theorem dL_act_224 : decode cL_act 224 = .ok (.ixor, 1) := by decide +kernel
theorem dL_act_225 : decode cL_act 225 = .ok (.sipush 255, 3) := by decide +kernel
theorem dL_act_228 : decode cL_act 228 = .ok (.iand, 1) := by decide +kernel
theorem dL_act_229 : decode cL_act 229 = .ok (.invokevirtual 50, 3) := by decide +kernel
theorem dL_act_232 : decode cL_act 232 = .ok (.ireturn, 1) := by decide +kernel
theorem dL_act_233 : decode cL_act 233 = .ok (.aload_n 0, 1) := by decide +kernel
theorem dL_act_234 : decode cL_act 234 = .ok (.iload_n 2, 1) := by decide +kernel
theorem dL_act_235 : decode cL_act 235 = .ok (.bipush 9, 2) := by decide +kernel
theorem dL_act_237 : decode cL_act 237 = .ok (.invokestatic 31, 3) := by decide +kernel
theorem dL_act_240 : decode cL_act 240 = .ok (.iload_n 2, 1) := by decide +kernel
theorem dL_act_241 : decode cL_act 241 = .ok (.iconst 4, 1) := by decide +kernel
theorem dL_act_242 : decode cL_act 242 = .ok (.ishr, 1) := by decide +kernel
theorem dL_act_243 : decode cL_act 243 = .ok (.bipush 20, 2) := by decide +kernel
theorem dL_act_245 : decode cL_act 245 = .ok (.invokestatic 31, 3) := by decide +kernel
theorem dL_act_248 : decode cL_act 248 = .ok (.invokevirtual 53, 3) := by decide +kernel
theorem dL_act_251 : decode cL_act 251 = .ok (.ireturn, 1) := by decide +kernel
theorem dL_act_252 : decode cL_act 252 = .ok (.aload_n 0, 1) := by decide +kernel
theorem dL_act_253 : decode cL_act 253 = .ok (.iload_n 2, 1) := by decide +kernel
theorem dL_act_254 : decode cL_act 254 = .ok (.iconst 1, 1) := by decide +kernel
theorem dL_act_255 : decode cL_act 255 = .ok (.iand, 1) := by decide +kernel
theorem dL_act_256 : decode cL_act 256 = .ok (.invokevirtual 56, 3) := by decide +kernel
theorem dL_act_259 : decode cL_act 259 = .ok (.ireturn, 1) := by decide +kernel
theorem dL_act_260 : decode cL_act 260 = .ok (.aload_n 0, 1) := by decide +kernel
theorem dL_act_261 : decode cL_act 261 = .ok (.iload_n 2, 1) := by decide +kernel
theorem dL_act_262 : decode cL_act 262 = .ok (.iload_n 2, 1) := by decide +kernel
theorem dL_act_263 : decode cL_act 263 = .ok (.bipush 8, 2) := by decide +kernel
theorem dL_act_265 : decode cL_act 265 = .ok (.ishr, 1) := by decide +kernel
theorem dL_act_266 : decode cL_act 266 = .ok (.iconst 3, 1) := by decide +kernel
theorem dL_act_267 : decode cL_act 267 = .ok (.iand, 1) := by decide +kernel
theorem dL_act_268 : decode cL_act 268 = .ok (.ifCond .ne 8, 3) := by decide +kernel
theorem dL_act_271 : decode cL_act 271 = .ok (.bipush 101, 2) := by decide +kernel
theorem dL_act_273 : decode cL_act 273 = .ok (.goto 5, 3) := by decide +kernel
theorem dL_act_276 : decode cL_act 276 = .ok (.bipush 12, 2) := by decide +kernel
theorem dL_act_278 : decode cL_act 278 = .ok (.invokestatic 31, 3) := by decide +kernel
theorem dL_act_281 : decode cL_act 281 = .ok (.invokevirtual 59, 3) := by decide +kernel
theorem dL_act_284 : decode cL_act 284 = .ok (.ireturn, 1) := by decide +kernel
theorem dL_holds_0 : decode cL_holds 0 = .ok (.aload_n 0, 1) := by decide +kernel
theorem dL_holds_1 : decode cL_holds 1 = .ok (.iconst 1, 1) := by decide +kernel
theorem dL_holds_2 : decode cL_holds 2 = .ok (.invokevirtual 12, 3) := by decide +kernel
theorem dL_holds_5 : decode cL_holds 5 = .ok (.istore_n 1, 1) := by decide +kernel
theorem dL_holds_6 : decode cL_holds 6 = .ok (.iconst 0, 1) := by decide +kernel
theorem dL_holds_7 : decode cL_holds 7 = .ok (.istore_n 2, 1) := by decide +kernel
theorem dL_holds_8 : decode cL_holds 8 = .ok (.iconst 0, 1) := by decide +kernel
theorem dL_holds_9 : decode cL_holds 9 = .ok (.istore_n 3, 1) := by decide +kernel
theorem dL_holds_10 : decode cL_holds 10 = .ok (.iconst 0, 1) := by decide +kernel
theorem dL_holds_11 : decode cL_holds 11 = .ok (.istore 4, 2) := by decide +kernel
theorem dL_holds_13 : decode cL_holds 13 = .ok (.iload 4, 2) := by decide +kernel
theorem dL_holds_15 : decode cL_holds 15 = .ok (.iload_n 1, 1) := by decide +kernel
theorem dL_holds_16 : decode cL_holds 16 = .ok (.if_icmp .ge 239, 3) := by decide +kernel
theorem dL_holds_19 : decode cL_holds 19 = .ok (.aload_n 0, 1) := by decide +kernel
theorem dL_holds_20 : decode cL_holds 20 = .ok (.iload 4, 2) := by decide +kernel
theorem dL_holds_22 : decode cL_holds 22 = .ok (.invokevirtual 18, 3) := by decide +kernel
theorem dL_holds_25 : decode cL_holds 25 = .ok (.istore 5, 2) := by decide +kernel
theorem dL_holds_27 : decode cL_holds 27 = .ok (.aload_n 0, 1) := by decide +kernel
theorem dL_holds_28 : decode cL_holds 28 = .ok (.iload 5, 2) := by decide +kernel
theorem dL_holds_30 : decode cL_holds 30 = .ok (.iconst 4, 1) := by decide +kernel
theorem dL_holds_31 : decode cL_holds 31 = .ok (.invokevirtual 21, 3) := by decide +kernel
theorem dL_holds_34 : decode cL_holds 34 = .ok (.sipush 1000, 3) := by decide +kernel
theorem dL_holds_37 : decode cL_holds 37 = .ok (.isub, 1) := by decide +kernel
theorem dL_holds_38 : decode cL_holds 38 = .ok (.istore 6, 2) := by decide +kernel
theorem dL_holds_40 : decode cL_holds 40 = .ok (.aload_n 0, 1) := by decide +kernel
theorem dL_holds_41 : decode cL_holds 41 = .ok (.iload 5, 2) := by decide +kernel
theorem dL_holds_43 : decode cL_holds 43 = .ok (.iconst 5, 1) := by decide +kernel
theorem dL_holds_44 : decode cL_holds 44 = .ok (.invokevirtual 21, 3) := by decide +kernel
theorem dL_holds_47 : decode cL_holds 47 = .ok (.sipush 1000, 3) := by decide +kernel
theorem dL_holds_50 : decode cL_holds 50 = .ok (.isub, 1) := by decide +kernel
theorem dL_holds_51 : decode cL_holds 51 = .ok (.istore 7, 2) := by decide +kernel
theorem dL_holds_53 : decode cL_holds 53 = .ok (.bipush 60, 2) := by decide +kernel
theorem dL_holds_55 : decode cL_holds 55 = .ok (.aload_n 0, 1) := by decide +kernel
theorem dL_holds_56 : decode cL_holds 56 = .ok (.iload 5, 2) := by decide +kernel
theorem dL_holds_58 : decode cL_holds 58 = .ok (.iconst 0, 1) := by decide +kernel
theorem dL_holds_59 : decode cL_holds 59 = .ok (.invokevirtual 21, 3) := by decide +kernel
theorem dL_holds_62 : decode cL_holds 62 = .ok (.idiv, 1) := by decide +kernel
theorem dL_holds_63 : decode cL_holds 63 = .ok (.istore 8, 2) := by decide +kernel
theorem dL_holds_65 : decode cL_holds 65 = .ok (.iload 7, 2) := by decide +kernel
theorem dL_holds_67 : decode cL_holds 67 = .ok (.iload 6, 2) := by decide +kernel
theorem dL_holds_69 : decode cL_holds 69 = .ok (.if_icmp .le 11, 3) := by decide +kernel
theorem dL_holds_72 : decode cL_holds 72 = .ok (.iload 7, 2) := by decide +kernel
theorem dL_holds_74 : decode cL_holds 74 = .ok (.iload 6, 2) := by decide +kernel
theorem dL_holds_76 : decode cL_holds 76 = .ok (.isub, 1) := by decide +kernel
theorem dL_holds_77 : decode cL_holds 77 = .ok (.goto 8, 3) := by decide +kernel
theorem dL_holds_80 : decode cL_holds 80 = .ok (.iload 6, 2) := by decide +kernel
theorem dL_holds_82 : decode cL_holds 82 = .ok (.iload 7, 2) := by decide +kernel
theorem dL_holds_84 : decode cL_holds 84 = .ok (.isub, 1) := by decide +kernel
theorem dL_holds_85 : decode cL_holds 85 = .ok (.istore 9, 2) := by decide +kernel
theorem dL_holds_87 : decode cL_holds 87 = .ok (.iload_n 2, 1) := by decide +kernel
theorem dL_holds_88 : decode cL_holds 88 = .ok (.iload 6, 2) := by decide +kernel
theorem dL_holds_90 : decode cL_holds 90 = .ok (.iadd, 1) := by decide +kernel
theorem dL_holds_91 : decode cL_holds 91 = .ok (.istore_n 2, 1) := by decide +kernel
theorem dL_holds_92 : decode cL_holds 92 = .ok (.iload 6, 2) := by decide +kernel
theorem dL_holds_94 : decode cL_holds 94 = .ok (.sipush (-280), 3) := by decide +kernel
theorem dL_holds_97 : decode cL_holds 97 = .ok (.if_icmp .lt 76, 3) := by decide +kernel
theorem dL_holds_100 : decode cL_holds 100 = .ok (.iload 6, 2) := by decide +kernel
theorem dL_holds_102 : decode cL_holds 102 = .ok (.sipush 280, 3) := by decide +kernel
theorem dL_holds_105 : decode cL_holds 105 = .ok (.if_icmp .gt 68, 3) := by decide +kernel
theorem dL_holds_108 : decode cL_holds 108 = .ok (.iload 7, 2) := by decide +kernel
theorem dL_holds_110 : decode cL_holds 110 = .ok (.sipush (-280), 3) := by decide +kernel
theorem dL_holds_113 : decode cL_holds 113 = .ok (.if_icmp .lt 60, 3) := by decide +kernel
theorem dL_holds_116 : decode cL_holds 116 = .ok (.iload 7, 2) := by decide +kernel
theorem dL_holds_118 : decode cL_holds 118 = .ok (.sipush 280, 3) := by decide +kernel
theorem dL_holds_121 : decode cL_holds 121 = .ok (.if_icmp .gt 52, 3) := by decide +kernel
theorem dL_holds_124 : decode cL_holds 124 = .ok (.aload_n 0, 1) := by decide +kernel
theorem dL_holds_125 : decode cL_holds 125 = .ok (.iload 5, 2) := by decide +kernel
theorem dL_holds_127 : decode cL_holds 127 = .ok (.iconst 3, 1) := by decide +kernel
theorem dL_holds_128 : decode cL_holds 128 = .ok (.invokevirtual 21, 3) := by decide +kernel
theorem dL_holds_131 : decode cL_holds 131 = .ok (.ifCond .lt 42, 3) := by decide +kernel
theorem dL_holds_134 : decode cL_holds 134 = .ok (.aload_n 0, 1) := by decide +kernel
theorem dL_holds_135 : decode cL_holds 135 = .ok (.iload 5, 2) := by decide +kernel
theorem dL_holds_137 : decode cL_holds 137 = .ok (.iconst 3, 1) := by decide +kernel
theorem dL_holds_138 : decode cL_holds 138 = .ok (.invokevirtual 21, 3) := by decide +kernel
theorem dL_holds_141 : decode cL_holds 141 = .ok (.bipush 10, 2) := by decide +kernel
theorem dL_holds_143 : decode cL_holds 143 = .ok (.if_icmp .ge 30, 3) := by decide +kernel
theorem dL_holds_146 : decode cL_holds 146 = .ok (.aload_n 0, 1) := by decide +kernel
theorem dL_holds_147 : decode cL_holds 147 = .ok (.iload 5, 2) := by decide +kernel
theorem dL_holds_149 : decode cL_holds 149 = .ok (.iconst 2, 1) := by decide +kernel
theorem dL_holds_150 : decode cL_holds 150 = .ok (.invokevirtual 21, 3) := by decide +kernel
theorem dL_holds_153 : decode cL_holds 153 = .ok (.ifCond .lt 20, 3) := by decide +kernel
theorem dL_holds_156 : decode cL_holds 156 = .ok (.aload_n 0, 1) := by decide +kernel
theorem dL_holds_157 : decode cL_holds 157 = .ok (.iload 5, 2) := by decide +kernel
theorem dL_holds_159 : decode cL_holds 159 = .ok (.iconst 2, 1) := by decide +kernel
theorem dL_holds_160 : decode cL_holds 160 = .ok (.invokevirtual 21, 3) := by decide +kernel
theorem dL_holds_163 : decode cL_holds 163 = .ok (.sipush 800, 3) := by decide +kernel
theorem dL_holds_166 : decode cL_holds 166 = .ok (.if_icmp .ge 7, 3) := by decide +kernel
theorem dL_holds_169 : decode cL_holds 169 = .ok (.iconst 1, 1) := by decide +kernel
theorem dL_holds_170 : decode cL_holds 170 = .ok (.goto 4, 3) := by decide +kernel
theorem dL_holds_173 : decode cL_holds 173 = .ok (.iconst 0, 1) := by decide +kernel
theorem dL_holds_174 : decode cL_holds 174 = .ok (.istore 10, 2) := by decide +kernel
theorem dL_holds_176 : decode cL_holds 176 = .ok (.iload 10, 2) := by decide +kernel
theorem dL_holds_178 : decode cL_holds 178 = .ok (.ifCond .eq 66, 3) := by decide +kernel
theorem dL_holds_181 : decode cL_holds 181 = .ok (.iload 5, 2) := by decide +kernel
theorem dL_holds_183 : decode cL_holds 183 = .ok (.iload_n 3, 1) := by decide +kernel
theorem dL_holds_184 : decode cL_holds 184 = .ok (.if_icmp .le 60, 3) := by decide +kernel
theorem dL_holds_187 : decode cL_holds 187 = .ok (.aload_n 0, 1) := by decide +kernel
theorem dL_holds_188 : decode cL_holds 188 = .ok (.iload 5, 2) := by decide +kernel
theorem dL_holds_190 : decode cL_holds 190 = .ok (.bipush 9, 2) := by decide +kernel
theorem dL_holds_192 : decode cL_holds 192 = .ok (.invokevirtual 21, 3) := by decide +kernel
theorem dL_holds_195 : decode cL_holds 195 = .ok (.aload_n 0, 1) := by decide +kernel
theorem dL_holds_196 : decode cL_holds 196 = .ok (.iload 5, 2) := by decide +kernel
theorem dL_holds_198 : decode cL_holds 198 = .ok (.iconst 2, 1) := by decide +kernel
theorem dL_holds_199 : decode cL_holds 199 = .ok (.invokevirtual 21, 3) := by decide +kernel
theorem dL_holds_202 : decode cL_holds 202 = .ok (.bipush 100, 2) := by decide +kernel
theorem dL_holds_204 : decode cL_holds 204 = .ok (.idiv, 1) := by decide +kernel
theorem dL_holds_205 : decode cL_holds 205 = .ok (.if_icmp .ne 39, 3) := by decide +kernel
theorem dL_holds_208 : decode cL_holds 208 = .ok (.aload_n 0, 1) := by decide +kernel
theorem dL_holds_209 : decode cL_holds 209 = .ok (.iload 5, 2) := by decide +kernel
theorem dL_holds_211 : decode cL_holds 211 = .ok (.invokevirtual 62, 3) := by decide +kernel
theorem dL_holds_214 : decode cL_holds 214 = .ok (.iload 9, 2) := by decide +kernel
theorem dL_holds_216 : decode cL_holds 216 = .ok (.iload 8, 2) := by decide +kernel
theorem dL_holds_218 : decode cL_holds 218 = .ok (.iadd, 1) := by decide +kernel
theorem dL_holds_219 : decode cL_holds 219 = .ok (.iconst 1, 1) := by decide +kernel
theorem dL_holds_220 : decode cL_holds 220 = .ok (.isub, 1) := by decide +kernel
theorem dL_holds_221 : decode cL_holds 221 = .ok (.iload 8, 2) := by decide +kernel
theorem dL_holds_223 : decode cL_holds 223 = .ok (.idiv, 1) := by decide +kernel
theorem dL_holds_224 : decode cL_holds 224 = .ok (.if_icmp .ne 20, 3) := by decide +kernel
theorem dL_holds_227 : decode cL_holds 227 = .ok (.aload_n 0, 1) := by decide +kernel
theorem dL_holds_228 : decode cL_holds 228 = .ok (.iload 5, 2) := by decide +kernel
theorem dL_holds_230 : decode cL_holds 230 = .ok (.aload_n 0, 1) := by decide +kernel
theorem dL_holds_231 : decode cL_holds 231 = .ok (.iload 5, 2) := by decide +kernel
theorem dL_holds_233 : decode cL_holds 233 = .ok (.bipush 9, 2) := by decide +kernel
theorem dL_holds_235 : decode cL_holds 235 = .ok (.invokevirtual 21, 3) := by decide +kernel
theorem dL_holds_238 : decode cL_holds 238 = .ok (.invokevirtual 65, 3) := by decide +kernel
theorem dL_holds_241 : decode cL_holds 241 = .ok (.ifCond .eq 5, 3) := by decide +kernel
theorem dL_holds_244 : decode cL_holds 244 = .ok (.iconst 0, 1) := by decide +kernel
theorem dL_holds_245 : decode cL_holds 245 = .ok (.ireturn, 1) := by decide +kernel
theorem dL_holds_246 : decode cL_holds 246 = .ok (.iload 5, 2) := by decide +kernel
theorem dL_holds_248 : decode cL_holds 248 = .ok (.istore_n 3, 1) := by decide +kernel
theorem dL_holds_249 : decode cL_holds 249 = .ok (.iinc 4 1, 3) := by decide +kernel
theorem dL_holds_252 : decode cL_holds 252 = .ok (.goto (-239), 3) := by decide +kernel
theorem dL_holds_255 : decode cL_holds 255 = .ok (.iconst 0, 1) := by decide +kernel
theorem dL_holds_256 : decode cL_holds 256 = .ok (.istore 4, 2) := by decide +kernel
theorem dL_holds_258 : decode cL_holds 258 = .ok (.iconst 0, 1) := by decide +kernel
theorem dL_holds_259 : decode cL_holds 259 = .ok (.istore 5, 2) := by decide +kernel
theorem dL_holds_261 : decode cL_holds 261 = .ok (.iload 5, 2) := by decide +kernel
theorem dL_holds_263 : decode cL_holds 263 = .ok (.bipush 8, 2) := by decide +kernel
theorem dL_holds_265 : decode cL_holds 265 = .ok (.if_icmp .ge 21, 3) := by decide +kernel
theorem dL_holds_268 : decode cL_holds 268 = .ok (.iload 4, 2) := by decide +kernel
theorem dL_holds_270 : decode cL_holds 270 = .ok (.aload_n 0, 1) := by decide +kernel
theorem dL_holds_271 : decode cL_holds 271 = .ok (.iload 5, 2) := by decide +kernel
theorem dL_holds_273 : decode cL_holds 273 = .ok (.iconst 1, 1) := by decide +kernel
theorem dL_holds_274 : decode cL_holds 274 = .ok (.invokevirtual 28, 3) := by decide +kernel
theorem dL_holds_277 : decode cL_holds 277 = .ok (.iadd, 1) := by decide +kernel
theorem dL_holds_278 : decode cL_holds 278 = .ok (.istore 4, 2) := by decide +kernel
theorem dL_holds_280 : decode cL_holds 280 = .ok (.iinc 5 1, 3) := by decide +kernel
theorem dL_holds_283 : decode cL_holds 283 = .ok (.goto (-22), 3) := by decide +kernel
theorem dL_holds_286 : decode cL_holds 286 = .ok (.iconst 3, 1) := by decide +kernel
theorem dL_holds_287 : decode cL_holds 287 = .ok (.istore 5, 2) := by decide +kernel
theorem dL_holds_289 : decode cL_holds 289 = .ok (.iconst 0, 1) := by decide +kernel
theorem dL_holds_290 : decode cL_holds 290 = .ok (.istore 6, 2) := by decide +kernel
theorem dL_holds_292 : decode cL_holds 292 = .ok (.iload 6, 2) := by decide +kernel
theorem dL_holds_294 : decode cL_holds 294 = .ok (.aload_n 0, 1) := by decide +kernel
theorem dL_holds_295 : decode cL_holds 295 = .ok (.iconst 2, 1) := by decide +kernel
theorem dL_holds_296 : decode cL_holds 296 = .ok (.invokevirtual 12, 3) := by decide +kernel
theorem dL_holds_299 : decode cL_holds 299 = .ok (.if_icmp .ge 32, 3) := by decide +kernel
theorem dL_holds_302 : decode cL_holds 302 = .ok (.aload_n 0, 1) := by decide +kernel
theorem dL_holds_303 : decode cL_holds 303 = .ok (.iload 6, 2) := by decide +kernel
theorem dL_holds_305 : decode cL_holds 305 = .ok (.iconst 2, 1) := by decide +kernel
theorem dL_holds_306 : decode cL_holds 306 = .ok (.invokevirtual 25, 3) := by decide +kernel
theorem dL_holds_309 : decode cL_holds 309 = .ok (.iload 5, 2) := by decide +kernel
theorem dL_holds_311 : decode cL_holds 311 = .ok (.if_icmp .le 5, 3) := by decide +kernel
theorem dL_holds_314 : decode cL_holds 314 = .ok (.iconst 0, 1) := by decide +kernel
theorem dL_holds_315 : decode cL_holds 315 = .ok (.ireturn, 1) := by decide +kernel
theorem dL_holds_316 : decode cL_holds 316 = .ok (.aload_n 0, 1) := by decide +kernel
theorem dL_holds_317 : decode cL_holds 317 = .ok (.iload 6, 2) := by decide +kernel
theorem dL_holds_319 : decode cL_holds 319 = .ok (.iconst 2, 1) := by decide +kernel
theorem dL_holds_320 : decode cL_holds 320 = .ok (.invokevirtual 25, 3) := by decide +kernel
theorem dL_holds_323 : decode cL_holds 323 = .ok (.istore 5, 2) := by decide +kernel
theorem dL_holds_325 : decode cL_holds 325 = .ok (.iinc 6 1, 3) := by decide +kernel
theorem dL_holds_328 : decode cL_holds 328 = .ok (.goto (-36), 3) := by decide +kernel
theorem dL_holds_331 : decode cL_holds 331 = .ok (.iload 4, 2) := by decide +kernel
theorem dL_holds_333 : decode cL_holds 333 = .ok (.iload_n 1, 1) := by decide +kernel
theorem dL_holds_334 : decode cL_holds 334 = .ok (.if_icmp .ne 48, 3) := by decide +kernel
theorem dL_holds_337 : decode cL_holds 337 = .ok (.iload_n 2, 1) := by decide +kernel
theorem dL_holds_338 : decode cL_holds 338 = .ok (.aload_n 0, 1) := by decide +kernel
theorem dL_holds_339 : decode cL_holds 339 = .ok (.bipush 9, 2) := by decide +kernel
theorem dL_holds_341 : decode cL_holds 341 = .ok (.invokevirtual 12, 3) := by decide +kernel
theorem dL_holds_344 : decode cL_holds 344 = .ok (.sipush 10000, 3) := by decide +kernel
theorem dL_holds_347 : decode cL_holds 347 = .ok (.isub, 1) := by decide +kernel
theorem dL_holds_348 : decode cL_holds 348 = .ok (.if_icmp .ne 34, 3) := by decide +kernel
theorem dL_holds_351 : decode cL_holds 351 = .ok (.aload_n 0, 1) := by decide +kernel
theorem dL_holds_352 : decode cL_holds 352 = .ok (.bipush 6, 2) := by decide +kernel
theorem dL_holds_354 : decode cL_holds 354 = .ok (.invokevirtual 12, 3) := by decide +kernel
theorem dL_holds_357 : decode cL_holds 357 = .ok (.aload_n 0, 1) := by decide +kernel
theorem dL_holds_358 : decode cL_holds 358 = .ok (.iconst 5, 1) := by decide +kernel
theorem dL_holds_359 : decode cL_holds 359 = .ok (.invokevirtual 12, 3) := by decide +kernel
theorem dL_holds_362 : decode cL_holds 362 = .ok (.if_icmp .gt 20, 3) := by decide +kernel
theorem dL_holds_365 : decode cL_holds 365 = .ok (.aload_n 0, 1) := by decide +kernel
theorem dL_holds_366 : decode cL_holds 366 = .ok (.iconst 5, 1) := by decide +kernel
theorem dL_holds_367 : decode cL_holds 367 = .ok (.invokevirtual 12, 3) := by decide +kernel
theorem dL_holds_370 : decode cL_holds 370 = .ok (.aload_n 0, 1) := by decide +kernel
theorem dL_holds_371 : decode cL_holds 371 = .ok (.iconst 4, 1) := by decide +kernel
theorem dL_holds_372 : decode cL_holds 372 = .ok (.invokevirtual 12, 3) := by decide +kernel
theorem dL_holds_375 : decode cL_holds 375 = .ok (.if_icmp .gt 7, 3) := by decide +kernel
theorem dL_holds_378 : decode cL_holds 378 = .ok (.iconst 1, 1) := by decide +kernel
theorem dL_holds_379 : decode cL_holds 379 = .ok (.goto 4, 3) := by decide +kernel
theorem dL_holds_382 : decode cL_holds 382 = .ok (.iconst 0, 1) := by decide +kernel
theorem dL_holds_383 : decode cL_holds 383 = .ok (.ireturn, 1) := by decide +kernel
theorem dL_goesBySpeed_0 : decode cL_goesBySpeed 0 = .ok (.bipush 10, 2) := by decide +kernel
theorem dL_goesBySpeed_2 : decode cL_goesBySpeed 2 = .ok (.aload_n 0, 1) := by decide +kernel
theorem dL_goesBySpeed_3 : decode cL_goesBySpeed 3 = .ok (.iload_n 1, 1) := by decide +kernel
theorem dL_goesBySpeed_4 : decode cL_goesBySpeed 4 = .ok (.iconst 2, 1) := by decide +kernel
theorem dL_goesBySpeed_5 : decode cL_goesBySpeed 5 = .ok (.invokevirtual 21, 3) := by decide +kernel
theorem dL_goesBySpeed_8 : decode cL_goesBySpeed 8 = .ok (.imul, 1) := by decide +kernel
theorem dL_goesBySpeed_9 : decode cL_goesBySpeed 9 = .ok (.aload_n 0, 1) := by decide +kernel
theorem dL_goesBySpeed_10 : decode cL_goesBySpeed 10 = .ok (.iload_n 1, 1) := by decide +kernel
theorem dL_goesBySpeed_11 : decode cL_goesBySpeed 11 = .ok (.iconst 3, 1) := by decide +kernel
theorem dL_goesBySpeed_12 : decode cL_goesBySpeed 12 = .ok (.invokevirtual 21, 3) := by decide +kernel
theorem dL_goesBySpeed_15 : decode cL_goesBySpeed 15 = .ok (.iadd, 1) := by decide +kernel
theorem dL_goesBySpeed_16 : decode cL_goesBySpeed 16 = .ok (.sipush 8000, 3) := by decide +kernel
theorem dL_goesBySpeed_19 : decode cL_goesBySpeed 19 = .ok (.aload_n 0, 1) := by decide +kernel
theorem dL_goesBySpeed_20 : decode cL_goesBySpeed 20 = .ok (.iload_n 1, 1) := by decide +kernel
theorem dL_goesBySpeed_21 : decode cL_goesBySpeed 21 = .ok (.bipush 11, 2) := by decide +kernel
theorem dL_goesBySpeed_23 : decode cL_goesBySpeed 23 = .ok (.invokevirtual 21, 3) := by decide +kernel
theorem dL_goesBySpeed_26 : decode cL_goesBySpeed 26 = .ok (.sipush 1000, 3) := by decide +kernel
theorem dL_goesBySpeed_29 : decode cL_goesBySpeed 29 = .ok (.isub, 1) := by decide +kernel
theorem dL_goesBySpeed_30 : decode cL_goesBySpeed 30 = .ok (.imul, 1) := by decide +kernel
theorem dL_goesBySpeed_31 : decode cL_goesBySpeed 31 = .ok (.iadd, 1) := by decide +kernel
theorem dL_goesBySpeed_32 : decode cL_goesBySpeed 32 = .ok (.istore_n 2, 1) := by decide +kernel
theorem dL_goesBySpeed_33 : decode cL_goesBySpeed 33 = .ok (.aload_n 0, 1) := by decide +kernel
theorem dL_goesBySpeed_34 : decode cL_goesBySpeed 34 = .ok (.iload_n 1, 1) := by decide +kernel
theorem dL_goesBySpeed_35 : decode cL_goesBySpeed 35 = .ok (.iconst 4, 1) := by decide +kernel
theorem dL_goesBySpeed_36 : decode cL_goesBySpeed 36 = .ok (.invokevirtual 21, 3) := by decide +kernel
theorem dL_goesBySpeed_39 : decode cL_goesBySpeed 39 = .ok (.istore_n 3, 1) := by decide +kernel
theorem dL_goesBySpeed_40 : decode cL_goesBySpeed 40 = .ok (.aload_n 0, 1) := by decide +kernel
theorem dL_goesBySpeed_41 : decode cL_goesBySpeed 41 = .ok (.aload_n 0, 1) := by decide +kernel
theorem dL_goesBySpeed_42 : decode cL_goesBySpeed 42 = .ok (.iload_n 1, 1) := by decide +kernel
theorem dL_goesBySpeed_43 : decode cL_goesBySpeed 43 = .ok (.bipush 9, 2) := by decide +kernel
theorem dL_goesBySpeed_45 : decode cL_goesBySpeed 45 = .ok (.invokevirtual 21, 3) := by decide +kernel
theorem dL_goesBySpeed_48 : decode cL_goesBySpeed 48 = .ok (.iconst 0, 1) := by decide +kernel
theorem dL_goesBySpeed_49 : decode cL_goesBySpeed 49 = .ok (.invokevirtual 28, 3) := by decide +kernel
theorem dL_goesBySpeed_52 : decode cL_goesBySpeed 52 = .ok (.ifCond .le 7, 3) := by decide +kernel
theorem dL_goesBySpeed_55 : decode cL_goesBySpeed 55 = .ok (.iconst 1, 1) := by decide +kernel
theorem dL_goesBySpeed_56 : decode cL_goesBySpeed 56 = .ok (.goto 4, 3) := by decide +kernel
theorem dL_goesBySpeed_59 : decode cL_goesBySpeed 59 = .ok (.iconst 0, 1) := by decide +kernel
theorem dL_goesBySpeed_60 : decode cL_goesBySpeed 60 = .ok (.istore 4, 2) := by decide +kernel
theorem dL_goesBySpeed_62 : decode cL_goesBySpeed 62 = .ok (.aload_n 0, 1) := by decide +kernel
theorem dL_goesBySpeed_63 : decode cL_goesBySpeed 63 = .ok (.iconst 2, 1) := by decide +kernel
theorem dL_goesBySpeed_64 : decode cL_goesBySpeed 64 = .ok (.invokevirtual 12, 3) := by decide +kernel
theorem dL_goesBySpeed_67 : decode cL_goesBySpeed 67 = .ok (.ifCond .ne 7, 3) := by decide +kernel
theorem dL_goesBySpeed_70 : decode cL_goesBySpeed 70 = .ok (.iconst 1, 1) := by decide +kernel
theorem dL_goesBySpeed_71 : decode cL_goesBySpeed 71 = .ok (.goto 4, 3) := by decide +kernel
theorem dL_goesBySpeed_74 : decode cL_goesBySpeed 74 = .ok (.iconst 0, 1) := by decide +kernel
theorem dL_goesBySpeed_75 : decode cL_goesBySpeed 75 = .ok (.istore 5, 2) := by decide +kernel
theorem dL_goesBySpeed_77 : decode cL_goesBySpeed 77 = .ok (.aload_n 0, 1) := by decide +kernel
theorem dL_goesBySpeed_78 : decode cL_goesBySpeed 78 = .ok (.iload_n 1, 1) := by decide +kernel
theorem dL_goesBySpeed_79 : decode cL_goesBySpeed 79 = .ok (.iconst 5, 1) := by decide +kernel
theorem dL_goesBySpeed_80 : decode cL_goesBySpeed 80 = .ok (.invokevirtual 21, 3) := by decide +kernel
theorem dL_goesBySpeed_83 : decode cL_goesBySpeed 83 = .ok (.istore 6, 2) := by decide +kernel
theorem dL_goesBySpeed_85 : decode cL_goesBySpeed 85 = .ok (.aload_n 0, 1) := by decide +kernel
theorem dL_goesBySpeed_86 : decode cL_goesBySpeed 86 = .ok (.iconst 1, 1) := by decide +kernel
theorem dL_goesBySpeed_87 : decode cL_goesBySpeed 87 = .ok (.invokevirtual 59, 3) := by decide +kernel
theorem dL_goesBySpeed_90 : decode cL_goesBySpeed 90 = .ok (.pop, 1) := by decide +kernel
theorem dL_goesBySpeed_91 : decode cL_goesBySpeed 91 = .ok (.bipush 10, 2) := by decide +kernel
theorem dL_goesBySpeed_93 : decode cL_goesBySpeed 93 = .ok (.aload_n 0, 1) := by decide +kernel
theorem dL_goesBySpeed_94 : decode cL_goesBySpeed 94 = .ok (.iload_n 1, 1) := by decide +kernel
theorem dL_goesBySpeed_95 : decode cL_goesBySpeed 95 = .ok (.iconst 2, 1) := by decide +kernel
theorem dL_goesBySpeed_96 : decode cL_goesBySpeed 96 = .ok (.invokevirtual 21, 3) := by decide +kernel
theorem dL_goesBySpeed_99 : decode cL_goesBySpeed 99 = .ok (.imul, 1) := by decide +kernel
theorem dL_goesBySpeed_100 : decode cL_goesBySpeed 100 = .ok (.aload_n 0, 1) := by decide +kernel
theorem dL_goesBySpeed_101 : decode cL_goesBySpeed 101 = .ok (.iload_n 1, 1) := by decide +kernel
theorem dL_goesBySpeed_102 : decode cL_goesBySpeed 102 = .ok (.iconst 3, 1) := by decide +kernel
theorem dL_goesBySpeed_103 : decode cL_goesBySpeed 103 = .ok (.invokevirtual 21, 3) := by decide +kernel
theorem dL_goesBySpeed_106 : decode cL_goesBySpeed 106 = .ok (.iadd, 1) := by decide +kernel
theorem dL_goesBySpeed_107 : decode cL_goesBySpeed 107 = .ok (.sipush 8000, 3) := by decide +kernel
theorem dL_goesBySpeed_110 : decode cL_goesBySpeed 110 = .ok (.aload_n 0, 1) := by decide +kernel
theorem dL_goesBySpeed_111 : decode cL_goesBySpeed 111 = .ok (.iload_n 1, 1) := by decide +kernel
theorem dL_goesBySpeed_112 : decode cL_goesBySpeed 112 = .ok (.bipush 11, 2) := by decide +kernel
theorem dL_goesBySpeed_114 : decode cL_goesBySpeed 114 = .ok (.invokevirtual 21, 3) := by decide +kernel
theorem dL_goesBySpeed_117 : decode cL_goesBySpeed 117 = .ok (.sipush 1000, 3) := by decide +kernel
theorem dL_goesBySpeed_120 : decode cL_goesBySpeed 120 = .ok (.isub, 1) := by decide +kernel
theorem dL_goesBySpeed_121 : decode cL_goesBySpeed 121 = .ok (.imul, 1) := by decide +kernel
theorem dL_goesBySpeed_122 : decode cL_goesBySpeed 122 = .ok (.iadd, 1) := by decide +kernel
theorem dL_goesBySpeed_123 : decode cL_goesBySpeed 123 = .ok (.istore 7, 2) := by decide +kernel
theorem dL_goesBySpeed_125 : decode cL_goesBySpeed 125 = .ok (.aload_n 0, 1) := by decide +kernel
theorem dL_goesBySpeed_126 : decode cL_goesBySpeed 126 = .ok (.iload_n 1, 1) := by decide +kernel
theorem dL_goesBySpeed_127 : decode cL_goesBySpeed 127 = .ok (.iconst 4, 1) := by decide +kernel
theorem dL_goesBySpeed_128 : decode cL_goesBySpeed 128 = .ok (.invokevirtual 21, 3) := by decide +kernel
theorem dL_goesBySpeed_131 : decode cL_goesBySpeed 131 = .ok (.istore 8, 2) := by decide +kernel
theorem dL_goesBySpeed_133 : decode cL_goesBySpeed 133 = .ok (.iload 7, 2) := by decide +kernel
theorem dL_goesBySpeed_135 : decode cL_goesBySpeed 135 = .ok (.iload_n 2, 1) := by decide +kernel
theorem dL_goesBySpeed_136 : decode cL_goesBySpeed 136 = .ok (.isub, 1) := by decide +kernel
theorem dL_goesBySpeed_137 : decode cL_goesBySpeed 137 = .ok (.iload 8, 2) := by decide +kernel
theorem dL_goesBySpeed_139 : decode cL_goesBySpeed 139 = .ok (.sipush 1000, 3) := by decide +kernel
theorem dL_goesBySpeed_142 : decode cL_goesBySpeed 142 = .ok (.isub, 1) := by decide +kernel
theorem dL_goesBySpeed_143 : decode cL_goesBySpeed 143 = .ok (.if_icmp .ne 20, 3) := by decide +kernel
theorem dL_goesBySpeed_146 : decode cL_goesBySpeed 146 = .ok (.iload 4, 2) := by decide +kernel
theorem dL_goesBySpeed_148 : decode cL_goesBySpeed 148 = .ok (.ifCond .eq 11, 3) := by decide +kernel
theorem dL_goesBySpeed_151 : decode cL_goesBySpeed 151 = .ok (.iload 8, 2) := by decide +kernel
theorem dL_goesBySpeed_153 : decode cL_goesBySpeed 153 = .ok (.sipush 1000, 3) := by decide +kernel
theorem dL_goesBySpeed_156 : decode cL_goesBySpeed 156 = .ok (.if_icmp .ne 7, 3) := by decide +kernel
theorem dL_goesBySpeed_159 : decode cL_goesBySpeed 159 = .ok (.iconst 1, 1) := by decide +kernel
theorem dL_goesBySpeed_160 : decode cL_goesBySpeed 160 = .ok (.goto 4, 3) := by decide +kernel
theorem dL_goesBySpeed_163 : decode cL_goesBySpeed 163 = .ok (.iconst 0, 1) := by decide +kernel
theorem dL_goesBySpeed_164 : decode cL_goesBySpeed 164 = .ok (.istore 9, 2) := by decide +kernel
theorem dL_goesBySpeed_166 : decode cL_goesBySpeed 166 = .ok (.bipush 60, 2) := by decide +kernel
theorem dL_goesBySpeed_168 : decode cL_goesBySpeed 168 = .ok (.aload_n 0, 1) := by decide +kernel
theorem dL_goesBySpeed_169 : decode cL_goesBySpeed 169 = .ok (.iload_n 1, 1) := by decide +kernel
theorem dL_goesBySpeed_170 : decode cL_goesBySpeed 170 = .ok (.iconst 0, 1) := by decide +kernel
theorem dL_goesBySpeed_171 : decode cL_goesBySpeed 171 = .ok (.invokevirtual 21, 3) := by decide +kernel
theorem dL_goesBySpeed_174 : decode cL_goesBySpeed 174 = .ok (.idiv, 1) := by decide +kernel
theorem dL_goesBySpeed_175 : decode cL_goesBySpeed 175 = .ok (.istore 10, 2) := by decide +kernel
theorem dL_goesBySpeed_177 : decode cL_goesBySpeed 177 = .ok (.iload 9, 2) := by decide +kernel
theorem dL_goesBySpeed_179 : decode cL_goesBySpeed 179 = .ok (.ifCond .eq 60, 3) := by decide +kernel
theorem dL_goesBySpeed_182 : decode cL_goesBySpeed 182 = .ok (.iload 4, 2) := by decide +kernel
theorem dL_goesBySpeed_184 : decode cL_goesBySpeed 184 = .ok (.ifCond .ne 51, 3) := by decide +kernel
theorem dL_goesBySpeed_187 : decode cL_goesBySpeed 187 = .ok (.iload 5, 2) := by decide +kernel
theorem dL_goesBySpeed_189 : decode cL_goesBySpeed 189 = .ok (.ifCond .eq 46, 3) := by decide +kernel
theorem dL_goesBySpeed_192 : decode cL_goesBySpeed 192 = .ok (.iload 8, 2) := by decide +kernel
theorem dL_goesBySpeed_194 : decode cL_goesBySpeed 194 = .ok (.iload_n 3, 1) := by decide +kernel
theorem dL_goesBySpeed_195 : decode cL_goesBySpeed 195 = .ok (.isub, 1) := by decide +kernel
theorem dL_goesBySpeed_196 : decode cL_goesBySpeed 196 = .ok (.iload 10, 2) := by decide +kernel
theorem dL_goesBySpeed_198 : decode cL_goesBySpeed 198 = .ok (.if_icmp .gt 41, 3) := by decide +kernel
theorem dL_goesBySpeed_201 : decode cL_goesBySpeed 201 = .ok (.iload_n 3, 1) := by decide +kernel
theorem dL_goesBySpeed_202 : decode cL_goesBySpeed 202 = .ok (.iload 8, 2) := by decide +kernel
theorem dL_goesBySpeed_204 : decode cL_goesBySpeed 204 = .ok (.isub, 1) := by decide +kernel
theorem dL_goesBySpeed_205 : decode cL_goesBySpeed 205 = .ok (.iload 10, 2) := by decide +kernel
theorem dL_goesBySpeed_207 : decode cL_goesBySpeed 207 = .ok (.if_icmp .gt 32, 3) := by decide +kernel
theorem dL_goesBySpeed_210 : decode cL_goesBySpeed 210 = .ok (.iload 8, 2) := by decide +kernel
theorem dL_goesBySpeed_212 : decode cL_goesBySpeed 212 = .ok (.iload 6, 2) := by decide +kernel
theorem dL_goesBySpeed_214 : decode cL_goesBySpeed 214 = .ok (.if_icmp .eq 21, 3) := by decide +kernel
theorem dL_goesBySpeed_217 : decode cL_goesBySpeed 217 = .ok (.iload 8, 2) := by decide +kernel
theorem dL_goesBySpeed_219 : decode cL_goesBySpeed 219 = .ok (.iload_n 3, 1) := by decide +kernel
theorem dL_goesBySpeed_220 : decode cL_goesBySpeed 220 = .ok (.isub, 1) := by decide +kernel
theorem dL_goesBySpeed_221 : decode cL_goesBySpeed 221 = .ok (.iload 10, 2) := by decide +kernel
theorem dL_goesBySpeed_223 : decode cL_goesBySpeed 223 = .ok (.if_icmp .eq 12, 3) := by decide +kernel
theorem dL_goesBySpeed_226 : decode cL_goesBySpeed 226 = .ok (.iload_n 3, 1) := by decide +kernel
theorem dL_goesBySpeed_227 : decode cL_goesBySpeed 227 = .ok (.iload 8, 2) := by decide +kernel
theorem dL_goesBySpeed_229 : decode cL_goesBySpeed 229 = .ok (.isub, 1) := by decide +kernel
theorem dL_goesBySpeed_230 : decode cL_goesBySpeed 230 = .ok (.iload 10, 2) := by decide +kernel
theorem dL_goesBySpeed_232 : decode cL_goesBySpeed 232 = .ok (.if_icmp .ne 7, 3) := by decide +kernel
theorem dL_goesBySpeed_235 : decode cL_goesBySpeed 235 = .ok (.iconst 1, 1) := by decide +kernel
theorem dL_goesBySpeed_236 : decode cL_goesBySpeed 236 = .ok (.goto 4, 3) := by decide +kernel
theorem dL_goesBySpeed_239 : decode cL_goesBySpeed 239 = .ok (.iconst 0, 1) := by decide +kernel
theorem dL_goesBySpeed_240 : decode cL_goesBySpeed 240 = .ok (.istore 9, 2) := by decide +kernel
theorem dL_goesBySpeed_242 : decode cL_goesBySpeed 242 = .ok (.aload_n 0, 1) := by decide +kernel
theorem dL_goesBySpeed_243 : decode cL_goesBySpeed 243 = .ok (.invokevirtual 68, 3) := by decide +kernel
theorem dL_goesBySpeed_246 : decode cL_goesBySpeed 246 = .ok (.pop, 1) := by decide +kernel
theorem dL_goesBySpeed_247 : decode cL_goesBySpeed 247 = .ok (.iload 9, 2) := by decide +kernel
theorem dL_goesBySpeed_249 : decode cL_goesBySpeed 249 = .ok (.ireturn, 1) := by decide +kernel
theorem dL_law_0 : decode cL_law 0 = .ok (.new 13, 3) := by decide +kernel
theorem dL_law_3 : decode cL_law 3 = .ok (.dup, 1) := by decide +kernel
theorem dL_law_4 : decode cL_law 4 = .ok (.invokespecial 72, 3) := by decide +kernel
theorem dL_law_7 : decode cL_law 7 = .ok (.astore_n 1, 1) := by decide +kernel
theorem dL_law_8 : decode cL_law 8 = .ok (.aload_n 1, 1) := by decide +kernel
theorem dL_law_9 : decode cL_law 9 = .ok (.invokevirtual 68, 3) := by decide +kernel
theorem dL_law_12 : decode cL_law 12 = .ok (.bipush (-5), 2) := by decide +kernel
theorem dL_law_14 : decode cL_law 14 = .ok (.if_icmp .ne 21, 3) := by decide +kernel
theorem dL_law_17 : decode cL_law 17 = .ok (.aload_n 1, 1) := by decide +kernel
theorem dL_law_18 : decode cL_law 18 = .ok (.iconst 1, 1) := by decide +kernel
theorem dL_law_19 : decode cL_law 19 = .ok (.invokevirtual 56, 3) := by decide +kernel
theorem dL_law_22 : decode cL_law 22 = .ok (.bipush (-5), 2) := by decide +kernel
theorem dL_law_24 : decode cL_law 24 = .ok (.if_icmp .ne 11, 3) := by decide +kernel
theorem dL_law_27 : decode cL_law 27 = .ok (.aload_n 1, 1) := by decide +kernel
theorem dL_law_28 : decode cL_law 28 = .ok (.iconst 0, 1) := by decide +kernel
theorem dL_law_29 : decode cL_law 29 = .ok (.invokevirtual 73, 3) := by decide +kernel
theorem dL_law_32 : decode cL_law 32 = .ok (.ifCond .eq 5, 3) := by decide +kernel
theorem dL_law_35 : decode cL_law 35 = .ok (.iconst 0, 1) := by decide +kernel
theorem dL_law_36 : decode cL_law 36 = .ok (.ireturn, 1) := by decide +kernel
theorem dL_law_37 : decode cL_law 37 = .ok (.aload_n 1, 1) := by decide +kernel
theorem dL_law_38 : decode cL_law 38 = .ok (.invokestatic 76, 3) := by decide +kernel
theorem dL_law_41 : decode cL_law 41 = .ok (.lstore_n 2, 1) := by decide +kernel
theorem dL_law_42 : decode cL_law 42 = .ok (.iconst 0, 1) := by decide +kernel
theorem dL_law_43 : decode cL_law 43 = .ok (.istore 4, 2) := by decide +kernel
theorem dL_law_45 : decode cL_law 45 = .ok (.iload 4, 2) := by decide +kernel
theorem dL_law_47 : decode cL_law 47 = .ok (.bipush 40, 2) := by decide +kernel
theorem dL_law_49 : decode cL_law 49 = .ok (.if_icmp .ge 276, 3) := by decide +kernel
theorem dL_law_52 : decode cL_law 52 = .ok (.aload_n 0, 1) := by decide +kernel
theorem dL_law_53 : decode cL_law 53 = .ok (.iconst 2, 1) := by decide +kernel
theorem dL_law_54 : decode cL_law 54 = .ok (.iload 4, 2) := by decide +kernel
theorem dL_law_56 : decode cL_law 56 = .ok (.imul, 1) := by decide +kernel
theorem dL_law_57 : decode cL_law 57 = .ok (.invokestatic 80, 3) := by decide +kernel
theorem dL_law_60 : decode cL_law 60 = .ok (.istore 5, 2) := by decide +kernel
theorem dL_law_62 : decode cL_law 62 = .ok (.aload_n 0, 1) := by decide +kernel
theorem dL_law_63 : decode cL_law 63 = .ok (.iconst 2, 1) := by decide +kernel
theorem dL_law_64 : decode cL_law 64 = .ok (.iload 4, 2) := by decide +kernel
theorem dL_law_66 : decode cL_law 66 = .ok (.imul, 1) := by decide +kernel
theorem dL_law_67 : decode cL_law 67 = .ok (.iconst 1, 1) := by decide +kernel
theorem dL_law_68 : decode cL_law 68 = .ok (.iadd, 1) := by decide +kernel
theorem dL_law_69 : decode cL_law 69 = .ok (.invokestatic 80, 3) := by decide +kernel
theorem dL_law_72 : decode cL_law 72 = .ok (.istore 6, 2) := by decide +kernel
theorem dL_law_74 : decode cL_law 74 = .ok (.aload_n 1, 1) := by decide +kernel
theorem dL_law_75 : decode cL_law 75 = .ok (.invokestatic 76, 3) := by decide +kernel
theorem dL_law_78 : decode cL_law 78 = .ok (.lstore 7, 2) := by decide +kernel
theorem dL_law_80 : decode cL_law 80 = .ok (.aload_n 1, 1) := by decide +kernel
theorem dL_law_81 : decode cL_law 81 = .ok (.bipush 11, 2) := by decide +kernel
theorem dL_law_83 : decode cL_law 83 = .ok (.invokevirtual 12, 3) := by decide +kernel
theorem dL_law_86 : decode cL_law 86 = .ok (.istore 9, 2) := by decide +kernel
theorem dL_law_88 : decode cL_law 88 = .ok (.aload_n 1, 1) := by decide +kernel
theorem dL_law_89 : decode cL_law 89 = .ok (.iload 5, 2) := by decide +kernel
theorem dL_law_91 : decode cL_law 91 = .ok (.iload 6, 2) := by decide +kernel
theorem dL_law_93 : decode cL_law 93 = .ok (.invokestatic 84, 3) := by decide +kernel
theorem dL_law_96 : decode cL_law 96 = .ok (.istore 10, 2) := by decide +kernel
theorem dL_law_98 : decode cL_law 98 = .ok (.aload_n 1, 1) := by decide +kernel
theorem dL_law_99 : decode cL_law 99 = .ok (.invokestatic 76, 3) := by decide +kernel
theorem dL_law_102 : decode cL_law 102 = .ok (.lstore 11, 2) := by decide +kernel
theorem dL_law_104 : decode cL_law 104 = .ok (.iload 10, 2) := by decide +kernel
theorem dL_law_106 : decode cL_law 106 = .ok (.ifCond .ge 25, 3) := by decide +kernel
theorem dL_law_109 : decode cL_law 109 = .ok (.lload 11, 2) := by decide +kernel
theorem dL_law_111 : decode cL_law 111 = .ok (.lload 7, 2) := by decide +kernel
theorem dL_law_113 : decode cL_law 113 = .ok (.lcmp, 1) := by decide +kernel
theorem dL_law_114 : decode cL_law 114 = .ok (.ifCond .ne 42, 3) := by decide +kernel
theorem dL_law_117 : decode cL_law 117 = .ok (.aload_n 1, 1) := by decide +kernel
theorem dL_law_118 : decode cL_law 118 = .ok (.bipush 11, 2) := by decide +kernel
theorem dL_law_120 : decode cL_law 120 = .ok (.invokevirtual 12, 3) := by decide +kernel
theorem dL_law_123 : decode cL_law 123 = .ok (.iload 9, 2) := by decide +kernel
theorem dL_law_125 : decode cL_law 125 = .ok (.if_icmp .eq 33, 3) := by decide +kernel
theorem dL_law_128 : decode cL_law 128 = .ok (.goto 28, 3) := by decide +kernel
theorem dL_law_131 : decode cL_law 131 = .ok (.aload_n 1, 1) := by decide +kernel
theorem dL_law_132 : decode cL_law 132 = .ok (.bipush 11, 2) := by decide +kernel
theorem dL_law_134 : decode cL_law 134 = .ok (.invokevirtual 12, 3) := by decide +kernel
theorem dL_law_137 : decode cL_law 137 = .ok (.iload 9, 2) := by decide +kernel
theorem dL_law_139 : decode cL_law 139 = .ok (.bipush 6, 2) := by decide +kernel
theorem dL_law_141 : decode cL_law 141 = .ok (.if_icmp .ge 10, 3) := by decide +kernel
theorem dL_law_144 : decode cL_law 144 = .ok (.iload 9, 2) := by decide +kernel
theorem dL_law_146 : decode cL_law 146 = .ok (.iconst 1, 1) := by decide +kernel
theorem dL_law_147 : decode cL_law 147 = .ok (.iadd, 1) := by decide +kernel
theorem dL_law_148 : decode cL_law 148 = .ok (.goto 5, 3) := by decide +kernel
theorem dL_law_151 : decode cL_law 151 = .ok (.bipush 6, 2) := by decide +kernel
theorem dL_law_153 : decode cL_law 153 = .ok (.if_icmp .eq 5, 3) := by decide +kernel
theorem dL_law_156 : decode cL_law 156 = .ok (.iconst 0, 1) := by decide +kernel
theorem dL_law_157 : decode cL_law 157 = .ok (.ireturn, 1) := by decide +kernel
theorem dL_law_158 : decode cL_law 158 = .ok (.iload 10, 2) := by decide +kernel
theorem dL_law_160 : decode cL_law 160 = .ok (.ifCond .lt 22, 3) := by decide +kernel
theorem dL_law_163 : decode cL_law 163 = .ok (.iload 5, 2) := by decide +kernel
theorem dL_law_165 : decode cL_law 165 = .ok (.bipush 15, 2) := by decide +kernel
theorem dL_law_167 : decode cL_law 167 = .ok (.iand, 1) := by decide +kernel
theorem dL_law_168 : decode cL_law 168 = .ok (.bipush 10, 2) := by decide +kernel
theorem dL_law_170 : decode cL_law 170 = .ok (.if_icmp .ne 12, 3) := by decide +kernel
theorem dL_law_173 : decode cL_law 173 = .ok (.lload 11, 2) := by decide +kernel
theorem dL_law_175 : decode cL_law 175 = .ok (.lload_n 2, 1) := by decide +kernel
theorem dL_law_176 : decode cL_law 176 = .ok (.lcmp, 1) := by decide +kernel
theorem dL_law_177 : decode cL_law 177 = .ok (.ifCond .eq 5, 3) := by decide +kernel
theorem dL_law_180 : decode cL_law 180 = .ok (.iconst 0, 1) := by decide +kernel
theorem dL_law_181 : decode cL_law 181 = .ok (.ireturn, 1) := by decide +kernel
theorem dL_law_182 : decode cL_law 182 = .ok (.iload 10, 2) := by decide +kernel
theorem dL_law_184 : decode cL_law 184 = .ok (.ifCond .lt 67, 3) := by decide +kernel
theorem dL_law_187 : decode cL_law 187 = .ok (.iload 5, 2) := by decide +kernel
theorem dL_law_189 : decode cL_law 189 = .ok (.bipush 8, 2) := by decide +kernel
theorem dL_law_191 : decode cL_law 191 = .ok (.ishr, 1) := by decide +kernel
theorem dL_law_192 : decode cL_law 192 = .ok (.iconst 1, 1) := by decide +kernel
theorem dL_law_193 : decode cL_law 193 = .ok (.iand, 1) := by decide +kernel
theorem dL_law_194 : decode cL_law 194 = .ok (.ifCond .ne 57, 3) := by decide +kernel
theorem dL_law_197 : decode cL_law 197 = .ok (.aload_n 1, 1) := by decide +kernel
theorem dL_law_198 : decode cL_law 198 = .ok (.bipush 11, 2) := by decide +kernel
theorem dL_law_200 : decode cL_law 200 = .ok (.invokevirtual 12, 3) := by decide +kernel
theorem dL_law_203 : decode cL_law 203 = .ok (.iconst 1, 1) := by decide +kernel
theorem dL_law_204 : decode cL_law 204 = .ok (.isub, 1) := by decide +kernel
theorem dL_law_205 : decode cL_law 205 = .ok (.istore 13, 2) := by decide +kernel
theorem dL_law_207 : decode cL_law 207 = .ok (.aload_n 1, 1) := by decide +kernel
theorem dL_law_208 : decode cL_law 208 = .ok (.invokevirtual 68, 3) := by decide +kernel
theorem dL_law_211 : decode cL_law 211 = .ok (.iload 13, 2) := by decide +kernel
theorem dL_law_213 : decode cL_law 213 = .ok (.if_icmp .ne 36, 3) := by decide +kernel
theorem dL_law_216 : decode cL_law 216 = .ok (.aload_n 1, 1) := by decide +kernel
theorem dL_law_217 : decode cL_law 217 = .ok (.invokestatic 76, 3) := by decide +kernel
theorem dL_law_220 : decode cL_law 220 = .ok (.lload 7, 2) := by decide +kernel
theorem dL_law_222 : decode cL_law 222 = .ok (.lcmp, 1) := by decide +kernel
theorem dL_law_223 : decode cL_law 223 = .ok (.ifCond .ne 26, 3) := by decide +kernel
theorem dL_law_226 : decode cL_law 226 = .ok (.aload_n 1, 1) := by decide +kernel
theorem dL_law_227 : decode cL_law 227 = .ok (.iload 5, 2) := by decide +kernel
theorem dL_law_229 : decode cL_law 229 = .ok (.iload 6, 2) := by decide +kernel
theorem dL_law_231 : decode cL_law 231 = .ok (.invokestatic 84, 3) := by decide +kernel
theorem dL_law_234 : decode cL_law 234 = .ok (.iload 10, 2) := by decide +kernel
theorem dL_law_236 : decode cL_law 236 = .ok (.if_icmp .ne 13, 3) := by decide +kernel
theorem dL_law_239 : decode cL_law 239 = .ok (.aload_n 1, 1) := by decide +kernel
theorem dL_law_240 : decode cL_law 240 = .ok (.invokestatic 76, 3) := by decide +kernel
theorem dL_law_243 : decode cL_law 243 = .ok (.lload 11, 2) := by decide +kernel
theorem dL_law_245 : decode cL_law 245 = .ok (.lcmp, 1) := by decide +kernel
theorem dL_law_246 : decode cL_law 246 = .ok (.ifCond .eq 5, 3) := by decide +kernel
theorem dL_law_249 : decode cL_law 249 = .ok (.iconst 0, 1) := by decide +kernel
theorem dL_law_250 : decode cL_law 250 = .ok (.ireturn, 1) := by decide +kernel
theorem dL_law_251 : decode cL_law 251 = .ok (.aload_n 1, 1) := by decide +kernel
theorem dL_law_252 : decode cL_law 252 = .ok (.invokestatic 88, 3) := by decide +kernel
theorem dL_law_255 : decode cL_law 255 = .ok (.ifCond .eq 42, 3) := by decide +kernel
theorem dL_law_258 : decode cL_law 258 = .ok (.aload_n 1, 1) := by decide +kernel
theorem dL_law_259 : decode cL_law 259 = .ok (.iconst 1, 1) := by decide +kernel
theorem dL_law_260 : decode cL_law 260 = .ok (.invokevirtual 12, 3) := by decide +kernel
theorem dL_law_263 : decode cL_law 263 = .ok (.ifCond .le 24, 3) := by decide +kernel
theorem dL_law_266 : decode cL_law 266 = .ok (.aload_n 1, 1) := by decide +kernel
theorem dL_law_267 : decode cL_law 267 = .ok (.aload_n 1, 1) := by decide +kernel
theorem dL_law_268 : decode cL_law 268 = .ok (.iload 6, 2) := by decide +kernel
theorem dL_law_270 : decode cL_law 270 = .ok (.aload_n 1, 1) := by decide +kernel
theorem dL_law_271 : decode cL_law 271 = .ok (.iconst 1, 1) := by decide +kernel
theorem dL_law_272 : decode cL_law 272 = .ok (.invokevirtual 12, 3) := by decide +kernel
theorem dL_law_275 : decode cL_law 275 = .ok (.invokestatic 31, 3) := by decide +kernel
theorem dL_law_278 : decode cL_law 278 = .ok (.invokevirtual 18, 3) := by decide +kernel
theorem dL_law_281 : decode cL_law 281 = .ok (.invokestatic 92, 3) := by decide +kernel
theorem dL_law_284 : decode cL_law 284 = .ok (.ifCond .eq 13, 3) := by decide +kernel
theorem dL_law_287 : decode cL_law 287 = .ok (.aload_n 1, 1) := by decide +kernel
theorem dL_law_288 : decode cL_law 288 = .ok (.invokestatic 76, 3) := by decide +kernel
theorem dL_law_291 : decode cL_law 291 = .ok (.lload 11, 2) := by decide +kernel
theorem dL_law_293 : decode cL_law 293 = .ok (.lcmp, 1) := by decide +kernel
theorem dL_law_294 : decode cL_law 294 = .ok (.ifCond .eq 5, 3) := by decide +kernel
theorem dL_law_297 : decode cL_law 297 = .ok (.iconst 0, 1) := by decide +kernel
theorem dL_law_298 : decode cL_law 298 = .ok (.ireturn, 1) := by decide +kernel
theorem dL_law_299 : decode cL_law 299 = .ok (.iload 5, 2) := by decide +kernel
theorem dL_law_301 : decode cL_law 301 = .ok (.bipush 9, 2) := by decide +kernel
theorem dL_law_303 : decode cL_law 303 = .ok (.ishr, 1) := by decide +kernel
theorem dL_law_304 : decode cL_law 304 = .ok (.bipush 7, 2) := by decide +kernel
theorem dL_law_306 : decode cL_law 306 = .ok (.iand, 1) := by decide +kernel
theorem dL_law_307 : decode cL_law 307 = .ok (.ifCond .ne 12, 3) := by decide +kernel
theorem dL_law_310 : decode cL_law 310 = .ok (.aload_n 1, 1) := by decide +kernel
theorem dL_law_311 : decode cL_law 311 = .ok (.iconst 0, 1) := by decide +kernel
theorem dL_law_312 : decode cL_law 312 = .ok (.invokevirtual 73, 3) := by decide +kernel
theorem dL_law_315 : decode cL_law 315 = .ok (.pop, 1) := by decide +kernel
theorem dL_law_316 : decode cL_law 316 = .ok (.lload 11, 2) := by decide +kernel
theorem dL_law_318 : decode cL_law 318 = .ok (.lstore_n 2, 1) := by decide +kernel
theorem dL_law_319 : decode cL_law 319 = .ok (.iinc 4 1, 3) := by decide +kernel
theorem dL_law_322 : decode cL_law 322 = .ok (.goto (-277), 3) := by decide +kernel
theorem dL_law_325 : decode cL_law 325 = .ok (.aload_n 1, 1) := by decide +kernel
theorem dL_law_326 : decode cL_law 326 = .ok (.iconst 0, 1) := by decide +kernel
theorem dL_law_327 : decode cL_law 327 = .ok (.invokevirtual 56, 3) := by decide +kernel
theorem dL_law_330 : decode cL_law 330 = .ok (.aload_n 1, 1) := by decide +kernel
theorem dL_law_331 : decode cL_law 331 = .ok (.iconst 1, 1) := by decide +kernel
theorem dL_law_332 : decode cL_law 332 = .ok (.invokevirtual 12, 3) := by decide +kernel
theorem dL_law_335 : decode cL_law 335 = .ok (.if_icmp .ne 16, 3) := by decide +kernel
theorem dL_law_338 : decode cL_law 338 = .ok (.aload_n 1, 1) := by decide +kernel
theorem dL_law_339 : decode cL_law 339 = .ok (.invokestatic 76, 3) := by decide +kernel
theorem dL_law_342 : decode cL_law 342 = .ok (.lload_n 2, 1) := by decide +kernel
theorem dL_law_343 : decode cL_law 343 = .ok (.lcmp, 1) := by decide +kernel
theorem dL_law_344 : decode cL_law 344 = .ok (.ifCond .ne 7, 3) := by decide +kernel
theorem dL_law_347 : decode cL_law 347 = .ok (.iconst 1, 1) := by decide +kernel
theorem dL_law_348 : decode cL_law 348 = .ok (.goto 4, 3) := by decide +kernel
theorem dL_law_351 : decode cL_law 351 = .ok (.iconst 0, 1) := by decide +kernel
theorem dL_law_352 : decode cL_law 352 = .ok (.ireturn, 1) := by decide +kernel
