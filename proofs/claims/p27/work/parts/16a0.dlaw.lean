theorem dL_cell_0 : decode cL_cell 0 = .ok (.iload_n 1, 1) := by decide +kernel
theorem dL_cell_1 : decode cL_cell 1 = .ok (.aload_n 0, 1) := by decide +kernel
theorem dL_cell_2 : decode cL_cell 2 = .ok (.arraylength, 1) := by decide +kernel
theorem dL_cell_3 : decode cL_cell 3 = .ok (.if_icmp .ge 9, 3) := by decide +kernel
theorem dL_cell_6 : decode cL_cell 6 = .ok (.aload_n 0, 1) := by decide +kernel
theorem dL_cell_7 : decode cL_cell 7 = .ok (.iload_n 1, 1) := by decide +kernel
theorem dL_cell_8 : decode cL_cell 8 = .ok (.iaload, 1) := by decide +kernel
theorem dL_cell_9 : decode cL_cell 9 = .ok (.goto 15, 3) := by decide +kernel
theorem dL_cell_12 : decode cL_cell 12 = .ok (.sipush 7919, 3) := by decide +kernel
theorem dL_cell_15 : decode cL_cell 15 = .ok (.iload_n 1, 1) := by decide +kernel
theorem dL_cell_16 : decode cL_cell 16 = .ok (.iconst 3, 1) := by decide +kernel
theorem dL_cell_17 : decode cL_cell 17 = .ok (.iadd, 1) := by decide +kernel
theorem dL_cell_18 : decode cL_cell 18 = .ok (.imul, 1) := by decide +kernel
theorem dL_cell_19 : decode cL_cell 19 = .ok (.iload_n 1, 1) := by decide +kernel
theorem dL_cell_20 : decode cL_cell 20 = .ok (.bipush 11, 2) := by decide +kernel
theorem dL_cell_22 : decode cL_cell 22 = .ok (.iadd, 1) := by decide +kernel
theorem dL_cell_23 : decode cL_cell 23 = .ok (.imul, 1) := by decide +kernel
theorem dL_cell_24 : decode cL_cell 24 = .ok (.ireturn, 1) := by decide +kernel
theorem dL_low_0 : decode cL_low 0 = .ok (.iload_n 0, 1) := by decide +kernel
theorem dL_low_1 : decode cL_low 1 = .ok (.ldc 7, 2) := by decide +kernel
theorem dL_low_3 : decode cL_low 3 = .ok (.iand, 1) := by decide +kernel
theorem dL_low_4 : decode cL_low 4 = .ok (.iload_n 1, 1) := by decide +kernel
theorem dL_low_5 : decode cL_low 5 = .ok (.irem, 1) := by decide +kernel
theorem dL_low_6 : decode cL_low 6 = .ok (.ireturn, 1) := by decide +kernel
theorem dL_digest_0 : decode cL_digest 0 = .ok (.ldc2_w 8, 3) := by decide +kernel
theorem dL_digest_3 : decode cL_digest 3 = .ok (.lstore_n 1, 1) := by decide +kernel
theorem dL_digest_4 : decode cL_digest 4 = .ok (.iconst 0, 1) := by decide +kernel
theorem dL_digest_5 : decode cL_digest 5 = .ok (.istore_n 3, 1) := by decide +kernel
theorem dL_digest_6 : decode cL_digest 6 = .ok (.iload_n 3, 1) := by decide +kernel
theorem dL_digest_7 : decode cL_digest 7 = .ok (.bipush 13, 2) := by decide +kernel
theorem dL_digest_9 : decode cL_digest 9 = .ok (.if_icmp .ge 22, 3) := by decide +kernel
theorem dL_digest_12 : decode cL_digest 12 = .ok (.ldc2_w 10, 3) := by decide +kernel
theorem dL_digest_15 : decode cL_digest 15 = .ok (.lload_n 1, 1) := by decide +kernel
theorem dL_digest_16 : decode cL_digest 16 = .ok (.lmul, 1) := by decide +kernel
theorem dL_digest_17 : decode cL_digest 17 = .ok (.aload_n 0, 1) := by decide +kernel
theorem dL_digest_18 : decode cL_digest 18 = .ok (.iload_n 3, 1) := by decide +kernel
theorem dL_digest_19 : decode cL_digest 19 = .ok (.invokevirtual 12, 3) := by decide +kernel
theorem dL_digest_22 : decode cL_digest 22 = .ok (.i2l, 1) := by decide +kernel
theorem dL_digest_23 : decode cL_digest 23 = .ok (.ladd, 1) := by decide +kernel
theorem dL_digest_24 : decode cL_digest 24 = .ok (.lstore_n 1, 1) := by decide +kernel
theorem dL_digest_25 : decode cL_digest 25 = .ok (.iinc 3 1, 3) := by decide +kernel
theorem dL_digest_28 : decode cL_digest 28 = .ok (.goto (-22), 3) := by decide +kernel
theorem dL_digest_31 : decode cL_digest 31 = .ok (.iconst 0, 1) := by decide +kernel
theorem dL_digest_32 : decode cL_digest 32 = .ok (.istore_n 3, 1) := by decide +kernel
theorem dL_digest_33 : decode cL_digest 33 = .ok (.iload_n 3, 1) := by decide +kernel
theorem dL_digest_34 : decode cL_digest 34 = .ok (.bipush 48, 2) := by decide +kernel
theorem dL_digest_36 : decode cL_digest 36 = .ok (.if_icmp .ge 29, 3) := by decide +kernel
theorem dL_digest_39 : decode cL_digest 39 = .ok (.ldc2_w 10, 3) := by decide +kernel
theorem dL_digest_42 : decode cL_digest 42 = .ok (.lload_n 1, 1) := by decide +kernel
theorem dL_digest_43 : decode cL_digest 43 = .ok (.lmul, 1) := by decide +kernel
theorem dL_digest_44 : decode cL_digest 44 = .ok (.aload_n 0, 1) := by decide +kernel
theorem dL_digest_45 : decode cL_digest 45 = .ok (.iload_n 3, 1) := by decide +kernel
theorem dL_digest_46 : decode cL_digest 46 = .ok (.bipush 12, 2) := by decide +kernel
theorem dL_digest_48 : decode cL_digest 48 = .ok (.idiv, 1) := by decide +kernel
theorem dL_digest_49 : decode cL_digest 49 = .ok (.iload_n 3, 1) := by decide +kernel
theorem dL_digest_50 : decode cL_digest 50 = .ok (.bipush 12, 2) := by decide +kernel
theorem dL_digest_52 : decode cL_digest 52 = .ok (.irem, 1) := by decide +kernel
theorem dL_digest_53 : decode cL_digest 53 = .ok (.invokevirtual 18, 3) := by decide +kernel
theorem dL_digest_56 : decode cL_digest 56 = .ok (.i2l, 1) := by decide +kernel
theorem dL_digest_57 : decode cL_digest 57 = .ok (.ladd, 1) := by decide +kernel
theorem dL_digest_58 : decode cL_digest 58 = .ok (.lstore_n 1, 1) := by decide +kernel
theorem dL_digest_59 : decode cL_digest 59 = .ok (.iinc 3 1, 3) := by decide +kernel
theorem dL_digest_62 : decode cL_digest 62 = .ok (.goto (-29), 3) := by decide +kernel
theorem dL_digest_65 : decode cL_digest 65 = .ok (.iconst 0, 1) := by decide +kernel
theorem dL_digest_66 : decode cL_digest 66 = .ok (.istore_n 3, 1) := by decide +kernel
theorem dL_digest_67 : decode cL_digest 67 = .ok (.iload_n 3, 1) := by decide +kernel
theorem dL_digest_68 : decode cL_digest 68 = .ok (.bipush 12, 2) := by decide +kernel
theorem dL_digest_70 : decode cL_digest 70 = .ok (.if_icmp .ge 35, 3) := by decide +kernel
theorem dL_digest_73 : decode cL_digest 73 = .ok (.ldc2_w 10, 3) := by decide +kernel
theorem dL_digest_76 : decode cL_digest 76 = .ok (.ldc2_w 10, 3) := by decide +kernel
theorem dL_digest_79 : decode cL_digest 79 = .ok (.lload_n 1, 1) := by decide +kernel
theorem dL_digest_80 : decode cL_digest 80 = .ok (.lmul, 1) := by decide +kernel
theorem dL_digest_81 : decode cL_digest 81 = .ok (.aload_n 0, 1) := by decide +kernel
theorem dL_digest_82 : decode cL_digest 82 = .ok (.iload_n 3, 1) := by decide +kernel
theorem dL_digest_83 : decode cL_digest 83 = .ok (.iconst 0, 1) := by decide +kernel
theorem dL_digest_84 : decode cL_digest 84 = .ok (.invokevirtual 22, 3) := by decide +kernel
theorem dL_digest_87 : decode cL_digest 87 = .ok (.i2l, 1) := by decide +kernel
theorem dL_digest_88 : decode cL_digest 88 = .ok (.ladd, 1) := by decide +kernel
theorem dL_digest_89 : decode cL_digest 89 = .ok (.lmul, 1) := by decide +kernel
theorem dL_digest_90 : decode cL_digest 90 = .ok (.aload_n 0, 1) := by decide +kernel
theorem dL_digest_91 : decode cL_digest 91 = .ok (.iload_n 3, 1) := by decide +kernel
theorem dL_digest_92 : decode cL_digest 92 = .ok (.iconst 1, 1) := by decide +kernel
theorem dL_digest_93 : decode cL_digest 93 = .ok (.invokevirtual 22, 3) := by decide +kernel
theorem dL_digest_96 : decode cL_digest 96 = .ok (.i2l, 1) := by decide +kernel
theorem dL_digest_97 : decode cL_digest 97 = .ok (.ladd, 1) := by decide +kernel
theorem dL_digest_98 : decode cL_digest 98 = .ok (.lstore_n 1, 1) := by decide +kernel
theorem dL_digest_99 : decode cL_digest 99 = .ok (.iinc 3 1, 3) := by decide +kernel
theorem dL_digest_102 : decode cL_digest 102 = .ok (.goto (-35), 3) := by decide +kernel
theorem dL_digest_105 : decode cL_digest 105 = .ok (.iconst 0, 1) := by decide +kernel
theorem dL_digest_106 : decode cL_digest 106 = .ok (.istore_n 3, 1) := by decide +kernel
theorem dL_digest_107 : decode cL_digest 107 = .ok (.iload_n 3, 1) := by decide +kernel
theorem dL_digest_108 : decode cL_digest 108 = .ok (.bipush 30, 2) := by decide +kernel
theorem dL_digest_110 : decode cL_digest 110 = .ok (.if_icmp .ge 27, 3) := by decide +kernel
theorem dL_digest_113 : decode cL_digest 113 = .ok (.ldc2_w 10, 3) := by decide +kernel
theorem dL_digest_116 : decode cL_digest 116 = .ok (.lload_n 1, 1) := by decide +kernel
theorem dL_digest_117 : decode cL_digest 117 = .ok (.lmul, 1) := by decide +kernel
theorem dL_digest_118 : decode cL_digest 118 = .ok (.aload_n 0, 1) := by decide +kernel
theorem dL_digest_119 : decode cL_digest 119 = .ok (.iload_n 3, 1) := by decide +kernel
theorem dL_digest_120 : decode cL_digest 120 = .ok (.iconst 3, 1) := by decide +kernel
theorem dL_digest_121 : decode cL_digest 121 = .ok (.idiv, 1) := by decide +kernel
theorem dL_digest_122 : decode cL_digest 122 = .ok (.iload_n 3, 1) := by decide +kernel
theorem dL_digest_123 : decode cL_digest 123 = .ok (.iconst 3, 1) := by decide +kernel
theorem dL_digest_124 : decode cL_digest 124 = .ok (.irem, 1) := by decide +kernel
theorem dL_digest_125 : decode cL_digest 125 = .ok (.invokevirtual 25, 3) := by decide +kernel
theorem dL_digest_128 : decode cL_digest 128 = .ok (.i2l, 1) := by decide +kernel
theorem dL_digest_129 : decode cL_digest 129 = .ok (.ladd, 1) := by decide +kernel
theorem dL_digest_130 : decode cL_digest 130 = .ok (.lstore_n 1, 1) := by decide +kernel
theorem dL_digest_131 : decode cL_digest 131 = .ok (.iinc 3 1, 3) := by decide +kernel
theorem dL_digest_134 : decode cL_digest 134 = .ok (.goto (-27), 3) := by decide +kernel
theorem dL_digest_137 : decode cL_digest 137 = .ok (.ldc2_w 10, 3) := by decide +kernel
theorem dL_digest_140 : decode cL_digest 140 = .ok (.ldc2_w 10, 3) := by decide +kernel
theorem dL_digest_143 : decode cL_digest 143 = .ok (.ldc2_w 10, 3) := by decide +kernel
theorem dL_digest_146 : decode cL_digest 146 = .ok (.ldc2_w 10, 3) := by decide +kernel
theorem dL_digest_149 : decode cL_digest 149 = .ok (.lload_n 1, 1) := by decide +kernel
theorem dL_digest_150 : decode cL_digest 150 = .ok (.lmul, 1) := by decide +kernel
theorem dL_digest_151 : decode cL_digest 151 = .ok (.aload_n 0, 1) := by decide +kernel
theorem dL_digest_152 : decode cL_digest 152 = .ok (.iconst 0, 1) := by decide +kernel
theorem dL_digest_153 : decode cL_digest 153 = .ok (.invokevirtual 28, 3) := by decide +kernel
theorem dL_digest_156 : decode cL_digest 156 = .ok (.i2l, 1) := by decide +kernel
theorem dL_digest_157 : decode cL_digest 157 = .ok (.ladd, 1) := by decide +kernel
theorem dL_digest_158 : decode cL_digest 158 = .ok (.lmul, 1) := by decide +kernel
theorem dL_digest_159 : decode cL_digest 159 = .ok (.aload_n 0, 1) := by decide +kernel
theorem dL_digest_160 : decode cL_digest 160 = .ok (.iconst 1, 1) := by decide +kernel
theorem dL_digest_161 : decode cL_digest 161 = .ok (.invokevirtual 28, 3) := by decide +kernel
theorem dL_digest_164 : decode cL_digest 164 = .ok (.i2l, 1) := by decide +kernel
theorem dL_digest_165 : decode cL_digest 165 = .ok (.ladd, 1) := by decide +kernel
theorem dL_digest_166 : decode cL_digest 166 = .ok (.lmul, 1) := by decide +kernel
theorem dL_digest_167 : decode cL_digest 167 = .ok (.aload_n 0, 1) := by decide +kernel
theorem dL_digest_168 : decode cL_digest 168 = .ok (.iconst 2, 1) := by decide +kernel
theorem dL_digest_169 : decode cL_digest 169 = .ok (.invokevirtual 28, 3) := by decide +kernel
theorem dL_digest_172 : decode cL_digest 172 = .ok (.i2l, 1) := by decide +kernel
theorem dL_digest_173 : decode cL_digest 173 = .ok (.ladd, 1) := by decide +kernel
theorem dL_digest_174 : decode cL_digest 174 = .ok (.lmul, 1) := by decide +kernel
theorem dL_digest_175 : decode cL_digest 175 = .ok (.aload_n 0, 1) := by decide +kernel
theorem dL_digest_176 : decode cL_digest 176 = .ok (.iconst 3, 1) := by decide +kernel
theorem dL_digest_177 : decode cL_digest 177 = .ok (.invokevirtual 28, 3) := by decide +kernel
theorem dL_digest_180 : decode cL_digest 180 = .ok (.i2l, 1) := by decide +kernel
theorem dL_digest_181 : decode cL_digest 181 = .ok (.ladd, 1) := by decide +kernel
theorem dL_digest_182 : decode cL_digest 182 = .ok (.lreturn, 1) := by decide +kernel
theorem dL_act_0 : decode cL_act 0 = .ok (.iload_n 1, 1) := by decide +kernel
theorem dL_act_1 : decode cL_act 1 = .ok (.iconst 4, 1) := by decide +kernel
theorem dL_act_2 : decode cL_act 2 = .ok (.ishr, 1) := by decide +kernel
theorem dL_act_3 : decode cL_act 3 = .ok (.iconst 5, 1) := by decide +kernel
theorem dL_act_4 : decode cL_act 4 = .ok (.invokestatic 31, 3) := by decide +kernel
theorem dL_act_7 : decode cL_act 7 = .ok (.istore_n 3, 1) := by decide +kernel
theorem dL_act_8 : decode cL_act 8 = .ok (.iload_n 1, 1) := by decide +kernel
theorem dL_act_9 : decode cL_act 9 = .ok (.bipush 15, 2) := by decide +kernel
theorem dL_act_11 : decode cL_act 11 = .ok (.iand, 1) := by decide +kernel
theorem dL_act_12 : decode cL_act 12 = .ok (.tableswitch 195 0 11 #[64, 97, 108, 133, 133, 144, 144, 161, 178, 178, 184, 190], 64) := by decide +kernel
theorem dL_act_76 : decode cL_act 76 = .ok (.aload_n 0, 1) := by decide +kernel
theorem dL_act_77 : decode cL_act 77 = .ok (.iload_n 1, 1) := by decide +kernel
theorem dL_act_78 : decode cL_act 78 = .ok (.iconst 4, 1) := by decide +kernel
theorem dL_act_79 : decode cL_act 79 = .ok (.ishr, 1) := by decide +kernel
theorem dL_act_80 : decode cL_act 80 = .ok (.iconst 4, 1) := by decide +kernel
theorem dL_act_81 : decode cL_act 81 = .ok (.invokestatic 31, 3) := by decide +kernel
theorem dL_act_84 : decode cL_act 84 = .ok (.iload_n 2, 1) := by decide +kernel
theorem dL_act_85 : decode cL_act 85 = .ok (.iload_n 2, 1) := by decide +kernel
theorem dL_act_86 : decode cL_act 86 = .ok (.bipush 12, 2) := by decide +kernel
theorem dL_act_88 : decode cL_act 88 = .ok (.ishr, 1) := by decide +kernel
theorem dL_act_89 : decode cL_act 89 = .ok (.iconst 1, 1) := by decide +kernel
theorem dL_act_90 : decode cL_act 90 = .ok (.iand, 1) := by decide +kernel
theorem dL_act_91 : decode cL_act 91 = .ok (.ifCond .ne 8, 3) := by decide +kernel
theorem dL_act_94 : decode cL_act 94 = .ok (.bipush 30, 2) := by decide +kernel
theorem dL_act_96 : decode cL_act 96 = .ok (.goto 6, 3) := by decide +kernel
theorem dL_act_99 : decode cL_act 99 = .ok (.sipush 500, 3) := by decide +kernel
theorem dL_act_102 : decode cL_act 102 = .ok (.invokestatic 31, 3) := by decide +kernel
theorem dL_act_105 : decode cL_act 105 = .ok (.invokevirtual 36, 3) := by decide +kernel
theorem dL_act_108 : decode cL_act 108 = .ok (.ireturn, 1) := by decide +kernel
theorem dL_act_109 : decode cL_act 109 = .ok (.aload_n 0, 1) := by decide +kernel
theorem dL_act_110 : decode cL_act 110 = .ok (.iload_n 3, 1) := by decide +kernel
theorem dL_act_111 : decode cL_act 111 = .ok (.iload_n 2, 1) := by decide +kernel
theorem dL_act_112 : decode cL_act 112 = .ok (.iconst 3, 1) := by decide +kernel
theorem dL_act_113 : decode cL_act 113 = .ok (.invokestatic 31, 3) := by decide +kernel
theorem dL_act_116 : decode cL_act 116 = .ok (.invokevirtual 39, 3) := by decide +kernel
theorem dL_act_119 : decode cL_act 119 = .ok (.ireturn, 1) := by decide +kernel
theorem dL_act_120 : decode cL_act 120 = .ok (.aload_n 0, 1) := by decide +kernel
theorem dL_act_121 : decode cL_act 121 = .ok (.aload_n 0, 1) := by decide +kernel
theorem dL_act_122 : decode cL_act 122 = .ok (.iconst 0, 1) := by decide +kernel
theorem dL_act_123 : decode cL_act 123 = .ok (.invokevirtual 12, 3) := by decide +kernel
theorem dL_act_126 : decode cL_act 126 = .ok (.iload_n 2, 1) := by decide +kernel
theorem dL_act_127 : decode cL_act 127 = .ok (.bipush 20, 2) := by decide +kernel
theorem dL_act_129 : decode cL_act 129 = .ok (.invokestatic 31, 3) := by decide +kernel
theorem dL_act_132 : decode cL_act 132 = .ok (.iadd, 1) := by decide +kernel
theorem dL_act_133 : decode cL_act 133 = .ok (.iload_n 2, 1) := by decide +kernel
theorem dL_act_134 : decode cL_act 134 = .ok (.iconst 5, 1) := by decide +kernel
theorem dL_act_135 : decode cL_act 135 = .ok (.ishr, 1) := by decide +kernel
theorem dL_act_136 : decode cL_act 136 = .ok (.bipush 11, 2) := by decide +kernel
theorem dL_act_138 : decode cL_act 138 = .ok (.invokestatic 31, 3) := by decide +kernel
theorem dL_act_141 : decode cL_act 141 = .ok (.invokevirtual 42, 3) := by decide +kernel
theorem dL_act_144 : decode cL_act 144 = .ok (.ireturn, 1) := by decide +kernel
theorem dL_act_145 : decode cL_act 145 = .ok (.aload_n 0, 1) := by decide +kernel
theorem dL_act_146 : decode cL_act 146 = .ok (.iload_n 3, 1) := by decide +kernel
theorem dL_act_147 : decode cL_act 147 = .ok (.iload_n 2, 1) := by decide +kernel
theorem dL_act_148 : decode cL_act 148 = .ok (.iconst 3, 1) := by decide +kernel
theorem dL_act_149 : decode cL_act 149 = .ok (.invokestatic 31, 3) := by decide +kernel
theorem dL_act_152 : decode cL_act 152 = .ok (.invokevirtual 45, 3) := by decide +kernel
theorem dL_act_155 : decode cL_act 155 = .ok (.ireturn, 1) := by decide +kernel
theorem dL_act_156 : decode cL_act 156 = .ok (.aload_n 0, 1) := by decide +kernel
theorem dL_act_157 : decode cL_act 157 = .ok (.iload_n 3, 1) := by decide +kernel
theorem dL_act_158 : decode cL_act 158 = .ok (.iload_n 2, 1) := by decide +kernel
theorem dL_act_159 : decode cL_act 159 = .ok (.iconst 1, 1) := by decide +kernel
theorem dL_act_160 : decode cL_act 160 = .ok (.iand, 1) := by decide +kernel
theorem dL_act_161 : decode cL_act 161 = .ok (.ifCond .ne 7, 3) := by decide +kernel
theorem dL_act_164 : decode cL_act 164 = .ok (.iconst 1, 1) := by decide +kernel
theorem dL_act_165 : decode cL_act 165 = .ok (.goto 4, 3) := by decide +kernel
theorem dL_act_168 : decode cL_act 168 = .ok (.iconst 0, 1) := by decide +kernel
theorem dL_act_169 : decode cL_act 169 = .ok (.invokevirtual 48, 3) := by decide +kernel
theorem dL_act_172 : decode cL_act 172 = .ok (.ireturn, 1) := by decide +kernel
theorem dL_act_173 : decode cL_act 173 = .ok (.aload_n 0, 1) := by decide +kernel
theorem dL_act_174 : decode cL_act 174 = .ok (.iload_n 3, 1) := by decide +kernel
theorem dL_act_175 : decode cL_act 175 = .ok (.iload_n 2, 1) := by decide +kernel
theorem dL_act_176 : decode cL_act 176 = .ok (.iconst 1, 1) := by decide +kernel
theorem dL_act_177 : decode cL_act 177 = .ok (.iand, 1) := by decide +kernel
theorem dL_act_178 : decode cL_act 178 = .ok (.ifCond .ne 7, 3) := by decide +kernel
theorem dL_act_181 : decode cL_act 181 = .ok (.iconst 1, 1) := by decide +kernel
theorem dL_act_182 : decode cL_act 182 = .ok (.goto 4, 3) := by decide +kernel
theorem dL_act_185 : decode cL_act 185 = .ok (.iconst 0, 1) := by decide +kernel
theorem dL_act_186 : decode cL_act 186 = .ok (.invokevirtual 52, 3) := by decide +kernel
theorem dL_act_189 : decode cL_act 189 = .ok (.ireturn, 1) := by decide +kernel
theorem dL_act_190 : decode cL_act 190 = .ok (.aload_n 0, 1) := by decide +kernel
theorem dL_act_191 : decode cL_act 191 = .ok (.iload_n 3, 1) := by decide +kernel
theorem dL_act_192 : decode cL_act 192 = .ok (.invokevirtual 55, 3) := by decide +kernel
theorem dL_act_195 : decode cL_act 195 = .ok (.ireturn, 1) := by decide +kernel
theorem dL_act_196 : decode cL_act 196 = .ok (.aload_n 0, 1) := by decide +kernel
theorem dL_act_197 : decode cL_act 197 = .ok (.iload_n 3, 1) := by decide +kernel
theorem dL_act_198 : decode cL_act 198 = .ok (.invokevirtual 58, 3) := by decide +kernel
theorem dL_act_201 : decode cL_act 201 = .ok (.ireturn, 1) := by decide +kernel
theorem dL_act_202 : decode cL_act 202 = .ok (.aload_n 0, 1) := by decide +kernel
theorem dL_act_203 : decode cL_act 203 = .ok (.invokevirtual 61, 3) := by decide +kernel
theorem dL_act_206 : decode cL_act 206 = .ok (.ireturn, 1) := by decide +kernel
theorem dL_act_207 : decode cL_act 207 = .ok (.aload_n 0, 1) := by decide +kernel
theorem dL_act_208 : decode cL_act 208 = .ok (.iconst 1, 1) := by decide +kernel
theorem dL_act_209 : decode cL_act 209 = .ok (.iload_n 2, 1) := by decide +kernel
theorem dL_act_210 : decode cL_act 210 = .ok (.iload_n 2, 1) := by decide +kernel
theorem dL_act_211 : decode cL_act 211 = .ok (.bipush 9, 2) := by decide +kernel
theorem dL_act_213 : decode cL_act 213 = .ok (.ishr, 1) := by decide +kernel
theorem dL_act_214 : decode cL_act 214 = .ok (.iconst 3, 1) := by decide +kernel
theorem dL_act_215 : decode cL_act 215 = .ok (.iand, 1) := by decide +kernel
theorem dL_act_216 : decode cL_act 216 = .ok (.ifCond .ne 9, 3) := by decide +kernel
theorem dL_act_219 : decode cL_act 219 = .ok (.sipush 210, 3) := by decide +kernel
theorem dL_act_222 : decode cL_act 222 = .ok (.goto 5, 3) := by decide +kernel
theorem dL_act_225 : decode cL_act 225 = .ok (.bipush 15, 2) := by decide +kernel
theorem dL_act_227 : decode cL_act 227 = .ok (.invokestatic 31, 3) := by decide +kernel
theorem dL_act_230 : decode cL_act 230 = .ok (.iadd, 1) := by decide +kernel
theorem dL_act_231 : decode cL_act 231 = .ok (.invokevirtual 65, 3) := by decide +kernel
theorem dL_act_234 : decode cL_act 234 = .ok (.ireturn, 1) := by decide +kernel
theorem dL_holds_0 : decode cL_holds 0 = .ok (.iconst 0, 1) := by decide +kernel
theorem dL_holds_1 : decode cL_holds 1 = .ok (.istore_n 1, 1) := by decide +kernel
theorem dL_holds_2 : decode cL_holds 2 = .ok (.iconst 0, 1) := by decide +kernel
theorem dL_holds_3 : decode cL_holds 3 = .ok (.istore_n 2, 1) := by decide +kernel
theorem dL_holds_4 : decode cL_holds 4 = .ok (.iconst 0, 1) := by decide +kernel
theorem dL_holds_5 : decode cL_holds 5 = .ok (.istore_n 3, 1) := by decide +kernel
theorem dL_holds_6 : decode cL_holds 6 = .ok (.iconst 0, 1) := by decide +kernel
theorem dL_holds_7 : decode cL_holds 7 = .ok (.istore 4, 2) := by decide +kernel
theorem dL_holds_9 : decode cL_holds 9 = .ok (.iload 4, 2) := by decide +kernel
theorem dL_holds_11 : decode cL_holds 11 = .ok (.iconst 4, 1) := by decide +kernel
theorem dL_holds_12 : decode cL_holds 12 = .ok (.if_icmp .ge 168, 3) := by decide +kernel
theorem dL_holds_15 : decode cL_holds 15 = .ok (.aload_n 0, 1) := by decide +kernel
theorem dL_holds_16 : decode cL_holds 16 = .ok (.iload 4, 2) := by decide +kernel
theorem dL_holds_18 : decode cL_holds 18 = .ok (.iconst 1, 1) := by decide +kernel
theorem dL_holds_19 : decode cL_holds 19 = .ok (.invokevirtual 18, 3) := by decide +kernel
theorem dL_holds_22 : decode cL_holds 22 = .ok (.istore 5, 2) := by decide +kernel
theorem dL_holds_24 : decode cL_holds 24 = .ok (.aload_n 0, 1) := by decide +kernel
theorem dL_holds_25 : decode cL_holds 25 = .ok (.iload 4, 2) := by decide +kernel
theorem dL_holds_27 : decode cL_holds 27 = .ok (.bipush 6, 2) := by decide +kernel
theorem dL_holds_29 : decode cL_holds 29 = .ok (.invokevirtual 18, 3) := by decide +kernel
theorem dL_holds_32 : decode cL_holds 32 = .ok (.iconst 1, 1) := by decide +kernel
theorem dL_holds_33 : decode cL_holds 33 = .ok (.if_icmp .ne 7, 3) := by decide +kernel
theorem dL_holds_36 : decode cL_holds 36 = .ok (.iconst 1, 1) := by decide +kernel
theorem dL_holds_37 : decode cL_holds 37 = .ok (.goto 4, 3) := by decide +kernel
theorem dL_holds_40 : decode cL_holds 40 = .ok (.iconst 0, 1) := by decide +kernel
theorem dL_holds_41 : decode cL_holds 41 = .ok (.istore 6, 2) := by decide +kernel
theorem dL_holds_43 : decode cL_holds 43 = .ok (.iload 5, 2) := by decide +kernel
theorem dL_holds_45 : decode cL_holds 45 = .ok (.ifCond .le 44, 3) := by decide +kernel
theorem dL_holds_48 : decode cL_holds 48 = .ok (.aload_n 0, 1) := by decide +kernel
theorem dL_holds_49 : decode cL_holds 49 = .ok (.iload 4, 2) := by decide +kernel
theorem dL_holds_51 : decode cL_holds 51 = .ok (.bipush 7, 2) := by decide +kernel
theorem dL_holds_53 : decode cL_holds 53 = .ok (.invokevirtual 18, 3) := by decide +kernel
theorem dL_holds_56 : decode cL_holds 56 = .ok (.ifCond .ne 33, 3) := by decide +kernel
theorem dL_holds_59 : decode cL_holds 59 = .ok (.aload_n 0, 1) := by decide +kernel
theorem dL_holds_60 : decode cL_holds 60 = .ok (.iload 4, 2) := by decide +kernel
theorem dL_holds_62 : decode cL_holds 62 = .ok (.iconst 2, 1) := by decide +kernel
theorem dL_holds_63 : decode cL_holds 63 = .ok (.invokevirtual 18, 3) := by decide +kernel
theorem dL_holds_66 : decode cL_holds 66 = .ok (.iconst 1, 1) := by decide +kernel
theorem dL_holds_67 : decode cL_holds 67 = .ok (.if_icmp .eq 18, 3) := by decide +kernel
theorem dL_holds_70 : decode cL_holds 70 = .ok (.aload_n 0, 1) := by decide +kernel
theorem dL_holds_71 : decode cL_holds 71 = .ok (.iload 4, 2) := by decide +kernel
theorem dL_holds_73 : decode cL_holds 73 = .ok (.iconst 5, 1) := by decide +kernel
theorem dL_holds_74 : decode cL_holds 74 = .ok (.invokevirtual 18, 3) := by decide +kernel
theorem dL_holds_77 : decode cL_holds 77 = .ok (.aload_n 0, 1) := by decide +kernel
theorem dL_holds_78 : decode cL_holds 78 = .ok (.iconst 0, 1) := by decide +kernel
theorem dL_holds_79 : decode cL_holds 79 = .ok (.invokevirtual 28, 3) := by decide +kernel
theorem dL_holds_82 : decode cL_holds 82 = .ok (.if_icmp .lt 7, 3) := by decide +kernel
theorem dL_holds_85 : decode cL_holds 85 = .ok (.iconst 1, 1) := by decide +kernel
theorem dL_holds_86 : decode cL_holds 86 = .ok (.goto 4, 3) := by decide +kernel
theorem dL_holds_89 : decode cL_holds 89 = .ok (.iconst 0, 1) := by decide +kernel
theorem dL_holds_90 : decode cL_holds 90 = .ok (.istore 7, 2) := by decide +kernel
theorem dL_holds_92 : decode cL_holds 92 = .ok (.iload 6, 2) := by decide +kernel
theorem dL_holds_94 : decode cL_holds 94 = .ok (.iload 7, 2) := by decide +kernel
theorem dL_holds_96 : decode cL_holds 96 = .ok (.if_icmp .ne 42, 3) := by decide +kernel
theorem dL_holds_99 : decode cL_holds 99 = .ok (.aload_n 0, 1) := by decide +kernel
theorem dL_holds_100 : decode cL_holds 100 = .ok (.iload 4, 2) := by decide +kernel
theorem dL_holds_102 : decode cL_holds 102 = .ok (.iconst 5, 1) := by decide +kernel
theorem dL_holds_103 : decode cL_holds 103 = .ok (.invokevirtual 18, 3) := by decide +kernel
theorem dL_holds_106 : decode cL_holds 106 = .ok (.ifCond .lt 32, 3) := by decide +kernel
theorem dL_holds_109 : decode cL_holds 109 = .ok (.aload_n 0, 1) := by decide +kernel
theorem dL_holds_110 : decode cL_holds 110 = .ok (.iload 4, 2) := by decide +kernel
theorem dL_holds_112 : decode cL_holds 112 = .ok (.iconst 5, 1) := by decide +kernel
theorem dL_holds_113 : decode cL_holds 113 = .ok (.invokevirtual 18, 3) := by decide +kernel
theorem dL_holds_116 : decode cL_holds 116 = .ok (.sipush 900, 3) := by decide +kernel
theorem dL_holds_119 : decode cL_holds 119 = .ok (.if_icmp .gt 19, 3) := by decide +kernel
theorem dL_holds_122 : decode cL_holds 122 = .ok (.iload 5, 2) := by decide +kernel
theorem dL_holds_124 : decode cL_holds 124 = .ok (.ifCond .ne 16, 3) := by decide +kernel
theorem dL_holds_127 : decode cL_holds 127 = .ok (.aload_n 0, 1) := by decide +kernel
theorem dL_holds_128 : decode cL_holds 128 = .ok (.iload 4, 2) := by decide +kernel
theorem dL_holds_130 : decode cL_holds 130 = .ok (.iconst 4, 1) := by decide +kernel
theorem dL_holds_131 : decode cL_holds 131 = .ok (.invokevirtual 18, 3) := by decide +kernel
theorem dL_holds_134 : decode cL_holds 134 = .ok (.iconst 1, 1) := by decide +kernel
theorem dL_holds_135 : decode cL_holds 135 = .ok (.if_icmp .ne 5, 3) := by decide +kernel
theorem dL_holds_138 : decode cL_holds 138 = .ok (.iconst 0, 1) := by decide +kernel
theorem dL_holds_139 : decode cL_holds 139 = .ok (.ireturn, 1) := by decide +kernel
theorem dL_holds_140 : decode cL_holds 140 = .ok (.iload_n 1, 1) := by decide +kernel
theorem dL_holds_141 : decode cL_holds 141 = .ok (.aload_n 0, 1) := by decide +kernel
theorem dL_holds_142 : decode cL_holds 142 = .ok (.iload 4, 2) := by decide +kernel
theorem dL_holds_144 : decode cL_holds 144 = .ok (.iconst 4, 1) := by decide +kernel
theorem dL_holds_145 : decode cL_holds 145 = .ok (.invokevirtual 18, 3) := by decide +kernel
theorem dL_holds_148 : decode cL_holds 148 = .ok (.iadd, 1) := by decide +kernel
theorem dL_holds_149 : decode cL_holds 149 = .ok (.istore_n 1, 1) := by decide +kernel
theorem dL_holds_150 : decode cL_holds 150 = .ok (.iload_n 2, 1) := by decide +kernel
theorem dL_holds_151 : decode cL_holds 151 = .ok (.iload 6, 2) := by decide +kernel
theorem dL_holds_153 : decode cL_holds 153 = .ok (.ifCond .eq 7, 3) := by decide +kernel
theorem dL_holds_156 : decode cL_holds 156 = .ok (.iconst 1, 1) := by decide +kernel
theorem dL_holds_157 : decode cL_holds 157 = .ok (.goto 4, 3) := by decide +kernel
theorem dL_holds_160 : decode cL_holds 160 = .ok (.iconst 0, 1) := by decide +kernel
theorem dL_holds_161 : decode cL_holds 161 = .ok (.iadd, 1) := by decide +kernel
theorem dL_holds_162 : decode cL_holds 162 = .ok (.istore_n 2, 1) := by decide +kernel
theorem dL_holds_163 : decode cL_holds 163 = .ok (.iload_n 3, 1) := by decide +kernel
theorem dL_holds_164 : decode cL_holds 164 = .ok (.aload_n 0, 1) := by decide +kernel
theorem dL_holds_165 : decode cL_holds 165 = .ok (.iload 4, 2) := by decide +kernel
theorem dL_holds_167 : decode cL_holds 167 = .ok (.bipush 7, 2) := by decide +kernel
theorem dL_holds_169 : decode cL_holds 169 = .ok (.invokevirtual 18, 3) := by decide +kernel
theorem dL_holds_172 : decode cL_holds 172 = .ok (.iadd, 1) := by decide +kernel
theorem dL_holds_173 : decode cL_holds 173 = .ok (.istore_n 3, 1) := by decide +kernel
theorem dL_holds_174 : decode cL_holds 174 = .ok (.iinc 4 1, 3) := by decide +kernel
theorem dL_holds_177 : decode cL_holds 177 = .ok (.goto (-168), 3) := by decide +kernel
theorem dL_holds_180 : decode cL_holds 180 = .ok (.iload_n 1, 1) := by decide +kernel
theorem dL_holds_181 : decode cL_holds 181 = .ok (.aload_n 0, 1) := by decide +kernel
theorem dL_holds_182 : decode cL_holds 182 = .ok (.bipush 8, 2) := by decide +kernel
theorem dL_holds_184 : decode cL_holds 184 = .ok (.invokevirtual 12, 3) := by decide +kernel
theorem dL_holds_187 : decode cL_holds 187 = .ok (.if_icmp .ne 49, 3) := by decide +kernel
theorem dL_holds_190 : decode cL_holds 190 = .ok (.iload_n 2, 1) := by decide +kernel
theorem dL_holds_191 : decode cL_holds 191 = .ok (.aload_n 0, 1) := by decide +kernel
theorem dL_holds_192 : decode cL_holds 192 = .ok (.bipush 9, 2) := by decide +kernel
theorem dL_holds_194 : decode cL_holds 194 = .ok (.invokevirtual 12, 3) := by decide +kernel
theorem dL_holds_197 : decode cL_holds 197 = .ok (.if_icmp .ne 39, 3) := by decide +kernel
theorem dL_holds_200 : decode cL_holds 200 = .ok (.iload_n 3, 1) := by decide +kernel
theorem dL_holds_201 : decode cL_holds 201 = .ok (.aload_n 0, 1) := by decide +kernel
theorem dL_holds_202 : decode cL_holds 202 = .ok (.bipush 10, 2) := by decide +kernel
theorem dL_holds_204 : decode cL_holds 204 = .ok (.invokevirtual 12, 3) := by decide +kernel
theorem dL_holds_207 : decode cL_holds 207 = .ok (.if_icmp .ne 29, 3) := by decide +kernel
theorem dL_holds_210 : decode cL_holds 210 = .ok (.aload_n 0, 1) := by decide +kernel
theorem dL_holds_211 : decode cL_holds 211 = .ok (.iconst 1, 1) := by decide +kernel
theorem dL_holds_212 : decode cL_holds 212 = .ok (.invokevirtual 12, 3) := by decide +kernel
theorem dL_holds_215 : decode cL_holds 215 = .ok (.ifCond .lt 21, 3) := by decide +kernel
theorem dL_holds_218 : decode cL_holds 218 = .ok (.aload_n 0, 1) := by decide +kernel
theorem dL_holds_219 : decode cL_holds 219 = .ok (.iconst 1, 1) := by decide +kernel
theorem dL_holds_220 : decode cL_holds 220 = .ok (.invokevirtual 12, 3) := by decide +kernel
theorem dL_holds_223 : decode cL_holds 223 = .ok (.aload_n 0, 1) := by decide +kernel
theorem dL_holds_224 : decode cL_holds 224 = .ok (.bipush 11, 2) := by decide +kernel
theorem dL_holds_226 : decode cL_holds 226 = .ok (.invokevirtual 12, 3) := by decide +kernel
theorem dL_holds_229 : decode cL_holds 229 = .ok (.if_icmp .gt 7, 3) := by decide +kernel
theorem dL_holds_232 : decode cL_holds 232 = .ok (.iconst 1, 1) := by decide +kernel
theorem dL_holds_233 : decode cL_holds 233 = .ok (.goto 4, 3) := by decide +kernel
theorem dL_holds_236 : decode cL_holds 236 = .ok (.iconst 0, 1) := by decide +kernel
theorem dL_holds_237 : decode cL_holds 237 = .ok (.ireturn, 1) := by decide +kernel
theorem dL_isWhole_0 : decode cL_isWhole 0 = .ok (.aload_n 0, 1) := by decide +kernel
theorem dL_isWhole_1 : decode cL_isWhole 1 = .ok (.iconst 0, 1) := by decide +kernel
theorem dL_isWhole_2 : decode cL_isWhole 2 = .ok (.invokevirtual 12, 3) := by decide +kernel
theorem dL_isWhole_5 : decode cL_isWhole 5 = .ok (.iload_n 1, 1) := by decide +kernel
theorem dL_isWhole_6 : decode cL_isWhole 6 = .ok (.iadd, 1) := by decide +kernel
theorem dL_isWhole_7 : decode cL_isWhole 7 = .ok (.iload_n 2, 1) := by decide +kernel
theorem dL_isWhole_8 : decode cL_isWhole 8 = .ok (.iadd, 1) := by decide +kernel
theorem dL_isWhole_9 : decode cL_isWhole 9 = .ok (.ldc 68, 2) := by decide +kernel
theorem dL_isWhole_11 : decode cL_isWhole 11 = .ok (.if_icmp .le 5, 3) := by decide +kernel
theorem dL_isWhole_14 : decode cL_isWhole 14 = .ok (.iconst 1, 1) := by decide +kernel
theorem dL_isWhole_15 : decode cL_isWhole 15 = .ok (.ireturn, 1) := by decide +kernel
theorem dL_isWhole_16 : decode cL_isWhole 16 = .ok (.lconst 0, 1) := by decide +kernel
theorem dL_isWhole_17 : decode cL_isWhole 17 = .ok (.lstore_n 3, 1) := by decide +kernel
theorem dL_isWhole_18 : decode cL_isWhole 18 = .ok (.aload_n 0, 1) := by decide +kernel
theorem dL_isWhole_19 : decode cL_isWhole 19 = .ok (.iload_n 1, 1) := by decide +kernel
theorem dL_isWhole_20 : decode cL_isWhole 20 = .ok (.invokevirtual 65, 3) := by decide +kernel
theorem dL_isWhole_23 : decode cL_isWhole 23 = .ok (.aload_n 0, 1) := by decide +kernel
theorem dL_isWhole_24 : decode cL_isWhole 24 = .ok (.iload_n 2, 1) := by decide +kernel
theorem dL_isWhole_25 : decode cL_isWhole 25 = .ok (.invokevirtual 65, 3) := by decide +kernel
theorem dL_isWhole_28 : decode cL_isWhole 28 = .ok (.iadd, 1) := by decide +kernel
theorem dL_isWhole_29 : decode cL_isWhole 29 = .ok (.istore 5, 2) := by decide +kernel
theorem dL_isWhole_31 : decode cL_isWhole 31 = .ok (.aload_n 0, 1) := by decide +kernel
theorem dL_isWhole_32 : decode cL_isWhole 32 = .ok (.invokestatic 69, 3) := by decide +kernel
theorem dL_isWhole_35 : decode cL_isWhole 35 = .ok (.lstore 6, 2) := by decide +kernel
theorem dL_isWhole_37 : decode cL_isWhole 37 = .ok (.aload_n 0, 1) := by decide +kernel
theorem dL_isWhole_38 : decode cL_isWhole 38 = .ok (.invokevirtual 73, 3) := by decide +kernel
theorem dL_isWhole_41 : decode cL_isWhole 41 = .ok (.pop, 1) := by decide +kernel
theorem dL_isWhole_42 : decode cL_isWhole 42 = .ok (.aload_n 0, 1) := by decide +kernel
theorem dL_isWhole_43 : decode cL_isWhole 43 = .ok (.invokevirtual 73, 3) := by decide +kernel
theorem dL_isWhole_46 : decode cL_isWhole 46 = .ok (.pop, 1) := by decide +kernel
theorem dL_isWhole_47 : decode cL_isWhole 47 = .ok (.aload_n 0, 1) := by decide +kernel
theorem dL_isWhole_48 : decode cL_isWhole 48 = .ok (.invokestatic 69, 3) := by decide +kernel
theorem dL_isWhole_51 : decode cL_isWhole 51 = .ok (.lstore_n 3, 1) := by decide +kernel
theorem dL_isWhole_52 : decode cL_isWhole 52 = .ok (.aload_n 0, 1) := by decide +kernel
theorem dL_isWhole_53 : decode cL_isWhole 53 = .ok (.iload_n 1, 1) := by decide +kernel
theorem dL_isWhole_54 : decode cL_isWhole 54 = .ok (.iload_n 2, 1) := by decide +kernel
theorem dL_isWhole_55 : decode cL_isWhole 55 = .ok (.iadd, 1) := by decide +kernel
theorem dL_isWhole_56 : decode cL_isWhole 56 = .ok (.invokevirtual 65, 3) := by decide +kernel
theorem dL_isWhole_59 : decode cL_isWhole 59 = .ok (.iload 5, 2) := by decide +kernel
theorem dL_isWhole_61 : decode cL_isWhole 61 = .ok (.if_icmp .ne 17, 3) := by decide +kernel
theorem dL_isWhole_64 : decode cL_isWhole 64 = .ok (.aload_n 0, 1) := by decide +kernel
theorem dL_isWhole_65 : decode cL_isWhole 65 = .ok (.invokestatic 69, 3) := by decide +kernel
theorem dL_isWhole_68 : decode cL_isWhole 68 = .ok (.lload 6, 2) := by decide +kernel
theorem dL_isWhole_70 : decode cL_isWhole 70 = .ok (.lcmp, 1) := by decide +kernel
theorem dL_isWhole_71 : decode cL_isWhole 71 = .ok (.ifCond .ne 7, 3) := by decide +kernel
theorem dL_isWhole_74 : decode cL_isWhole 74 = .ok (.iconst 1, 1) := by decide +kernel
theorem dL_isWhole_75 : decode cL_isWhole 75 = .ok (.goto 4, 3) := by decide +kernel
theorem dL_isWhole_78 : decode cL_isWhole 78 = .ok (.iconst 0, 1) := by decide +kernel
theorem dL_isWhole_79 : decode cL_isWhole 79 = .ok (.istore 8, 2) := by decide +kernel
theorem dL_isWhole_81 : decode cL_isWhole 81 = .ok (.aload_n 0, 1) := by decide +kernel
theorem dL_isWhole_82 : decode cL_isWhole 82 = .ok (.invokevirtual 73, 3) := by decide +kernel
theorem dL_isWhole_85 : decode cL_isWhole 85 = .ok (.pop, 1) := by decide +kernel
theorem dL_isWhole_86 : decode cL_isWhole 86 = .ok (.iload 8, 2) := by decide +kernel
theorem dL_isWhole_88 : decode cL_isWhole 88 = .ok (.ifCond .eq 16, 3) := by decide +kernel
theorem dL_isWhole_91 : decode cL_isWhole 91 = .ok (.aload_n 0, 1) := by decide +kernel
theorem dL_isWhole_92 : decode cL_isWhole 92 = .ok (.invokestatic 69, 3) := by decide +kernel
theorem dL_isWhole_95 : decode cL_isWhole 95 = .ok (.lload_n 3, 1) := by decide +kernel
theorem dL_isWhole_96 : decode cL_isWhole 96 = .ok (.lcmp, 1) := by decide +kernel
theorem dL_isWhole_97 : decode cL_isWhole 97 = .ok (.ifCond .ne 7, 3) := by decide +kernel
theorem dL_isWhole_100 : decode cL_isWhole 100 = .ok (.iconst 1, 1) := by decide +kernel
theorem dL_isWhole_101 : decode cL_isWhole 101 = .ok (.goto 4, 3) := by decide +kernel
theorem dL_isWhole_104 : decode cL_isWhole 104 = .ok (.iconst 0, 1) := by decide +kernel
theorem dL_isWhole_105 : decode cL_isWhole 105 = .ok (.ireturn, 1) := by decide +kernel
theorem dL_law_0 : decode cL_law 0 = .ok (.new 13, 3) := by decide +kernel
theorem dL_law_3 : decode cL_law 3 = .ok (.dup, 1) := by decide +kernel
theorem dL_law_4 : decode cL_law 4 = .ok (.invokespecial 76, 3) := by decide +kernel
theorem dL_law_7 : decode cL_law 7 = .ok (.astore_n 1, 1) := by decide +kernel
theorem dL_law_8 : decode cL_law 8 = .ok (.aload_n 1, 1) := by decide +kernel
theorem dL_law_9 : decode cL_law 9 = .ok (.invokevirtual 73, 3) := by decide +kernel
theorem dL_law_12 : decode cL_law 12 = .ok (.bipush (-5), 2) := by decide +kernel
theorem dL_law_14 : decode cL_law 14 = .ok (.if_icmp .ne 12, 3) := by decide +kernel
theorem dL_law_17 : decode cL_law 17 = .ok (.aload_n 1, 1) := by decide +kernel
theorem dL_law_18 : decode cL_law 18 = .ok (.invokevirtual 61, 3) := by decide +kernel
theorem dL_law_21 : decode cL_law 21 = .ok (.bipush (-5), 2) := by decide +kernel
theorem dL_law_23 : decode cL_law 23 = .ok (.if_icmp .eq 5, 3) := by decide +kernel
theorem dL_law_26 : decode cL_law 26 = .ok (.iconst 0, 1) := by decide +kernel
theorem dL_law_27 : decode cL_law 27 = .ok (.ireturn, 1) := by decide +kernel
theorem dL_law_28 : decode cL_law 28 = .ok (.aload_n 1, 1) := by decide +kernel
theorem dL_law_29 : decode cL_law 29 = .ok (.invokevirtual 77, 3) := by decide +kernel
theorem dL_law_32 : decode cL_law 32 = .ok (.pop, 1) := by decide +kernel
theorem dL_law_33 : decode cL_law 33 = .ok (.aload_n 1, 1) := by decide +kernel
theorem dL_law_34 : decode cL_law 34 = .ok (.invokestatic 69, 3) := by decide +kernel
theorem dL_law_37 : decode cL_law 37 = .ok (.lstore_n 2, 1) := by decide +kernel
theorem dL_law_38 : decode cL_law 38 = .ok (.iconst 0, 1) := by decide +kernel
theorem dL_law_39 : decode cL_law 39 = .ok (.istore 4, 2) := by decide +kernel
theorem dL_law_41 : decode cL_law 41 = .ok (.iload 4, 2) := by decide +kernel
theorem dL_law_43 : decode cL_law 43 = .ok (.bipush 30, 2) := by decide +kernel
theorem dL_law_45 : decode cL_law 45 = .ok (.if_icmp .ge 294, 3) := by decide +kernel
theorem dL_law_48 : decode cL_law 48 = .ok (.aload_n 0, 1) := by decide +kernel
theorem dL_law_49 : decode cL_law 49 = .ok (.iconst 2, 1) := by decide +kernel
theorem dL_law_50 : decode cL_law 50 = .ok (.iload 4, 2) := by decide +kernel
theorem dL_law_52 : decode cL_law 52 = .ok (.imul, 1) := by decide +kernel
theorem dL_law_53 : decode cL_law 53 = .ok (.invokestatic 80, 3) := by decide +kernel
theorem dL_law_56 : decode cL_law 56 = .ok (.istore 5, 2) := by decide +kernel
theorem dL_law_58 : decode cL_law 58 = .ok (.aload_n 0, 1) := by decide +kernel
theorem dL_law_59 : decode cL_law 59 = .ok (.iconst 2, 1) := by decide +kernel
theorem dL_law_60 : decode cL_law 60 = .ok (.iload 4, 2) := by decide +kernel
theorem dL_law_62 : decode cL_law 62 = .ok (.imul, 1) := by decide +kernel
theorem dL_law_63 : decode cL_law 63 = .ok (.iconst 1, 1) := by decide +kernel
theorem dL_law_64 : decode cL_law 64 = .ok (.iadd, 1) := by decide +kernel
theorem dL_law_65 : decode cL_law 65 = .ok (.invokestatic 80, 3) := by decide +kernel
theorem dL_law_68 : decode cL_law 68 = .ok (.istore 6, 2) := by decide +kernel
theorem dL_law_70 : decode cL_law 70 = .ok (.aload_n 1, 1) := by decide +kernel
theorem dL_law_71 : decode cL_law 71 = .ok (.invokestatic 69, 3) := by decide +kernel
theorem dL_law_74 : decode cL_law 74 = .ok (.lstore 7, 2) := by decide +kernel
theorem dL_law_76 : decode cL_law 76 = .ok (.aload_n 1, 1) := by decide +kernel
theorem dL_law_77 : decode cL_law 77 = .ok (.bipush 13, 2) := by decide +kernel
theorem dL_law_79 : decode cL_law 79 = .ok (.invokevirtual 12, 3) := by decide +kernel
theorem dL_law_82 : decode cL_law 82 = .ok (.istore 9, 2) := by decide +kernel
theorem dL_law_84 : decode cL_law 84 = .ok (.aload_n 1, 1) := by decide +kernel
theorem dL_law_85 : decode cL_law 85 = .ok (.iload 5, 2) := by decide +kernel
theorem dL_law_87 : decode cL_law 87 = .ok (.iload 6, 2) := by decide +kernel
theorem dL_law_89 : decode cL_law 89 = .ok (.invokestatic 84, 3) := by decide +kernel
theorem dL_law_92 : decode cL_law 92 = .ok (.istore 10, 2) := by decide +kernel
theorem dL_law_94 : decode cL_law 94 = .ok (.aload_n 1, 1) := by decide +kernel
theorem dL_law_95 : decode cL_law 95 = .ok (.invokestatic 69, 3) := by decide +kernel
theorem dL_law_98 : decode cL_law 98 = .ok (.lstore 11, 2) := by decide +kernel
theorem dL_law_100 : decode cL_law 100 = .ok (.iload 10, 2) := by decide +kernel
theorem dL_law_102 : decode cL_law 102 = .ok (.ifCond .ge 25, 3) := by decide +kernel
theorem dL_law_105 : decode cL_law 105 = .ok (.lload 11, 2) := by decide +kernel
theorem dL_law_107 : decode cL_law 107 = .ok (.lload 7, 2) := by decide +kernel
theorem dL_law_109 : decode cL_law 109 = .ok (.lcmp, 1) := by decide +kernel
theorem dL_law_110 : decode cL_law 110 = .ok (.ifCond .ne 40, 3) := by decide +kernel
theorem dL_law_113 : decode cL_law 113 = .ok (.aload_n 1, 1) := by decide +kernel
theorem dL_law_114 : decode cL_law 114 = .ok (.bipush 13, 2) := by decide +kernel
