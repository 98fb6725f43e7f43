theorem dJ0_charAt_5068e_0 : decode cJ0_charAt_5068e 0 = .ok (.aload_n 0, 1) := by decide +kernel
theorem dJ0_charAt_5068e_1 : decode cJ0_charAt_5068e 1 = .ok (.invokevirtual 492, 3) := by decide +kernel
theorem dJ0_charAt_5068e_4 : decode cJ0_charAt_5068e 4 = .ok (.ifCond .eq 12, 3) := by decide +kernel
theorem dJ0_charAt_5068e_7 : decode cJ0_charAt_5068e 7 = .ok (.aload_n 0, 1) := by decide +kernel
theorem dJ0_charAt_5068e_8 : decode cJ0_charAt_5068e 8 = .ok (.getfield 9, 3) := by decide +kernel
theorem dJ0_charAt_5068e_11 : decode cJ0_charAt_5068e 11 = .ok (.iload_n 1, 1) := by decide +kernel
theorem dJ0_charAt_5068e_12 : decode cJ0_charAt_5068e 12 = .ok (.invokestatic 495, 3) := by decide +kernel
theorem dJ0_charAt_5068e_15 : decode cJ0_charAt_5068e 15 = .ok (.ireturn, 1) := by decide +kernel
theorem dJ0_charAt_5068e_16 : decode cJ0_charAt_5068e 16 = .ok (.aload_n 0, 1) := by decide +kernel
theorem dJ0_charAt_5068e_17 : decode cJ0_charAt_5068e 17 = .ok (.getfield 9, 3) := by decide +kernel
theorem dJ0_charAt_5068e_20 : decode cJ0_charAt_5068e 20 = .ok (.iload_n 1, 1) := by decide +kernel
theorem dJ0_charAt_5068e_21 : decode cJ0_charAt_5068e 21 = .ok (.invokestatic 498, 3) := by decide +kernel
theorem dJ0_charAt_5068e_24 : decode cJ0_charAt_5068e 24 = .ok (.ireturn, 1) := by decide +kernel
theorem dJ0_checkIndex_df160_0 : decode cJ0_checkIndex_df160 0 = .ok (.iload_n 0, 1) := by decide +kernel
theorem dJ0_checkIndex_df160_1 : decode cJ0_checkIndex_df160 1 = .ok (.iload_n 1, 1) := by decide +kernel
theorem dJ0_checkIndex_df160_2 : decode cJ0_checkIndex_df160 2 = .ok (.getstatic 1053, 3) := by decide +kernel
theorem dJ0_checkIndex_df160_5 : decode cJ0_checkIndex_df160 5 = .ok (.invokestatic 1059, 3) := by decide +kernel
theorem dJ0_checkIndex_df160_8 : decode cJ0_checkIndex_df160 8 = .ok (.pop, 1) := by decide +kernel
theorem dJ0_checkIndex_df160_9 : decode cJ0_checkIndex_df160 9 = .ok (.return_, 1) := by decide +kernel
theorem dJ0_coder_7d493_0 : decode cJ0_coder_7d493 0 = .ok (.getstatic 38, 3) := by decide +kernel
theorem dJ0_coder_7d493_3 : decode cJ0_coder_7d493 3 = .ok (.ifCond .eq 10, 3) := by decide +kernel
theorem dJ0_coder_7d493_6 : decode cJ0_coder_7d493 6 = .ok (.aload_n 0, 1) := by decide +kernel
theorem dJ0_coder_7d493_7 : decode cJ0_coder_7d493 7 = .ok (.getfield 15, 3) := by decide +kernel
theorem dJ0_coder_7d493_10 : decode cJ0_coder_7d493 10 = .ok (.goto 4, 3) := by decide +kernel
theorem dJ0_coder_7d493_13 : decode cJ0_coder_7d493 13 = .ok (.iconst 1, 1) := by decide +kernel
theorem dJ0_coder_7d493_14 : decode cJ0_coder_7d493 14 = .ok (.ireturn, 1) := by decide +kernel
theorem dJ0_isLatin1_aae02_0 : decode cJ0_isLatin1_aae02 0 = .ok (.getstatic 38, 3) := by decide +kernel
theorem dJ0_isLatin1_aae02_3 : decode cJ0_isLatin1_aae02 3 = .ok (.ifCond .eq 14, 3) := by decide +kernel
theorem dJ0_isLatin1_aae02_6 : decode cJ0_isLatin1_aae02 6 = .ok (.aload_n 0, 1) := by decide +kernel
theorem dJ0_isLatin1_aae02_7 : decode cJ0_isLatin1_aae02 7 = .ok (.getfield 15, 3) := by decide +kernel
theorem dJ0_isLatin1_aae02_10 : decode cJ0_isLatin1_aae02 10 = .ok (.ifCond .ne 7, 3) := by decide +kernel
theorem dJ0_isLatin1_aae02_13 : decode cJ0_isLatin1_aae02 13 = .ok (.iconst 1, 1) := by decide +kernel
theorem dJ0_isLatin1_aae02_14 : decode cJ0_isLatin1_aae02 14 = .ok (.goto 4, 3) := by decide +kernel
theorem dJ0_isLatin1_aae02_17 : decode cJ0_isLatin1_aae02 17 = .ok (.iconst 0, 1) := by decide +kernel
theorem dJ0_isLatin1_aae02_18 : decode cJ0_isLatin1_aae02 18 = .ok (.ireturn, 1) := by decide +kernel
theorem dJ0_length_8abf5_0 : decode cJ0_length_8abf5 0 = .ok (.aload_n 0, 1) := by decide +kernel
theorem dJ0_length_8abf5_1 : decode cJ0_length_8abf5 1 = .ok (.getfield 9, 3) := by decide +kernel
theorem dJ0_length_8abf5_4 : decode cJ0_length_8abf5 4 = .ok (.arraylength, 1) := by decide +kernel
theorem dJ0_length_8abf5_5 : decode cJ0_length_8abf5 5 = .ok (.aload_n 0, 1) := by decide +kernel
theorem dJ0_length_8abf5_6 : decode cJ0_length_8abf5 6 = .ok (.invokevirtual 335, 3) := by decide +kernel
theorem dJ0_length_8abf5_9 : decode cJ0_length_8abf5 9 = .ok (.ishr, 1) := by decide +kernel
theorem dJ0_length_8abf5_10 : decode cJ0_length_8abf5 10 = .ok (.ireturn, 1) := by decide +kernel
theorem dJ1_charAt_3b067_0 : decode cJ1_charAt_3b067 0 = .ok (.iload_n 1, 1) := by decide +kernel
theorem dJ1_charAt_3b067_1 : decode cJ1_charAt_3b067 1 = .ok (.aload_n 0, 1) := by decide +kernel
theorem dJ1_charAt_3b067_2 : decode cJ1_charAt_3b067 2 = .ok (.arraylength, 1) := by decide +kernel
theorem dJ1_charAt_3b067_3 : decode cJ1_charAt_3b067 3 = .ok (.invokestatic 9, 3) := by decide +kernel
theorem dJ1_charAt_3b067_6 : decode cJ1_charAt_3b067 6 = .ok (.aload_n 0, 1) := by decide +kernel
theorem dJ1_charAt_3b067_7 : decode cJ1_charAt_3b067 7 = .ok (.iload_n 1, 1) := by decide +kernel
theorem dJ1_charAt_3b067_8 : decode cJ1_charAt_3b067 8 = .ok (.baload, 1) := by decide +kernel
theorem dJ1_charAt_3b067_9 : decode cJ1_charAt_3b067 9 = .ok (.sipush 255, 3) := by decide +kernel
theorem dJ1_charAt_3b067_12 : decode cJ1_charAt_3b067 12 = .ok (.iand, 1) := by decide +kernel
theorem dJ1_charAt_3b067_13 : decode cJ1_charAt_3b067 13 = .ok (.i2c, 1) := by decide +kernel
theorem dJ1_charAt_3b067_14 : decode cJ1_charAt_3b067 14 = .ok (.ireturn, 1) := by decide +kernel
theorem dJ3_checkIndex_8e157_0 : decode cJ3_checkIndex_8e157 0 = .ok (.iload_n 0, 1) := by decide +kernel
theorem dJ3_checkIndex_8e157_1 : decode cJ3_checkIndex_8e157 1 = .ok (.ifCond .lt 8, 3) := by decide +kernel
theorem dJ3_checkIndex_8e157_4 : decode cJ3_checkIndex_8e157 4 = .ok (.iload_n 0, 1) := by decide +kernel
theorem dJ3_checkIndex_8e157_5 : decode cJ3_checkIndex_8e157 5 = .ok (.iload_n 1, 1) := by decide +kernel
theorem dJ3_checkIndex_8e157_6 : decode cJ3_checkIndex_8e157 6 = .ok (.if_icmp .lt 10, 3) := by decide +kernel
theorem dJ3_checkIndex_8e157_9 : decode cJ3_checkIndex_8e157 9 = .ok (.aload_n 2, 1) := by decide +kernel
theorem dJ3_checkIndex_8e157_10 : decode cJ3_checkIndex_8e157 10 = .ok (.iload_n 0, 1) := by decide +kernel
theorem dJ3_checkIndex_8e157_11 : decode cJ3_checkIndex_8e157 11 = .ok (.iload_n 1, 1) := by decide +kernel
theorem dJ3_checkIndex_8e157_12 : decode cJ3_checkIndex_8e157 12 = .ok (.invokestatic 95, 3) := by decide +kernel
theorem dJ3_checkIndex_8e157_15 : decode cJ3_checkIndex_8e157 15 = .ok (.athrow, 1) := by decide +kernel
theorem dJ3_checkIndex_8e157_16 : decode cJ3_checkIndex_8e157 16 = .ok (.iload_n 0, 1) := by decide +kernel
theorem dJ3_checkIndex_8e157_17 : decode cJ3_checkIndex_8e157 17 = .ok (.ireturn, 1) := by decide +kernel
theorem dL_law_0 : decode cL_law 0 = .ok (.new 7, 3) := by decide +kernel
theorem dL_law_3 : decode cL_law 3 = .ok (.dup, 1) := by decide +kernel
theorem dL_law_4 : decode cL_law 4 = .ok (.invokespecial 9, 3) := by decide +kernel
theorem dL_law_7 : decode cL_law 7 = .ok (.astore_n 1, 1) := by decide +kernel
theorem dL_law_8 : decode cL_law 8 = .ok (.new 10, 3) := by decide +kernel
theorem dL_law_11 : decode cL_law 11 = .ok (.dup, 1) := by decide +kernel
theorem dL_law_12 : decode cL_law 12 = .ok (.invokespecial 12, 3) := by decide +kernel
theorem dL_law_15 : decode cL_law 15 = .ok (.astore_n 2, 1) := by decide +kernel
theorem dL_law_16 : decode cL_law 16 = .ok (.iconst 0, 1) := by decide +kernel
theorem dL_law_17 : decode cL_law 17 = .ok (.istore_n 3, 1) := by decide +kernel
theorem dL_law_18 : decode cL_law 18 = .ok (.iload_n 3, 1) := by decide +kernel
theorem dL_law_19 : decode cL_law 19 = .ok (.aload_n 0, 1) := by decide +kernel
theorem dL_law_20 : decode cL_law 20 = .ok (.arraylength, 1) := by decide +kernel
theorem dL_law_21 : decode cL_law 21 = .ok (.iconst 4, 1) := by decide +kernel
theorem dL_law_22 : decode cL_law 22 = .ok (.isub, 1) := by decide +kernel
theorem dL_law_23 : decode cL_law 23 = .ok (.if_icmp .gt 223, 3) := by decide +kernel
theorem dL_law_26 : decode cL_law 26 = .ok (.aload_n 0, 1) := by decide +kernel
theorem dL_law_27 : decode cL_law 27 = .ok (.iload_n 3, 1) := by decide +kernel
theorem dL_law_28 : decode cL_law 28 = .ok (.iaload, 1) := by decide +kernel
theorem dL_law_29 : decode cL_law 29 = .ok (.bipush 7, 2) := by decide +kernel
theorem dL_law_31 : decode cL_law 31 = .ok (.iand, 1) := by decide +kernel
theorem dL_law_32 : decode cL_law 32 = .ok (.tableswitch 208 0 5 #[40, 103, 116, 129, 162, 185], 40) := by decide +kernel
theorem dL_law_72 : decode cL_law 72 = .ok (.aload_n 1, 1) := by decide +kernel
theorem dL_law_73 : decode cL_law 73 = .ok (.aload_n 0, 1) := by decide +kernel
theorem dL_law_74 : decode cL_law 74 = .ok (.iload_n 3, 1) := by decide +kernel
theorem dL_law_75 : decode cL_law 75 = .ok (.iconst 1, 1) := by decide +kernel
theorem dL_law_76 : decode cL_law 76 = .ok (.iadd, 1) := by decide +kernel
theorem dL_law_77 : decode cL_law 77 = .ok (.iaload, 1) := by decide +kernel
theorem dL_law_78 : decode cL_law 78 = .ok (.i2l, 1) := by decide +kernel
theorem dL_law_79 : decode cL_law 79 = .ok (.bipush 32, 2) := by decide +kernel
theorem dL_law_81 : decode cL_law 81 = .ok (.lshl, 1) := by decide +kernel
theorem dL_law_82 : decode cL_law 82 = .ok (.aload_n 0, 1) := by decide +kernel
theorem dL_law_83 : decode cL_law 83 = .ok (.iload_n 3, 1) := by decide +kernel
theorem dL_law_84 : decode cL_law 84 = .ok (.iconst 2, 1) := by decide +kernel
theorem dL_law_85 : decode cL_law 85 = .ok (.iadd, 1) := by decide +kernel
theorem dL_law_86 : decode cL_law 86 = .ok (.iaload, 1) := by decide +kernel
theorem dL_law_87 : decode cL_law 87 = .ok (.i2l, 1) := by decide +kernel
theorem dL_law_88 : decode cL_law 88 = .ok (.ldc2_w 13, 3) := by decide +kernel
theorem dL_law_91 : decode cL_law 91 = .ok (.land, 1) := by decide +kernel
theorem dL_law_92 : decode cL_law 92 = .ok (.lor, 1) := by decide +kernel
theorem dL_law_93 : decode cL_law 93 = .ok (.aload_n 0, 1) := by decide +kernel
theorem dL_law_94 : decode cL_law 94 = .ok (.iload_n 3, 1) := by decide +kernel
theorem dL_law_95 : decode cL_law 95 = .ok (.iconst 3, 1) := by decide +kernel
theorem dL_law_96 : decode cL_law 96 = .ok (.iadd, 1) := by decide +kernel
theorem dL_law_97 : decode cL_law 97 = .ok (.iaload, 1) := by decide +kernel
theorem dL_law_98 : decode cL_law 98 = .ok (.invokevirtual 15, 3) := by decide +kernel
theorem dL_law_101 : decode cL_law 101 = .ok (.pop, 1) := by decide +kernel
theorem dL_law_102 : decode cL_law 102 = .ok (.aload_n 2, 1) := by decide +kernel
theorem dL_law_103 : decode cL_law 103 = .ok (.aload_n 0, 1) := by decide +kernel
theorem dL_law_104 : decode cL_law 104 = .ok (.iload_n 3, 1) := by decide +kernel
theorem dL_law_105 : decode cL_law 105 = .ok (.iconst 1, 1) := by decide +kernel
theorem dL_law_106 : decode cL_law 106 = .ok (.iadd, 1) := by decide +kernel
theorem dL_law_107 : decode cL_law 107 = .ok (.iaload, 1) := by decide +kernel
theorem dL_law_108 : decode cL_law 108 = .ok (.i2l, 1) := by decide +kernel
theorem dL_law_109 : decode cL_law 109 = .ok (.bipush 32, 2) := by decide +kernel
theorem dL_law_111 : decode cL_law 111 = .ok (.lshl, 1) := by decide +kernel
theorem dL_law_112 : decode cL_law 112 = .ok (.aload_n 0, 1) := by decide +kernel
theorem dL_law_113 : decode cL_law 113 = .ok (.iload_n 3, 1) := by decide +kernel
theorem dL_law_114 : decode cL_law 114 = .ok (.iconst 2, 1) := by decide +kernel
theorem dL_law_115 : decode cL_law 115 = .ok (.iadd, 1) := by decide +kernel
theorem dL_law_116 : decode cL_law 116 = .ok (.iaload, 1) := by decide +kernel
theorem dL_law_117 : decode cL_law 117 = .ok (.i2l, 1) := by decide +kernel
theorem dL_law_118 : decode cL_law 118 = .ok (.ldc2_w 13, 3) := by decide +kernel
theorem dL_law_121 : decode cL_law 121 = .ok (.land, 1) := by decide +kernel
theorem dL_law_122 : decode cL_law 122 = .ok (.lor, 1) := by decide +kernel
theorem dL_law_123 : decode cL_law 123 = .ok (.aload_n 0, 1) := by decide +kernel
theorem dL_law_124 : decode cL_law 124 = .ok (.iload_n 3, 1) := by decide +kernel
theorem dL_law_125 : decode cL_law 125 = .ok (.iconst 3, 1) := by decide +kernel
theorem dL_law_126 : decode cL_law 126 = .ok (.iadd, 1) := by decide +kernel
theorem dL_law_127 : decode cL_law 127 = .ok (.iaload, 1) := by decide +kernel
theorem dL_law_128 : decode cL_law 128 = .ok (.invokevirtual 19, 3) := by decide +kernel
theorem dL_law_131 : decode cL_law 131 = .ok (.pop, 1) := by decide +kernel
theorem dL_law_132 : decode cL_law 132 = .ok (.goto 108, 3) := by decide +kernel
theorem dL_law_135 : decode cL_law 135 = .ok (.aload_n 1, 1) := by decide +kernel
theorem dL_law_136 : decode cL_law 136 = .ok (.invokevirtual 20, 3) := by decide +kernel
theorem dL_law_139 : decode cL_law 139 = .ok (.pop, 1) := by decide +kernel
theorem dL_law_140 : decode cL_law 140 = .ok (.aload_n 2, 1) := by decide +kernel
theorem dL_law_141 : decode cL_law 141 = .ok (.invokevirtual 24, 3) := by decide +kernel
theorem dL_law_144 : decode cL_law 144 = .ok (.pop, 1) := by decide +kernel
theorem dL_law_145 : decode cL_law 145 = .ok (.goto 95, 3) := by decide +kernel
theorem dL_law_148 : decode cL_law 148 = .ok (.aload_n 1, 1) := by decide +kernel
theorem dL_law_149 : decode cL_law 149 = .ok (.invokevirtual 25, 3) := by decide +kernel
theorem dL_law_152 : decode cL_law 152 = .ok (.pop, 1) := by decide +kernel
theorem dL_law_153 : decode cL_law 153 = .ok (.aload_n 2, 1) := by decide +kernel
theorem dL_law_154 : decode cL_law 154 = .ok (.invokevirtual 28, 3) := by decide +kernel
theorem dL_law_157 : decode cL_law 157 = .ok (.pop, 1) := by decide +kernel
theorem dL_law_158 : decode cL_law 158 = .ok (.goto 82, 3) := by decide +kernel
theorem dL_law_161 : decode cL_law 161 = .ok (.aload_n 1, 1) := by decide +kernel
theorem dL_law_162 : decode cL_law 162 = .ok (.aload_n 0, 1) := by decide +kernel
theorem dL_law_163 : decode cL_law 163 = .ok (.iload_n 3, 1) := by decide +kernel
theorem dL_law_164 : decode cL_law 164 = .ok (.iconst 1, 1) := by decide +kernel
theorem dL_law_165 : decode cL_law 165 = .ok (.iadd, 1) := by decide +kernel
theorem dL_law_166 : decode cL_law 166 = .ok (.iaload, 1) := by decide +kernel
theorem dL_law_167 : decode cL_law 167 = .ok (.aload_n 0, 1) := by decide +kernel
theorem dL_law_168 : decode cL_law 168 = .ok (.iload_n 3, 1) := by decide +kernel
theorem dL_law_169 : decode cL_law 169 = .ok (.iconst 2, 1) := by decide +kernel
theorem dL_law_170 : decode cL_law 170 = .ok (.iadd, 1) := by decide +kernel
theorem dL_law_171 : decode cL_law 171 = .ok (.iaload, 1) := by decide +kernel
theorem dL_law_172 : decode cL_law 172 = .ok (.invokevirtual 29, 3) := by decide +kernel
theorem dL_law_175 : decode cL_law 175 = .ok (.pop, 1) := by decide +kernel
theorem dL_law_176 : decode cL_law 176 = .ok (.aload_n 2, 1) := by decide +kernel
theorem dL_law_177 : decode cL_law 177 = .ok (.aload_n 0, 1) := by decide +kernel
theorem dL_law_178 : decode cL_law 178 = .ok (.iload_n 3, 1) := by decide +kernel
theorem dL_law_179 : decode cL_law 179 = .ok (.iconst 1, 1) := by decide +kernel
theorem dL_law_180 : decode cL_law 180 = .ok (.iadd, 1) := by decide +kernel
theorem dL_law_181 : decode cL_law 181 = .ok (.iaload, 1) := by decide +kernel
theorem dL_law_182 : decode cL_law 182 = .ok (.aload_n 0, 1) := by decide +kernel
theorem dL_law_183 : decode cL_law 183 = .ok (.iload_n 3, 1) := by decide +kernel
theorem dL_law_184 : decode cL_law 184 = .ok (.iconst 2, 1) := by decide +kernel
theorem dL_law_185 : decode cL_law 185 = .ok (.iadd, 1) := by decide +kernel
theorem dL_law_186 : decode cL_law 186 = .ok (.iaload, 1) := by decide +kernel
theorem dL_law_187 : decode cL_law 187 = .ok (.invokevirtual 33, 3) := by decide +kernel
theorem dL_law_190 : decode cL_law 190 = .ok (.pop, 1) := by decide +kernel
theorem dL_law_191 : decode cL_law 191 = .ok (.goto 49, 3) := by decide +kernel
theorem dL_law_194 : decode cL_law 194 = .ok (.aload_n 1, 1) := by decide +kernel
theorem dL_law_195 : decode cL_law 195 = .ok (.aload_n 0, 1) := by decide +kernel
theorem dL_law_196 : decode cL_law 196 = .ok (.iload_n 3, 1) := by decide +kernel
theorem dL_law_197 : decode cL_law 197 = .ok (.iconst 1, 1) := by decide +kernel
theorem dL_law_198 : decode cL_law 198 = .ok (.iadd, 1) := by decide +kernel
theorem dL_law_199 : decode cL_law 199 = .ok (.iaload, 1) := by decide +kernel
theorem dL_law_200 : decode cL_law 200 = .ok (.invokevirtual 34, 3) := by decide +kernel
theorem dL_law_203 : decode cL_law 203 = .ok (.aload_n 2, 1) := by decide +kernel
theorem dL_law_204 : decode cL_law 204 = .ok (.aload_n 0, 1) := by decide +kernel
theorem dL_law_205 : decode cL_law 205 = .ok (.iload_n 3, 1) := by decide +kernel
theorem dL_law_206 : decode cL_law 206 = .ok (.iconst 1, 1) := by decide +kernel
theorem dL_law_207 : decode cL_law 207 = .ok (.iadd, 1) := by decide +kernel
theorem dL_law_208 : decode cL_law 208 = .ok (.iaload, 1) := by decide +kernel
theorem dL_law_209 : decode cL_law 209 = .ok (.invokevirtual 38, 3) := by decide +kernel
theorem dL_law_212 : decode cL_law 212 = .ok (.if_icmp .eq 28, 3) := by decide +kernel
theorem dL_law_215 : decode cL_law 215 = .ok (.iconst 0, 1) := by decide +kernel
theorem dL_law_216 : decode cL_law 216 = .ok (.ireturn, 1) := by decide +kernel
theorem dL_law_217 : decode cL_law 217 = .ok (.aload_n 1, 1) := by decide +kernel
theorem dL_law_218 : decode cL_law 218 = .ok (.aload_n 0, 1) := by decide +kernel
theorem dL_law_219 : decode cL_law 219 = .ok (.iload_n 3, 1) := by decide +kernel
theorem dL_law_220 : decode cL_law 220 = .ok (.iconst 1, 1) := by decide +kernel
theorem dL_law_221 : decode cL_law 221 = .ok (.iadd, 1) := by decide +kernel
theorem dL_law_222 : decode cL_law 222 = .ok (.iaload, 1) := by decide +kernel
theorem dL_law_223 : decode cL_law 223 = .ok (.invokevirtual 39, 3) := by decide +kernel
theorem dL_law_226 : decode cL_law 226 = .ok (.pop, 1) := by decide +kernel
theorem dL_law_227 : decode cL_law 227 = .ok (.aload_n 2, 1) := by decide +kernel
theorem dL_law_228 : decode cL_law 228 = .ok (.aload_n 0, 1) := by decide +kernel
theorem dL_law_229 : decode cL_law 229 = .ok (.iload_n 3, 1) := by decide +kernel
theorem dL_law_230 : decode cL_law 230 = .ok (.iconst 1, 1) := by decide +kernel
theorem dL_law_231 : decode cL_law 231 = .ok (.iadd, 1) := by decide +kernel
theorem dL_law_232 : decode cL_law 232 = .ok (.iaload, 1) := by decide +kernel
theorem dL_law_233 : decode cL_law 233 = .ok (.invokevirtual 42, 3) := by decide +kernel
theorem dL_law_236 : decode cL_law 236 = .ok (.pop, 1) := by decide +kernel
theorem dL_law_237 : decode cL_law 237 = .ok (.goto 3, 3) := by decide +kernel
theorem dL_law_240 : decode cL_law 240 = .ok (.iinc 3 4, 3) := by decide +kernel
theorem dL_law_243 : decode cL_law 243 = .ok (.goto (-225), 3) := by decide +kernel
theorem dL_law_246 : decode cL_law 246 = .ok (.iconst 1, 1) := by decide +kernel
theorem dL_law_247 : decode cL_law 247 = .ok (.ireturn, 1) := by decide +kernel
theorem dX0_begin_0 : decode cX0_begin 0 = .ok (.aload_n 0, 1) := by decide +kernel
theorem dX0_begin_1 : decode cX0_begin 1 = .ok (.getfield 9, 3) := by decide +kernel
theorem dX0_begin_4 : decode cX0_begin 4 = .ok (.astore_n 3, 1) := by decide +kernel
theorem dX0_begin_5 : decode cX0_begin 5 = .ok (.aload_n 0, 1) := by decide +kernel
theorem dX0_begin_6 : decode cX0_begin 6 = .ok (.aload_n 1, 1) := by decide +kernel
theorem dX0_begin_7 : decode cX0_begin 7 = .ok (.putfield 9, 3) := by decide +kernel
theorem dX0_begin_10 : decode cX0_begin 10 = .ok (.aload_n 0, 1) := by decide +kernel
theorem dX0_begin_11 : decode cX0_begin 11 = .ok (.iload_n 2, 1) := by decide +kernel
theorem dX0_begin_12 : decode cX0_begin 12 = .ok (.putfield 22, 3) := by decide +kernel
theorem dX0_begin_15 : decode cX0_begin 15 = .ok (.aload_n 0, 1) := by decide +kernel
theorem dX0_begin_16 : decode cX0_begin 16 = .ok (.iconst 0, 1) := by decide +kernel
theorem dX0_begin_17 : decode cX0_begin 17 = .ok (.putfield 25, 3) := by decide +kernel
theorem dX0_begin_20 : decode cX0_begin 20 = .ok (.aload_n 0, 1) := by decide +kernel
theorem dX0_begin_21 : decode cX0_begin 21 = .ok (.iconst 0, 1) := by decide +kernel
theorem dX0_begin_22 : decode cX0_begin 22 = .ok (.putfield 15, 3) := by decide +kernel
theorem dX0_begin_25 : decode cX0_begin 25 = .ok (.aload_n 0, 1) := by decide +kernel
theorem dX0_begin_26 : decode cX0_begin 26 = .ok (.iconst (-1), 1) := by decide +kernel
theorem dX0_begin_27 : decode cX0_begin 27 = .ok (.putfield 19, 3) := by decide +kernel
theorem dX0_begin_30 : decode cX0_begin 30 = .ok (.aload_n 3, 1) := by decide +kernel
theorem dX0_begin_31 : decode cX0_begin 31 = .ok (.areturn, 1) := by decide +kernel
theorem dX0_byteAt_0 : decode cX0_byteAt 0 = .ok (.iload_n 1, 1) := by decide +kernel
theorem dX0_byteAt_1 : decode cX0_byteAt 1 = .ok (.ifCond .lt 29, 3) := by decide +kernel
theorem dX0_byteAt_4 : decode cX0_byteAt 4 = .ok (.iload_n 1, 1) := by decide +kernel
theorem dX0_byteAt_5 : decode cX0_byteAt 5 = .ok (.aload_n 0, 1) := by decide +kernel
theorem dX0_byteAt_6 : decode cX0_byteAt 6 = .ok (.getfield 22, 3) := by decide +kernel
theorem dX0_byteAt_9 : decode cX0_byteAt 9 = .ok (.if_icmp .ge 21, 3) := by decide +kernel
theorem dX0_byteAt_12 : decode cX0_byteAt 12 = .ok (.iload_n 1, 1) := by decide +kernel
theorem dX0_byteAt_13 : decode cX0_byteAt 13 = .ok (.aload_n 0, 1) := by decide +kernel
theorem dX0_byteAt_14 : decode cX0_byteAt 14 = .ok (.getfield 9, 3) := by decide +kernel
theorem dX0_byteAt_17 : decode cX0_byteAt 17 = .ok (.arraylength, 1) := by decide +kernel
theorem dX0_byteAt_18 : decode cX0_byteAt 18 = .ok (.if_icmp .ge 12, 3) := by decide +kernel
theorem dX0_byteAt_21 : decode cX0_byteAt 21 = .ok (.aload_n 0, 1) := by decide +kernel
theorem dX0_byteAt_22 : decode cX0_byteAt 22 = .ok (.getfield 9, 3) := by decide +kernel
theorem dX0_byteAt_25 : decode cX0_byteAt 25 = .ok (.iload_n 1, 1) := by decide +kernel
theorem dX0_byteAt_26 : decode cX0_byteAt 26 = .ok (.iaload, 1) := by decide +kernel
theorem dX0_byteAt_27 : decode cX0_byteAt 27 = .ok (.goto 4, 3) := by decide +kernel
theorem dX0_byteAt_30 : decode cX0_byteAt 30 = .ok (.iconst (-1), 1) := by decide +kernel
theorem dX0_byteAt_31 : decode cX0_byteAt 31 = .ok (.ireturn, 1) := by decide +kernel
theorem dX0_expect_0 : decode cX0_expect 0 = .ok (.iconst 0, 1) := by decide +kernel
theorem dX0_expect_1 : decode cX0_expect 1 = .ok (.istore_n 2, 1) := by decide +kernel
theorem dX0_expect_2 : decode cX0_expect 2 = .ok (.iload_n 2, 1) := by decide +kernel
theorem dX0_expect_3 : decode cX0_expect 3 = .ok (.aload_n 1, 1) := by decide +kernel
theorem dX0_expect_4 : decode cX0_expect 4 = .ok (.invokevirtual 36, 3) := by decide +kernel
theorem dX0_expect_7 : decode cX0_expect 7 = .ok (.if_icmp .ge 36, 3) := by decide +kernel
theorem dX0_expect_10 : decode cX0_expect 10 = .ok (.aload_n 0, 1) := by decide +kernel
theorem dX0_expect_11 : decode cX0_expect 11 = .ok (.invokevirtual 49, 3) := by decide +kernel
theorem dX0_expect_14 : decode cX0_expect 14 = .ok (.aload_n 1, 1) := by decide +kernel
theorem dX0_expect_15 : decode cX0_expect 15 = .ok (.iload_n 2, 1) := by decide +kernel
theorem dX0_expect_16 : decode cX0_expect 16 = .ok (.invokevirtual 41, 3) := by decide +kernel
theorem dX0_expect_19 : decode cX0_expect 19 = .ok (.if_icmp .eq 8, 3) := by decide +kernel
theorem dX0_expect_22 : decode cX0_expect 22 = .ok (.aload_n 0, 1) := by decide +kernel
theorem dX0_expect_23 : decode cX0_expect 23 = .ok (.invokevirtual 52, 3) := by decide +kernel
theorem dX0_expect_26 : decode cX0_expect 26 = .ok (.ireturn, 1) := by decide +kernel
theorem dX0_expect_27 : decode cX0_expect 27 = .ok (.aload_n 0, 1) := by decide +kernel
theorem dX0_expect_28 : decode cX0_expect 28 = .ok (.dup, 1) := by decide +kernel
theorem dX0_expect_29 : decode cX0_expect 29 = .ok (.getfield 25, 3) := by decide +kernel
theorem dX0_expect_32 : decode cX0_expect 32 = .ok (.iconst 1, 1) := by decide +kernel
theorem dX0_expect_33 : decode cX0_expect 33 = .ok (.iadd, 1) := by decide +kernel
theorem dX0_expect_34 : decode cX0_expect 34 = .ok (.putfield 25, 3) := by decide +kernel
theorem dX0_expect_37 : decode cX0_expect 37 = .ok (.iinc 2 1, 3) := by decide +kernel
theorem dX0_expect_40 : decode cX0_expect 40 = .ok (.goto (-38), 3) := by decide +kernel
theorem dX0_expect_43 : decode cX0_expect 43 = .ok (.iconst 1, 1) := by decide +kernel
theorem dX0_expect_44 : decode cX0_expect 44 = .ok (.ireturn, 1) := by decide +kernel
theorem dX0_fail_0 : decode cX0_fail 0 = .ok (.aload_n 0, 1) := by decide +kernel
theorem dX0_fail_1 : decode cX0_fail 1 = .ok (.getfield 15, 3) := by decide +kernel
theorem dX0_fail_4 : decode cX0_fail 4 = .ok (.ifCond .ne 13, 3) := by decide +kernel
theorem dX0_fail_7 : decode cX0_fail 7 = .ok (.aload_n 0, 1) := by decide +kernel
theorem dX0_fail_8 : decode cX0_fail 8 = .ok (.iload_n 1, 1) := by decide +kernel
theorem dX0_fail_9 : decode cX0_fail 9 = .ok (.putfield 15, 3) := by decide +kernel
theorem dX0_fail_12 : decode cX0_fail 12 = .ok (.aload_n 0, 1) := by decide +kernel
theorem dX0_fail_13 : decode cX0_fail 13 = .ok (.iload_n 2, 1) := by decide +kernel
theorem dX0_fail_14 : decode cX0_fail 14 = .ok (.putfield 19, 3) := by decide +kernel
theorem dX0_fail_17 : decode cX0_fail 17 = .ok (.iconst 0, 1) := by decide +kernel
theorem dX0_fail_18 : decode cX0_fail 18 = .ok (.ireturn, 1) := by decide +kernel
theorem dX0_failHere_0 : decode cX0_failHere 0 = .ok (.aload_n 0, 1) := by decide +kernel
theorem dX0_failHere_1 : decode cX0_failHere 1 = .ok (.iconst 2, 1) := by decide +kernel
theorem dX0_failHere_2 : decode cX0_failHere 2 = .ok (.aload_n 0, 1) := by decide +kernel
theorem dX0_failHere_3 : decode cX0_failHere 3 = .ok (.getfield 25, 3) := by decide +kernel
theorem dX0_failHere_6 : decode cX0_failHere 6 = .ok (.invokevirtual 32, 3) := by decide +kernel
theorem dX0_failHere_9 : decode cX0_failHere 9 = .ok (.ireturn, 1) := by decide +kernel
theorem dX0_goesOn_0 : decode cX0_goesOn 0 = .ok (.aload_n 0, 1) := by decide +kernel
theorem dX0_goesOn_1 : decode cX0_goesOn 1 = .ok (.getfield 15, 3) := by decide +kernel
theorem dX0_goesOn_4 : decode cX0_goesOn 4 = .ok (.ifCond .ne 18, 3) := by decide +kernel
theorem dX0_goesOn_7 : decode cX0_goesOn 7 = .ok (.aload_n 0, 1) := by decide +kernel
theorem dX0_goesOn_8 : decode cX0_goesOn 8 = .ok (.getfield 25, 3) := by decide +kernel
theorem dX0_goesOn_11 : decode cX0_goesOn 11 = .ok (.aload_n 0, 1) := by decide +kernel
theorem dX0_goesOn_12 : decode cX0_goesOn 12 = .ok (.getfield 22, 3) := by decide +kernel
theorem dX0_goesOn_15 : decode cX0_goesOn 15 = .ok (.if_icmp .ge 7, 3) := by decide +kernel
theorem dX0_goesOn_18 : decode cX0_goesOn 18 = .ok (.iconst 1, 1) := by decide +kernel
theorem dX0_goesOn_19 : decode cX0_goesOn 19 = .ok (.goto 4, 3) := by decide +kernel
theorem dX0_goesOn_22 : decode cX0_goesOn 22 = .ok (.iconst 0, 1) := by decide +kernel
theorem dX0_goesOn_23 : decode cX0_goesOn 23 = .ok (.ireturn, 1) := by decide +kernel
theorem dX0_here_0 : decode cX0_here 0 = .ok (.aload_n 0, 1) := by decide +kernel
theorem dX0_here_1 : decode cX0_here 1 = .ok (.aload_n 0, 1) := by decide +kernel
theorem dX0_here_2 : decode cX0_here 2 = .ok (.getfield 25, 3) := by decide +kernel
theorem dX0_here_5 : decode cX0_here 5 = .ok (.invokevirtual 28, 3) := by decide +kernel
theorem dX0_here_8 : decode cX0_here 8 = .ok (.ireturn, 1) := by decide +kernel
theorem dX0_init_0 : decode cX0_init 0 = .ok (.aload_n 0, 1) := by decide +kernel
theorem dX0_init_1 : decode cX0_init 1 = .ok (.invokespecial 3, 3) := by decide +kernel
theorem dX0_init_4 : decode cX0_init 4 = .ok (.aload_n 0, 1) := by decide +kernel
theorem dX0_init_5 : decode cX0_init 5 = .ok (.sipush 500, 3) := by decide +kernel
theorem dX0_init_8 : decode cX0_init 8 = .ok (.newarray .int, 2) := by decide +kernel
theorem dX0_init_10 : decode cX0_init 10 = .ok (.putfield 9, 3) := by decide +kernel
theorem dX0_init_13 : decode cX0_init 13 = .ok (.aload_n 0, 1) := by decide +kernel
theorem dX0_init_14 : decode cX0_init 14 = .ok (.iconst 0, 1) := by decide +kernel
theorem dX0_init_15 : decode cX0_init 15 = .ok (.putfield 15, 3) := by decide +kernel
theorem dX0_init_18 : decode cX0_init 18 = .ok (.aload_n 0, 1) := by decide +kernel
theorem dX0_init_19 : decode cX0_init 19 = .ok (.iconst (-1), 1) := by decide +kernel
theorem dX0_init_20 : decode cX0_init 20 = .ok (.putfield 19, 3) := by decide +kernel
theorem dX0_init_23 : decode cX0_init 23 = .ok (.return_, 1) := by decide +kernel
theorem dX0_isWord_0 : decode cX0_isWord 0 = .ok (.iload_n 3, 1) := by decide +kernel
theorem dX0_isWord_1 : decode cX0_isWord 1 = .ok (.iload_n 2, 1) := by decide +kernel
theorem dX0_isWord_2 : decode cX0_isWord 2 = .ok (.isub, 1) := by decide +kernel
theorem dX0_isWord_3 : decode cX0_isWord 3 = .ok (.aload_n 1, 1) := by decide +kernel
theorem dX0_isWord_4 : decode cX0_isWord 4 = .ok (.invokevirtual 36, 3) := by decide +kernel
theorem dX0_isWord_7 : decode cX0_isWord 7 = .ok (.if_icmp .ne 16, 3) := by decide +kernel
theorem dX0_isWord_10 : decode cX0_isWord 10 = .ok (.aload_n 0, 1) := by decide +kernel
theorem dX0_isWord_11 : decode cX0_isWord 11 = .ok (.aload_n 1, 1) := by decide +kernel
theorem dX0_isWord_12 : decode cX0_isWord 12 = .ok (.iload_n 2, 1) := by decide +kernel
theorem dX0_isWord_13 : decode cX0_isWord 13 = .ok (.invokevirtual 45, 3) := by decide +kernel
theorem dX0_isWord_16 : decode cX0_isWord 16 = .ok (.ifCond .eq 7, 3) := by decide +kernel
theorem dX0_isWord_19 : decode cX0_isWord 19 = .ok (.iconst 1, 1) := by decide +kernel
theorem dX0_isWord_20 : decode cX0_isWord 20 = .ok (.goto 4, 3) := by decide +kernel
theorem dX0_isWord_23 : decode cX0_isWord 23 = .ok (.iconst 0, 1) := by decide +kernel
theorem dX0_isWord_24 : decode cX0_isWord 24 = .ok (.ireturn, 1) := by decide +kernel
theorem dX0_passBlanks_0 : decode cX0_passBlanks 0 = .ok (.aload_n 0, 1) := by decide +kernel
theorem dX0_passBlanks_1 : decode cX0_passBlanks 1 = .ok (.getfield 25, 3) := by decide +kernel
theorem dX0_passBlanks_4 : decode cX0_passBlanks 4 = .ok (.istore_n 1, 1) := by decide +kernel
theorem dX0_passBlanks_5 : decode cX0_passBlanks 5 = .ok (.aload_n 0, 1) := by decide +kernel
theorem dX0_passBlanks_6 : decode cX0_passBlanks 6 = .ok (.getfield 25, 3) := by decide +kernel
theorem dX0_passBlanks_9 : decode cX0_passBlanks 9 = .ok (.aload_n 0, 1) := by decide +kernel
theorem dX0_passBlanks_10 : decode cX0_passBlanks 10 = .ok (.getfield 22, 3) := by decide +kernel
theorem dX0_passBlanks_13 : decode cX0_passBlanks 13 = .ok (.if_icmp .ge 26, 3) := by decide +kernel
theorem dX0_passBlanks_16 : decode cX0_passBlanks 16 = .ok (.aload_n 0, 1) := by decide +kernel
theorem dX0_passBlanks_17 : decode cX0_passBlanks 17 = .ok (.invokevirtual 49, 3) := by decide +kernel
theorem dX0_passBlanks_20 : decode cX0_passBlanks 20 = .ok (.invokestatic 56, 3) := by decide +kernel
theorem dX0_passBlanks_23 : decode cX0_passBlanks 23 = .ok (.ifCond .eq 16, 3) := by decide +kernel
theorem dX0_passBlanks_26 : decode cX0_passBlanks 26 = .ok (.aload_n 0, 1) := by decide +kernel
theorem dX0_passBlanks_27 : decode cX0_passBlanks 27 = .ok (.dup, 1) := by decide +kernel
theorem dX0_passBlanks_28 : decode cX0_passBlanks 28 = .ok (.getfield 25, 3) := by decide +kernel
theorem dX0_passBlanks_31 : decode cX0_passBlanks 31 = .ok (.iconst 1, 1) := by decide +kernel
theorem dX0_passBlanks_32 : decode cX0_passBlanks 32 = .ok (.iadd, 1) := by decide +kernel
theorem dX0_passBlanks_33 : decode cX0_passBlanks 33 = .ok (.putfield 25, 3) := by decide +kernel
theorem dX0_passBlanks_36 : decode cX0_passBlanks 36 = .ok (.goto (-31), 3) := by decide +kernel
theorem dX0_passBlanks_39 : decode cX0_passBlanks 39 = .ok (.aload_n 0, 1) := by decide +kernel
theorem dX0_passBlanks_40 : decode cX0_passBlanks 40 = .ok (.getfield 25, 3) := by decide +kernel
theorem dX0_passBlanks_43 : decode cX0_passBlanks 43 = .ok (.iload_n 1, 1) := by decide +kernel
theorem dX0_passBlanks_44 : decode cX0_passBlanks 44 = .ok (.if_icmp .le 7, 3) := by decide +kernel
theorem dX0_passBlanks_47 : decode cX0_passBlanks 47 = .ok (.iconst 1, 1) := by decide +kernel
theorem dX0_passBlanks_48 : decode cX0_passBlanks 48 = .ok (.goto 4, 3) := by decide +kernel
theorem dX0_passBlanks_51 : decode cX0_passBlanks 51 = .ok (.iconst 0, 1) := by decide +kernel
theorem dX0_passBlanks_52 : decode cX0_passBlanks 52 = .ok (.ireturn, 1) := by decide +kernel
theorem dX0_passName_0 : decode cX0_passName 0 = .ok (.aload_n 0, 1) := by decide +kernel
theorem dX0_passName_1 : decode cX0_passName 1 = .ok (.invokevirtual 49, 3) := by decide +kernel
theorem dX0_passName_4 : decode cX0_passName 4 = .ok (.invokestatic 60, 3) := by decide +kernel
theorem dX0_passName_7 : decode cX0_passName 7 = .ok (.ifCond .ne 8, 3) := by decide +kernel
theorem dX0_passName_10 : decode cX0_passName 10 = .ok (.aload_n 0, 1) := by decide +kernel
theorem dX0_passName_11 : decode cX0_passName 11 = .ok (.invokevirtual 52, 3) := by decide +kernel
theorem dX0_passName_14 : decode cX0_passName 14 = .ok (.ireturn, 1) := by decide +kernel
theorem dX0_passName_15 : decode cX0_passName 15 = .ok (.aload_n 0, 1) := by decide +kernel
theorem dX0_passName_16 : decode cX0_passName 16 = .ok (.getfield 25, 3) := by decide +kernel
theorem dX0_passName_19 : decode cX0_passName 19 = .ok (.aload_n 0, 1) := by decide +kernel
theorem dX0_passName_20 : decode cX0_passName 20 = .ok (.getfield 22, 3) := by decide +kernel
theorem dX0_passName_23 : decode cX0_passName 23 = .ok (.if_icmp .ge 26, 3) := by decide +kernel
theorem dX0_passName_26 : decode cX0_passName 26 = .ok (.aload_n 0, 1) := by decide +kernel
theorem dX0_passName_27 : decode cX0_passName 27 = .ok (.invokevirtual 49, 3) := by decide +kernel
theorem dX0_passName_30 : decode cX0_passName 30 = .ok (.invokestatic 63, 3) := by decide +kernel
theorem dX0_passName_33 : decode cX0_passName 33 = .ok (.ifCond .eq 16, 3) := by decide +kernel
theorem dX0_passName_36 : decode cX0_passName 36 = .ok (.aload_n 0, 1) := by decide +kernel
theorem dX0_passName_37 : decode cX0_passName 37 = .ok (.dup, 1) := by decide +kernel
theorem dX0_passName_38 : decode cX0_passName 38 = .ok (.getfield 25, 3) := by decide +kernel
theorem dX0_passName_41 : decode cX0_passName 41 = .ok (.iconst 1, 1) := by decide +kernel
theorem dX0_passName_42 : decode cX0_passName 42 = .ok (.iadd, 1) := by decide +kernel
theorem dX0_passName_43 : decode cX0_passName 43 = .ok (.putfield 25, 3) := by decide +kernel
theorem dX0_passName_46 : decode cX0_passName 46 = .ok (.goto (-31), 3) := by decide +kernel
theorem dX0_passName_49 : decode cX0_passName 49 = .ok (.iconst 1, 1) := by decide +kernel
theorem dX0_passName_50 : decode cX0_passName 50 = .ok (.ireturn, 1) := by decide +kernel
theorem dX0_passNumber_0 : decode cX0_passNumber 0 = .ok (.iconst 0, 1) := by decide +kernel
theorem dX0_passNumber_1 : decode cX0_passNumber 1 = .ok (.istore_n 2, 1) := by decide +kernel
theorem dX0_passNumber_2 : decode cX0_passNumber 2 = .ok (.aload_n 0, 1) := by decide +kernel
theorem dX0_passNumber_3 : decode cX0_passNumber 3 = .ok (.getfield 25, 3) := by decide +kernel
theorem dX0_passNumber_6 : decode cX0_passNumber 6 = .ok (.aload_n 0, 1) := by decide +kernel
theorem dX0_passNumber_7 : decode cX0_passNumber 7 = .ok (.getfield 22, 3) := by decide +kernel
theorem dX0_passNumber_10 : decode cX0_passNumber 10 = .ok (.if_icmp .ge 47, 3) := by decide +kernel
theorem dX0_passNumber_13 : decode cX0_passNumber 13 = .ok (.aload_n 0, 1) := by decide +kernel
theorem dX0_passNumber_14 : decode cX0_passNumber 14 = .ok (.invokevirtual 49, 3) := by decide +kernel
theorem dX0_passNumber_17 : decode cX0_passNumber 17 = .ok (.iload_n 1, 1) := by decide +kernel
theorem dX0_passNumber_18 : decode cX0_passNumber 18 = .ok (.invokestatic 66, 3) := by decide +kernel
theorem dX0_passNumber_21 : decode cX0_passNumber 21 = .ok (.iconst (-1), 1) := by decide +kernel
theorem dX0_passNumber_22 : decode cX0_passNumber 22 = .ok (.if_icmp .eq 35, 3) := by decide +kernel
theorem dX0_passNumber_25 : decode cX0_passNumber 25 = .ok (.iload_n 2, 1) := by decide +kernel
theorem dX0_passNumber_26 : decode cX0_passNumber 26 = .ok (.iload_n 1, 1) := by decide +kernel
theorem dX0_passNumber_27 : decode cX0_passNumber 27 = .ok (.imul, 1) := by decide +kernel
theorem dX0_passNumber_28 : decode cX0_passNumber 28 = .ok (.aload_n 0, 1) := by decide +kernel
theorem dX0_passNumber_29 : decode cX0_passNumber 29 = .ok (.invokevirtual 49, 3) := by decide +kernel
theorem dX0_passNumber_32 : decode cX0_passNumber 32 = .ok (.iload_n 1, 1) := by decide +kernel
theorem dX0_passNumber_33 : decode cX0_passNumber 33 = .ok (.invokestatic 66, 3) := by decide +kernel
theorem dX0_passNumber_36 : decode cX0_passNumber 36 = .ok (.iadd, 1) := by decide +kernel
theorem dX0_passNumber_37 : decode cX0_passNumber 37 = .ok (.sipush 1000, 3) := by decide +kernel
theorem dX0_passNumber_40 : decode cX0_passNumber 40 = .ok (.invokestatic 70, 3) := by decide +kernel
theorem dX0_passNumber_43 : decode cX0_passNumber 43 = .ok (.istore_n 2, 1) := by decide +kernel
theorem dX0_passNumber_44 : decode cX0_passNumber 44 = .ok (.aload_n 0, 1) := by decide +kernel
theorem dX0_passNumber_45 : decode cX0_passNumber 45 = .ok (.dup, 1) := by decide +kernel
theorem dX0_passNumber_46 : decode cX0_passNumber 46 = .ok (.getfield 25, 3) := by decide +kernel
theorem dX0_passNumber_49 : decode cX0_passNumber 49 = .ok (.iconst 1, 1) := by decide +kernel
theorem dX0_passNumber_50 : decode cX0_passNumber 50 = .ok (.iadd, 1) := by decide +kernel
theorem dX0_passNumber_51 : decode cX0_passNumber 51 = .ok (.putfield 25, 3) := by decide +kernel
theorem dX0_passNumber_54 : decode cX0_passNumber 54 = .ok (.goto (-52), 3) := by decide +kernel
theorem dX0_passNumber_57 : decode cX0_passNumber 57 = .ok (.iload_n 2, 1) := by decide +kernel
theorem dX0_passNumber_58 : decode cX0_passNumber 58 = .ok (.ireturn, 1) := by decide +kernel
theorem dX0_passUntil_0 : decode cX0_passUntil 0 = .ok (.aload_n 0, 1) := by decide +kernel
theorem dX0_passUntil_1 : decode cX0_passUntil 1 = .ok (.getfield 25, 3) := by decide +kernel
theorem dX0_passUntil_4 : decode cX0_passUntil 4 = .ok (.aload_n 0, 1) := by decide +kernel
theorem dX0_passUntil_5 : decode cX0_passUntil 5 = .ok (.getfield 22, 3) := by decide +kernel
theorem dX0_passUntil_8 : decode cX0_passUntil 8 = .ok (.if_icmp .ge 43, 3) := by decide +kernel
theorem dX0_passUntil_11 : decode cX0_passUntil 11 = .ok (.aload_n 0, 1) := by decide +kernel
theorem dX0_passUntil_12 : decode cX0_passUntil 12 = .ok (.aload_n 1, 1) := by decide +kernel
theorem dX0_passUntil_13 : decode cX0_passUntil 13 = .ok (.aload_n 0, 1) := by decide +kernel
theorem dX0_passUntil_14 : decode cX0_passUntil 14 = .ok (.getfield 25, 3) := by decide +kernel
theorem dX0_passUntil_17 : decode cX0_passUntil 17 = .ok (.invokevirtual 45, 3) := by decide +kernel
theorem dX0_passUntil_20 : decode cX0_passUntil 20 = .ok (.ifCond .ne 31, 3) := by decide +kernel
theorem dX0_passUntil_23 : decode cX0_passUntil 23 = .ok (.aload_n 0, 1) := by decide +kernel
theorem dX0_passUntil_24 : decode cX0_passUntil 24 = .ok (.invokevirtual 49, 3) := by decide +kernel
theorem dX0_passUntil_27 : decode cX0_passUntil 27 = .ok (.invokestatic 75, 3) := by decide +kernel
theorem dX0_passUntil_30 : decode cX0_passUntil 30 = .ok (.ifCond .ne 8, 3) := by decide +kernel
theorem dX0_passUntil_33 : decode cX0_passUntil 33 = .ok (.aload_n 0, 1) := by decide +kernel
theorem dX0_passUntil_34 : decode cX0_passUntil 34 = .ok (.invokevirtual 52, 3) := by decide +kernel
theorem dX0_passUntil_37 : decode cX0_passUntil 37 = .ok (.ireturn, 1) := by decide +kernel
theorem dX0_passUntil_38 : decode cX0_passUntil 38 = .ok (.aload_n 0, 1) := by decide +kernel
theorem dX0_passUntil_39 : decode cX0_passUntil 39 = .ok (.dup, 1) := by decide +kernel
theorem dX0_passUntil_40 : decode cX0_passUntil 40 = .ok (.getfield 25, 3) := by decide +kernel
theorem dX0_passUntil_43 : decode cX0_passUntil 43 = .ok (.iconst 1, 1) := by decide +kernel
theorem dX0_passUntil_44 : decode cX0_passUntil 44 = .ok (.iadd, 1) := by decide +kernel
theorem dX0_passUntil_45 : decode cX0_passUntil 45 = .ok (.putfield 25, 3) := by decide +kernel
theorem dX0_passUntil_48 : decode cX0_passUntil 48 = .ok (.goto (-48), 3) := by decide +kernel
theorem dX0_passUntil_51 : decode cX0_passUntil 51 = .ok (.aload_n 0, 1) := by decide +kernel
theorem dX0_passUntil_52 : decode cX0_passUntil 52 = .ok (.aload_n 1, 1) := by decide +kernel
theorem dX0_passUntil_53 : decode cX0_passUntil 53 = .ok (.invokevirtual 78, 3) := by decide +kernel
theorem dX0_passUntil_56 : decode cX0_passUntil 56 = .ok (.ireturn, 1) := by decide +kernel
theorem dX0_sameBytes_0 : decode cX0_sameBytes 0 = .ok (.iconst 0, 1) := by decide +kernel
theorem dX0_sameBytes_1 : decode cX0_sameBytes 1 = .ok (.istore 4, 2) := by decide +kernel
theorem dX0_sameBytes_3 : decode cX0_sameBytes 3 = .ok (.iload 4, 2) := by decide +kernel
theorem dX0_sameBytes_5 : decode cX0_sameBytes 5 = .ok (.iload_n 3, 1) := by decide +kernel
theorem dX0_sameBytes_6 : decode cX0_sameBytes 6 = .ok (.if_icmp .ge 30, 3) := by decide +kernel
theorem dX0_sameBytes_9 : decode cX0_sameBytes 9 = .ok (.aload_n 0, 1) := by decide +kernel
theorem dX0_sameBytes_10 : decode cX0_sameBytes 10 = .ok (.iload_n 1, 1) := by decide +kernel
theorem dX0_sameBytes_11 : decode cX0_sameBytes 11 = .ok (.iload 4, 2) := by decide +kernel
theorem dX0_sameBytes_13 : decode cX0_sameBytes 13 = .ok (.iadd, 1) := by decide +kernel
theorem dX0_sameBytes_14 : decode cX0_sameBytes 14 = .ok (.invokevirtual 28, 3) := by decide +kernel
theorem dX0_sameBytes_17 : decode cX0_sameBytes 17 = .ok (.aload_n 0, 1) := by decide +kernel
theorem dX0_sameBytes_18 : decode cX0_sameBytes 18 = .ok (.iload_n 2, 1) := by decide +kernel
theorem dX0_sameBytes_19 : decode cX0_sameBytes 19 = .ok (.iload 4, 2) := by decide +kernel
theorem dX0_sameBytes_21 : decode cX0_sameBytes 21 = .ok (.iadd, 1) := by decide +kernel
theorem dX0_sameBytes_22 : decode cX0_sameBytes 22 = .ok (.invokevirtual 28, 3) := by decide +kernel
theorem dX0_sameBytes_25 : decode cX0_sameBytes 25 = .ok (.if_icmp .eq 5, 3) := by decide +kernel
theorem dX0_sameBytes_28 : decode cX0_sameBytes 28 = .ok (.iconst 0, 1) := by decide +kernel
theorem dX0_sameBytes_29 : decode cX0_sameBytes 29 = .ok (.ireturn, 1) := by decide +kernel
theorem dX0_sameBytes_30 : decode cX0_sameBytes 30 = .ok (.iinc 4 1, 3) := by decide +kernel
theorem dX0_sameBytes_33 : decode cX0_sameBytes 33 = .ok (.goto (-30), 3) := by decide +kernel
theorem dX0_sameBytes_36 : decode cX0_sameBytes 36 = .ok (.iconst 1, 1) := by decide +kernel
theorem dX0_sameBytes_37 : decode cX0_sameBytes 37 = .ok (.ireturn, 1) := by decide +kernel
theorem dX0_standsAt_0 : decode cX0_standsAt 0 = .ok (.iconst 0, 1) := by decide +kernel
theorem dX0_standsAt_1 : decode cX0_standsAt 1 = .ok (.istore_n 3, 1) := by decide +kernel
theorem dX0_standsAt_2 : decode cX0_standsAt 2 = .ok (.iload_n 3, 1) := by decide +kernel
theorem dX0_standsAt_3 : decode cX0_standsAt 3 = .ok (.aload_n 1, 1) := by decide +kernel
theorem dX0_standsAt_4 : decode cX0_standsAt 4 = .ok (.invokevirtual 36, 3) := by decide +kernel
theorem dX0_standsAt_7 : decode cX0_standsAt 7 = .ok (.if_icmp .ge 26, 3) := by decide +kernel
theorem dX0_standsAt_10 : decode cX0_standsAt 10 = .ok (.aload_n 0, 1) := by decide +kernel
theorem dX0_standsAt_11 : decode cX0_standsAt 11 = .ok (.iload_n 2, 1) := by decide +kernel
theorem dX0_standsAt_12 : decode cX0_standsAt 12 = .ok (.iload_n 3, 1) := by decide +kernel
theorem dX0_standsAt_13 : decode cX0_standsAt 13 = .ok (.iadd, 1) := by decide +kernel
theorem dX0_standsAt_14 : decode cX0_standsAt 14 = .ok (.invokevirtual 28, 3) := by decide +kernel
theorem dX0_standsAt_17 : decode cX0_standsAt 17 = .ok (.aload_n 1, 1) := by decide +kernel
theorem dX0_standsAt_18 : decode cX0_standsAt 18 = .ok (.iload_n 3, 1) := by decide +kernel
theorem dX0_standsAt_19 : decode cX0_standsAt 19 = .ok (.invokevirtual 41, 3) := by decide +kernel
theorem dX0_standsAt_22 : decode cX0_standsAt 22 = .ok (.if_icmp .eq 5, 3) := by decide +kernel
theorem dX0_standsAt_25 : decode cX0_standsAt 25 = .ok (.iconst 0, 1) := by decide +kernel
theorem dX0_standsAt_26 : decode cX0_standsAt 26 = .ok (.ireturn, 1) := by decide +kernel
theorem dX0_standsAt_27 : decode cX0_standsAt 27 = .ok (.iinc 3 1, 3) := by decide +kernel
theorem dX0_standsAt_30 : decode cX0_standsAt 30 = .ok (.goto (-28), 3) := by decide +kernel
theorem dX0_standsAt_33 : decode cX0_standsAt 33 = .ok (.iconst 1, 1) := by decide +kernel
theorem dX0_standsAt_34 : decode cX0_standsAt 34 = .ok (.ireturn, 1) := by decide +kernel
theorem dX1_add_0 : decode cX1_add 0 = .ok (.aload_n 0, 1) := by decide +kernel
theorem dX1_add_1 : decode cX1_add 1 = .ok (.getfield 26, 3) := by decide +kernel
theorem dX1_add_4 : decode cX1_add 4 = .ok (.ifCond .lt 44, 3) := by decide +kernel
theorem dX1_add_7 : decode cX1_add 7 = .ok (.aload_n 0, 1) := by decide +kernel
theorem dX1_add_8 : decode cX1_add 8 = .ok (.getfield 26, 3) := by decide +kernel
theorem dX1_add_11 : decode cX1_add 11 = .ok (.aload_n 0, 1) := by decide +kernel
theorem dX1_add_12 : decode cX1_add 12 = .ok (.getfield 13, 3) := by decide +kernel
theorem dX1_add_15 : decode cX1_add 15 = .ok (.if_icmp .ge 33, 3) := by decide +kernel
theorem dX1_add_18 : decode cX1_add 18 = .ok (.aload_n 0, 1) := by decide +kernel
theorem dX1_add_19 : decode cX1_add 19 = .ok (.getfield 19, 3) := by decide +kernel
theorem dX1_add_22 : decode cX1_add 22 = .ok (.aload_n 0, 1) := by decide +kernel
theorem dX1_add_23 : decode cX1_add 23 = .ok (.getfield 26, 3) := by decide +kernel
theorem dX1_add_26 : decode cX1_add 26 = .ok (.iload_n 1, 1) := by decide +kernel
theorem dX1_add_27 : decode cX1_add 27 = .ok (.iastore, 1) := by decide +kernel
theorem dX1_add_28 : decode cX1_add 28 = .ok (.aload_n 0, 1) := by decide +kernel
theorem dX1_add_29 : decode cX1_add 29 = .ok (.getfield 23, 3) := by decide +kernel
theorem dX1_add_32 : decode cX1_add 32 = .ok (.aload_n 0, 1) := by decide +kernel
theorem dX1_add_33 : decode cX1_add 33 = .ok (.getfield 26, 3) := by decide +kernel
theorem dX1_add_36 : decode cX1_add 36 = .ok (.iload_n 2, 1) := by decide +kernel
theorem dX1_add_37 : decode cX1_add 37 = .ok (.iastore, 1) := by decide +kernel
theorem dX1_add_38 : decode cX1_add 38 = .ok (.aload_n 0, 1) := by decide +kernel
theorem dX1_add_39 : decode cX1_add 39 = .ok (.dup, 1) := by decide +kernel
theorem dX1_add_40 : decode cX1_add 40 = .ok (.getfield 26, 3) := by decide +kernel
theorem dX1_add_43 : decode cX1_add 43 = .ok (.iconst 1, 1) := by decide +kernel
theorem dX1_add_44 : decode cX1_add 44 = .ok (.iadd, 1) := by decide +kernel
theorem dX1_add_45 : decode cX1_add 45 = .ok (.putfield 26, 3) := by decide +kernel
theorem dX1_add_48 : decode cX1_add 48 = .ok (.return_, 1) := by decide +kernel
theorem dX1_clear_0 : decode cX1_clear 0 = .ok (.aload_n 0, 1) := by decide +kernel
theorem dX1_clear_1 : decode cX1_clear 1 = .ok (.iconst 0, 1) := by decide +kernel
theorem dX1_clear_2 : decode cX1_clear 2 = .ok (.putfield 26, 3) := by decide +kernel
theorem dX1_clear_5 : decode cX1_clear 5 = .ok (.return_, 1) := by decide +kernel
theorem dX1_dropLast_0 : decode cX1_dropLast 0 = .ok (.aload_n 0, 1) := by decide +kernel
theorem dX1_dropLast_1 : decode cX1_dropLast 1 = .ok (.getfield 26, 3) := by decide +kernel
theorem dX1_dropLast_4 : decode cX1_dropLast 4 = .ok (.ifCond .le 13, 3) := by decide +kernel
theorem dX1_dropLast_7 : decode cX1_dropLast 7 = .ok (.aload_n 0, 1) := by decide +kernel
theorem dX1_dropLast_8 : decode cX1_dropLast 8 = .ok (.dup, 1) := by decide +kernel
theorem dX1_dropLast_9 : decode cX1_dropLast 9 = .ok (.getfield 26, 3) := by decide +kernel
theorem dX1_dropLast_12 : decode cX1_dropLast 12 = .ok (.iconst 1, 1) := by decide +kernel
theorem dX1_dropLast_13 : decode cX1_dropLast 13 = .ok (.isub, 1) := by decide +kernel
theorem dX1_dropLast_14 : decode cX1_dropLast 14 = .ok (.putfield 26, 3) := by decide +kernel
theorem dX1_dropLast_17 : decode cX1_dropLast 17 = .ok (.return_, 1) := by decide +kernel
theorem dX1_has_0 : decode cX1_has 0 = .ok (.iconst 0, 1) := by decide +kernel
theorem dX1_has_1 : decode cX1_has 1 = .ok (.istore 4, 2) := by decide +kernel
theorem dX1_has_3 : decode cX1_has 3 = .ok (.iload 4, 2) := by decide +kernel
theorem dX1_has_5 : decode cX1_has 5 = .ok (.aload_n 0, 1) := by decide +kernel
theorem dX1_has_6 : decode cX1_has 6 = .ok (.getfield 26, 3) := by decide +kernel
theorem dX1_has_9 : decode cX1_has 9 = .ok (.if_icmp .ge 23, 3) := by decide +kernel
theorem dX1_has_12 : decode cX1_has 12 = .ok (.aload_n 0, 1) := by decide +kernel
theorem dX1_has_13 : decode cX1_has 13 = .ok (.iload 4, 2) := by decide +kernel
theorem dX1_has_15 : decode cX1_has 15 = .ok (.aload_n 1, 1) := by decide +kernel
theorem dX1_has_16 : decode cX1_has 16 = .ok (.iload_n 2, 1) := by decide +kernel
theorem dX1_has_17 : decode cX1_has 17 = .ok (.iload_n 3, 1) := by decide +kernel
theorem dX1_has_18 : decode cX1_has 18 = .ok (.invokevirtual 29, 3) := by decide +kernel
theorem dX1_has_21 : decode cX1_has 21 = .ok (.ifCond .eq 5, 3) := by decide +kernel
theorem dX1_has_24 : decode cX1_has 24 = .ok (.iconst 1, 1) := by decide +kernel
theorem dX1_has_25 : decode cX1_has 25 = .ok (.ireturn, 1) := by decide +kernel
theorem dX1_has_26 : decode cX1_has 26 = .ok (.iinc 4 1, 3) := by decide +kernel
theorem dX1_has_29 : decode cX1_has 29 = .ok (.goto (-26), 3) := by decide +kernel
theorem dX1_has_32 : decode cX1_has 32 = .ok (.iconst 0, 1) := by decide +kernel
theorem dX1_has_33 : decode cX1_has 33 = .ok (.ireturn, 1) := by decide +kernel
theorem dX1_init_0 : decode cX1_init 0 = .ok (.aload_n 0, 1) := by decide +kernel
theorem dX1_init_1 : decode cX1_init 1 = .ok (.invokespecial 1, 3) := by decide +kernel
theorem dX1_init_4 : decode cX1_init 4 = .ok (.aload_n 0, 1) := by decide +kernel
theorem dX1_init_5 : decode cX1_init 5 = .ok (.iload_n 1, 1) := by decide +kernel
theorem dX1_init_6 : decode cX1_init 6 = .ok (.iconst 0, 1) := by decide +kernel
theorem dX1_init_7 : decode cX1_init 7 = .ok (.invokestatic 7, 3) := by decide +kernel
theorem dX1_init_10 : decode cX1_init 10 = .ok (.putfield 13, 3) := by decide +kernel
theorem dX1_init_13 : decode cX1_init 13 = .ok (.aload_n 0, 1) := by decide +kernel
theorem dX1_init_14 : decode cX1_init 14 = .ok (.aload_n 0, 1) := by decide +kernel
theorem dX1_init_15 : decode cX1_init 15 = .ok (.getfield 13, 3) := by decide +kernel
theorem dX1_init_18 : decode cX1_init 18 = .ok (.newarray .int, 2) := by decide +kernel
theorem dX1_init_20 : decode cX1_init 20 = .ok (.putfield 19, 3) := by decide +kernel
theorem dX1_init_23 : decode cX1_init 23 = .ok (.aload_n 0, 1) := by decide +kernel
theorem dX1_init_24 : decode cX1_init 24 = .ok (.aload_n 0, 1) := by decide +kernel
theorem dX1_init_25 : decode cX1_init 25 = .ok (.getfield 13, 3) := by decide +kernel
theorem dX1_init_28 : decode cX1_init 28 = .ok (.newarray .int, 2) := by decide +kernel
theorem dX1_init_30 : decode cX1_init 30 = .ok (.putfield 23, 3) := by decide +kernel
theorem dX1_init_33 : decode cX1_init 33 = .ok (.return_, 1) := by decide +kernel
theorem dX1_isAt_0 : decode cX1_isAt 0 = .ok (.iload_n 1, 1) := by decide +kernel
theorem dX1_isAt_1 : decode cX1_isAt 1 = .ok (.ifCond .lt 61, 3) := by decide +kernel
theorem dX1_isAt_4 : decode cX1_isAt 4 = .ok (.iload_n 1, 1) := by decide +kernel
theorem dX1_isAt_5 : decode cX1_isAt 5 = .ok (.aload_n 0, 1) := by decide +kernel
theorem dX1_isAt_6 : decode cX1_isAt 6 = .ok (.getfield 26, 3) := by decide +kernel
theorem dX1_isAt_9 : decode cX1_isAt 9 = .ok (.if_icmp .ge 53, 3) := by decide +kernel
theorem dX1_isAt_12 : decode cX1_isAt 12 = .ok (.iload_n 1, 1) := by decide +kernel
theorem dX1_isAt_13 : decode cX1_isAt 13 = .ok (.aload_n 0, 1) := by decide +kernel
theorem dX1_isAt_14 : decode cX1_isAt 14 = .ok (.getfield 13, 3) := by decide +kernel
theorem dX1_isAt_17 : decode cX1_isAt 17 = .ok (.if_icmp .ge 45, 3) := by decide +kernel
theorem dX1_isAt_20 : decode cX1_isAt 20 = .ok (.aload_n 0, 1) := by decide +kernel
theorem dX1_isAt_21 : decode cX1_isAt 21 = .ok (.getfield 23, 3) := by decide +kernel
theorem dX1_isAt_24 : decode cX1_isAt 24 = .ok (.iload_n 1, 1) := by decide +kernel
theorem dX1_isAt_25 : decode cX1_isAt 25 = .ok (.iaload, 1) := by decide +kernel
theorem dX1_isAt_26 : decode cX1_isAt 26 = .ok (.aload_n 0, 1) := by decide +kernel
theorem dX1_isAt_27 : decode cX1_isAt 27 = .ok (.getfield 19, 3) := by decide +kernel
theorem dX1_isAt_30 : decode cX1_isAt 30 = .ok (.iload_n 1, 1) := by decide +kernel
theorem dX1_isAt_31 : decode cX1_isAt 31 = .ok (.iaload, 1) := by decide +kernel
theorem dX1_isAt_32 : decode cX1_isAt 32 = .ok (.isub, 1) := by decide +kernel
theorem dX1_isAt_33 : decode cX1_isAt 33 = .ok (.iload 4, 2) := by decide +kernel
theorem dX1_isAt_35 : decode cX1_isAt 35 = .ok (.iload_n 3, 1) := by decide +kernel
theorem dX1_isAt_36 : decode cX1_isAt 36 = .ok (.isub, 1) := by decide +kernel
theorem dX1_isAt_37 : decode cX1_isAt 37 = .ok (.if_icmp .ne 25, 3) := by decide +kernel
theorem dX1_isAt_40 : decode cX1_isAt 40 = .ok (.aload_n 2, 1) := by decide +kernel
theorem dX1_isAt_41 : decode cX1_isAt 41 = .ok (.aload_n 0, 1) := by decide +kernel
theorem dX1_isAt_42 : decode cX1_isAt 42 = .ok (.getfield 19, 3) := by decide +kernel
theorem dX1_isAt_45 : decode cX1_isAt 45 = .ok (.iload_n 1, 1) := by decide +kernel
theorem dX1_isAt_46 : decode cX1_isAt 46 = .ok (.iaload, 1) := by decide +kernel
theorem dX1_isAt_47 : decode cX1_isAt 47 = .ok (.iload_n 3, 1) := by decide +kernel
theorem dX1_isAt_48 : decode cX1_isAt 48 = .ok (.iload 4, 2) := by decide +kernel
theorem dX1_isAt_50 : decode cX1_isAt 50 = .ok (.iload_n 3, 1) := by decide +kernel
theorem dX1_isAt_51 : decode cX1_isAt 51 = .ok (.isub, 1) := by decide +kernel
theorem dX1_isAt_52 : decode cX1_isAt 52 = .ok (.invokevirtual 33, 3) := by decide +kernel
theorem dX1_isAt_55 : decode cX1_isAt 55 = .ok (.ifCond .eq 7, 3) := by decide +kernel
theorem dX1_isAt_58 : decode cX1_isAt 58 = .ok (.iconst 1, 1) := by decide +kernel
theorem dX1_isAt_59 : decode cX1_isAt 59 = .ok (.goto 4, 3) := by decide +kernel
theorem dX1_isAt_62 : decode cX1_isAt 62 = .ok (.iconst 0, 1) := by decide +kernel
theorem dX1_isAt_63 : decode cX1_isAt 63 = .ok (.ireturn, 1) := by decide +kernel
theorem dX1_isFull_0 : decode cX1_isFull 0 = .ok (.aload_n 0, 1) := by decide +kernel
theorem dX1_isFull_1 : decode cX1_isFull 1 = .ok (.getfield 26, 3) := by decide +kernel
theorem dX1_isFull_4 : decode cX1_isFull 4 = .ok (.aload_n 0, 1) := by decide +kernel
theorem dX1_isFull_5 : decode cX1_isFull 5 = .ok (.getfield 13, 3) := by decide +kernel
theorem dX1_isFull_8 : decode cX1_isFull 8 = .ok (.if_icmp .lt 7, 3) := by decide +kernel
theorem dX1_isFull_11 : decode cX1_isFull 11 = .ok (.iconst 1, 1) := by decide +kernel
theorem dX1_isFull_12 : decode cX1_isFull 12 = .ok (.goto 4, 3) := by decide +kernel
theorem dX1_isFull_15 : decode cX1_isFull 15 = .ok (.iconst 0, 1) := by decide +kernel
theorem dX1_isFull_16 : decode cX1_isFull 16 = .ok (.ireturn, 1) := by decide +kernel
theorem dX1_isLast_0 : decode cX1_isLast 0 = .ok (.aload_n 0, 1) := by decide +kernel
theorem dX1_isLast_1 : decode cX1_isLast 1 = .ok (.aload_n 0, 1) := by decide +kernel
theorem dX1_isLast_2 : decode cX1_isLast 2 = .ok (.getfield 26, 3) := by decide +kernel
theorem dX1_isLast_5 : decode cX1_isLast 5 = .ok (.iconst 1, 1) := by decide +kernel
theorem dX1_isLast_6 : decode cX1_isLast 6 = .ok (.isub, 1) := by decide +kernel
theorem dX1_isLast_7 : decode cX1_isLast 7 = .ok (.aload_n 1, 1) := by decide +kernel
theorem dX1_isLast_8 : decode cX1_isLast 8 = .ok (.iload_n 2, 1) := by decide +kernel
theorem dX1_isLast_9 : decode cX1_isLast 9 = .ok (.iload_n 3, 1) := by decide +kernel
theorem dX1_isLast_10 : decode cX1_isLast 10 = .ok (.invokevirtual 29, 3) := by decide +kernel
theorem dX1_isLast_13 : decode cX1_isLast 13 = .ok (.ireturn, 1) := by decide +kernel
theorem dX2_add_0 : decode cX2_add 0 = .ok (.aload_n 0, 1) := by decide +kernel
theorem dX2_add_1 : decode cX2_add 1 = .ok (.getfield 24, 3) := by decide +kernel
theorem dX2_add_4 : decode cX2_add 4 = .ok (.ifCond .lt 13, 3) := by decide +kernel
theorem dX2_add_7 : decode cX2_add 7 = .ok (.aload_n 0, 1) := by decide +kernel
theorem dX2_add_8 : decode cX2_add 8 = .ok (.getfield 24, 3) := by decide +kernel
theorem dX2_add_11 : decode cX2_add 11 = .ok (.sipush 150, 3) := by decide +kernel
theorem dX2_add_14 : decode cX2_add 14 = .ok (.if_icmp .lt 5, 3) := by decide +kernel
theorem dX2_add_17 : decode cX2_add 17 = .ok (.iconst 0, 1) := by decide +kernel
theorem dX2_add_18 : decode cX2_add 18 = .ok (.ireturn, 1) := by decide +kernel
theorem dX2_add_19 : decode cX2_add 19 = .ok (.aload_n 0, 1) := by decide +kernel
theorem dX2_add_20 : decode cX2_add 20 = .ok (.getfield 9, 3) := by decide +kernel
theorem dX2_add_23 : decode cX2_add 23 = .ok (.aload_n 0, 1) := by decide +kernel
theorem dX2_add_24 : decode cX2_add 24 = .ok (.getfield 24, 3) := by decide +kernel
theorem dX2_add_27 : decode cX2_add 27 = .ok (.iload_n 1, 1) := by decide +kernel
theorem dX2_add_28 : decode cX2_add 28 = .ok (.iastore, 1) := by decide +kernel
theorem dX2_add_29 : decode cX2_add 29 = .ok (.aload_n 0, 1) := by decide +kernel
theorem dX2_add_30 : decode cX2_add 30 = .ok (.getfield 15, 3) := by decide +kernel
theorem dX2_add_33 : decode cX2_add 33 = .ok (.aload_n 0, 1) := by decide +kernel
theorem dX2_add_34 : decode cX2_add 34 = .ok (.getfield 24, 3) := by decide +kernel
theorem dX2_add_37 : decode cX2_add 37 = .ok (.iload_n 2, 1) := by decide +kernel
theorem dX2_add_38 : decode cX2_add 38 = .ok (.iastore, 1) := by decide +kernel
theorem dX2_add_39 : decode cX2_add 39 = .ok (.aload_n 0, 1) := by decide +kernel
theorem dX2_add_40 : decode cX2_add 40 = .ok (.getfield 18, 3) := by decide +kernel
theorem dX2_add_43 : decode cX2_add 43 = .ok (.aload_n 0, 1) := by decide +kernel
theorem dX2_add_44 : decode cX2_add 44 = .ok (.getfield 24, 3) := by decide +kernel
theorem dX2_add_47 : decode cX2_add 47 = .ok (.iload_n 3, 1) := by decide +kernel
theorem dX2_add_48 : decode cX2_add 48 = .ok (.iastore, 1) := by decide +kernel
theorem dX2_add_49 : decode cX2_add 49 = .ok (.aload_n 0, 1) := by decide +kernel
theorem dX2_add_50 : decode cX2_add 50 = .ok (.getfield 21, 3) := by decide +kernel
theorem dX2_add_53 : decode cX2_add 53 = .ok (.aload_n 0, 1) := by decide +kernel
theorem dX2_add_54 : decode cX2_add 54 = .ok (.getfield 24, 3) := by decide +kernel
theorem dX2_add_57 : decode cX2_add 57 = .ok (.iload 4, 2) := by decide +kernel
theorem dX2_add_59 : decode cX2_add 59 = .ok (.iastore, 1) := by decide +kernel
theorem dX2_add_60 : decode cX2_add 60 = .ok (.aload_n 0, 1) := by decide +kernel
theorem dX2_add_61 : decode cX2_add 61 = .ok (.dup, 1) := by decide +kernel
theorem dX2_add_62 : decode cX2_add 62 = .ok (.getfield 24, 3) := by decide +kernel
theorem dX2_add_65 : decode cX2_add 65 = .ok (.iconst 1, 1) := by decide +kernel
theorem dX2_add_66 : decode cX2_add 66 = .ok (.iadd, 1) := by decide +kernel
theorem dX2_add_67 : decode cX2_add 67 = .ok (.putfield 24, 3) := by decide +kernel
theorem dX2_add_70 : decode cX2_add 70 = .ok (.iload_n 1, 1) := by decide +kernel
theorem dX2_add_71 : decode cX2_add 71 = .ok (.iconst 3, 1) := by decide +kernel
theorem dX2_add_72 : decode cX2_add 72 = .ok (.if_icmp .ne 13, 3) := by decide +kernel
theorem dX2_add_75 : decode cX2_add 75 = .ok (.aload_n 0, 1) := by decide +kernel
theorem dX2_add_76 : decode cX2_add 76 = .ok (.dup, 1) := by decide +kernel
theorem dX2_add_77 : decode cX2_add 77 = .ok (.getfield 28, 3) := by decide +kernel
theorem dX2_add_80 : decode cX2_add 80 = .ok (.iconst 1, 1) := by decide +kernel
theorem dX2_add_81 : decode cX2_add 81 = .ok (.iadd, 1) := by decide +kernel
theorem dX2_add_82 : decode cX2_add 82 = .ok (.putfield 28, 3) := by decide +kernel
theorem dX2_add_85 : decode cX2_add 85 = .ok (.iconst 1, 1) := by decide +kernel
theorem dX2_add_86 : decode cX2_add 86 = .ok (.ireturn, 1) := by decide +kernel
theorem dX2_clear_0 : decode cX2_clear 0 = .ok (.aload_n 0, 1) := by decide +kernel
theorem dX2_clear_1 : decode cX2_clear 1 = .ok (.iconst 0, 1) := by decide +kernel
theorem dX2_clear_2 : decode cX2_clear 2 = .ok (.putfield 24, 3) := by decide +kernel
theorem dX2_clear_5 : decode cX2_clear 5 = .ok (.aload_n 0, 1) := by decide +kernel
theorem dX2_clear_6 : decode cX2_clear 6 = .ok (.iconst 0, 1) := by decide +kernel
theorem dX2_clear_7 : decode cX2_clear 7 = .ok (.putfield 28, 3) := by decide +kernel
theorem dX2_clear_10 : decode cX2_clear 10 = .ok (.return_, 1) := by decide +kernel
theorem dX2_init_0 : decode cX2_init 0 = .ok (.aload_n 0, 1) := by decide +kernel
theorem dX2_init_1 : decode cX2_init 1 = .ok (.invokespecial 3, 3) := by decide +kernel
theorem dX2_init_4 : decode cX2_init 4 = .ok (.aload_n 0, 1) := by decide +kernel
theorem dX2_init_5 : decode cX2_init 5 = .ok (.sipush 150, 3) := by decide +kernel
theorem dX2_init_8 : decode cX2_init 8 = .ok (.newarray .int, 2) := by decide +kernel
theorem dX2_init_10 : decode cX2_init 10 = .ok (.putfield 9, 3) := by decide +kernel
theorem dX2_init_13 : decode cX2_init 13 = .ok (.aload_n 0, 1) := by decide +kernel
theorem dX2_init_14 : decode cX2_init 14 = .ok (.sipush 150, 3) := by decide +kernel
theorem dX2_init_17 : decode cX2_init 17 = .ok (.newarray .int, 2) := by decide +kernel
theorem dX2_init_19 : decode cX2_init 19 = .ok (.putfield 15, 3) := by decide +kernel
theorem dX2_init_22 : decode cX2_init 22 = .ok (.aload_n 0, 1) := by decide +kernel
theorem dX2_init_23 : decode cX2_init 23 = .ok (.sipush 150, 3) := by decide +kernel
theorem dX2_init_26 : decode cX2_init 26 = .ok (.newarray .int, 2) := by decide +kernel
theorem dX2_init_28 : decode cX2_init 28 = .ok (.putfield 18, 3) := by decide +kernel
theorem dX2_init_31 : decode cX2_init 31 = .ok (.aload_n 0, 1) := by decide +kernel
theorem dX2_init_32 : decode cX2_init 32 = .ok (.sipush 150, 3) := by decide +kernel
theorem dX2_init_35 : decode cX2_init 35 = .ok (.newarray .int, 2) := by decide +kernel
theorem dX2_init_37 : decode cX2_init 37 = .ok (.putfield 21, 3) := by decide +kernel
theorem dX2_init_40 : decode cX2_init 40 = .ok (.return_, 1) := by decide +kernel
theorem dX2_tell_0 : decode cX2_tell 0 = .ok (.iload_n 1, 1) := by decide +kernel
theorem dX2_tell_1 : decode cX2_tell 1 = .ok (.ifCond .lt 18, 3) := by decide +kernel
theorem dX2_tell_4 : decode cX2_tell 4 = .ok (.iload_n 1, 1) := by decide +kernel
theorem dX2_tell_5 : decode cX2_tell 5 = .ok (.aload_n 0, 1) := by decide +kernel
theorem dX2_tell_6 : decode cX2_tell 6 = .ok (.getfield 24, 3) := by decide +kernel
theorem dX2_tell_9 : decode cX2_tell 9 = .ok (.if_icmp .ge 10, 3) := by decide +kernel
theorem dX2_tell_12 : decode cX2_tell 12 = .ok (.iload_n 1, 1) := by decide +kernel
theorem dX2_tell_13 : decode cX2_tell 13 = .ok (.sipush 150, 3) := by decide +kernel
theorem dX2_tell_16 : decode cX2_tell 16 = .ok (.if_icmp .lt 5, 3) := by decide +kernel
theorem dX2_tell_19 : decode cX2_tell 19 = .ok (.iconst (-1), 1) := by decide +kernel
theorem dX2_tell_20 : decode cX2_tell 20 = .ok (.ireturn, 1) := by decide +kernel
theorem dX2_tell_21 : decode cX2_tell 21 = .ok (.iload_n 2, 1) := by decide +kernel
theorem dX2_tell_22 : decode cX2_tell 22 = .ok (.tableswitch 58 0 3 #[30, 37, 44, 51], 30) := by decide +kernel
theorem dX2_tell_52 : decode cX2_tell 52 = .ok (.aload_n 0, 1) := by decide +kernel
theorem dX2_tell_53 : decode cX2_tell 53 = .ok (.getfield 9, 3) := by decide +kernel
theorem dX2_tell_56 : decode cX2_tell 56 = .ok (.iload_n 1, 1) := by decide +kernel
theorem dX2_tell_57 : decode cX2_tell 57 = .ok (.iaload, 1) := by decide +kernel
theorem dX2_tell_58 : decode cX2_tell 58 = .ok (.ireturn, 1) := by decide +kernel
theorem dX2_tell_59 : decode cX2_tell 59 = .ok (.aload_n 0, 1) := by decide +kernel
theorem dX2_tell_60 : decode cX2_tell 60 = .ok (.getfield 15, 3) := by decide +kernel
theorem dX2_tell_63 : decode cX2_tell 63 = .ok (.iload_n 1, 1) := by decide +kernel
theorem dX2_tell_64 : decode cX2_tell 64 = .ok (.iaload, 1) := by decide +kernel
theorem dX2_tell_65 : decode cX2_tell 65 = .ok (.ireturn, 1) := by decide +kernel
theorem dX2_tell_66 : decode cX2_tell 66 = .ok (.aload_n 0, 1) := by decide +kernel
theorem dX2_tell_67 : decode cX2_tell 67 = .ok (.getfield 18, 3) := by decide +kernel
theorem dX2_tell_70 : decode cX2_tell 70 = .ok (.iload_n 1, 1) := by decide +kernel
theorem dX2_tell_71 : decode cX2_tell 71 = .ok (.iaload, 1) := by decide +kernel
theorem dX2_tell_72 : decode cX2_tell 72 = .ok (.ireturn, 1) := by decide +kernel
theorem dX2_tell_73 : decode cX2_tell 73 = .ok (.aload_n 0, 1) := by decide +kernel
theorem dX2_tell_74 : decode cX2_tell 74 = .ok (.getfield 21, 3) := by decide +kernel
theorem dX2_tell_77 : decode cX2_tell 77 = .ok (.iload_n 1, 1) := by decide +kernel
theorem dX2_tell_78 : decode cX2_tell 78 = .ok (.iaload, 1) := by decide +kernel
theorem dX2_tell_79 : decode cX2_tell 79 = .ok (.ireturn, 1) := by decide +kernel
theorem dX2_tell_80 : decode cX2_tell 80 = .ok (.iconst (-1), 1) := by decide +kernel
theorem dX2_tell_81 : decode cX2_tell 81 = .ok (.ireturn, 1) := by decide +kernel
theorem dX3_addPiece_0 : decode cX3_addPiece 0 = .ok (.aload_n 0, 1) := by decide +kernel
theorem dX3_addPiece_1 : decode cX3_addPiece 1 = .ok (.getfield 23, 3) := by decide +kernel
theorem dX3_addPiece_4 : decode cX3_addPiece 4 = .ok (.iload_n 1, 1) := by decide +kernel
theorem dX3_addPiece_5 : decode cX3_addPiece 5 = .ok (.iload_n 2, 1) := by decide +kernel
theorem dX3_addPiece_6 : decode cX3_addPiece 6 = .ok (.aload_n 0, 1) := by decide +kernel
theorem dX3_addPiece_7 : decode cX3_addPiece 7 = .ok (.getfield 16, 3) := by decide +kernel
theorem dX3_addPiece_10 : decode cX3_addPiece 10 = .ok (.getfield 123, 3) := by decide +kernel
theorem dX3_addPiece_13 : decode cX3_addPiece 13 = .ok (.aload_n 0, 1) := by decide +kernel
theorem dX3_addPiece_14 : decode cX3_addPiece 14 = .ok (.getfield 32, 3) := by decide +kernel
theorem dX3_addPiece_17 : decode cX3_addPiece 17 = .ok (.getfield 103, 3) := by decide +kernel
theorem dX3_addPiece_20 : decode cX3_addPiece 20 = .ok (.invokevirtual 267, 3) := by decide +kernel
theorem dX3_addPiece_23 : decode cX3_addPiece 23 = .ok (.ifCond .ne 16, 3) := by decide +kernel
theorem dX3_addPiece_26 : decode cX3_addPiece 26 = .ok (.aload_n 0, 1) := by decide +kernel
theorem dX3_addPiece_27 : decode cX3_addPiece 27 = .ok (.getfield 16, 3) := by decide +kernel
theorem dX3_addPiece_30 : decode cX3_addPiece 30 = .ok (.bipush 15, 2) := by decide +kernel
theorem dX3_addPiece_32 : decode cX3_addPiece 32 = .ok (.iload_n 2, 1) := by decide +kernel
theorem dX3_addPiece_33 : decode cX3_addPiece 33 = .ok (.invokevirtual 135, 3) := by decide +kernel
theorem dX3_addPiece_36 : decode cX3_addPiece 36 = .ok (.ifCond .eq 7, 3) := by decide +kernel
theorem dX3_addPiece_39 : decode cX3_addPiece 39 = .ok (.iconst 1, 1) := by decide +kernel
theorem dX3_addPiece_40 : decode cX3_addPiece 40 = .ok (.goto 4, 3) := by decide +kernel
theorem dX3_addPiece_43 : decode cX3_addPiece 43 = .ok (.iconst 0, 1) := by decide +kernel
theorem dX3_addPiece_44 : decode cX3_addPiece 44 = .ok (.ireturn, 1) := by decide +kernel
theorem dX3_beginText_0 : decode cX3_beginText 0 = .ok (.aload_n 0, 1) := by decide +kernel
theorem dX3_beginText_1 : decode cX3_beginText 1 = .ok (.aload_n 0, 1) := by decide +kernel
theorem dX3_beginText_2 : decode cX3_beginText 2 = .ok (.getfield 16, 3) := by decide +kernel
theorem dX3_beginText_5 : decode cX3_beginText 5 = .ok (.aload_n 0, 1) := by decide +kernel
theorem dX3_beginText_6 : decode cX3_beginText 6 = .ok (.getfield 9, 3) := by decide +kernel
theorem dX3_beginText_9 : decode cX3_beginText 9 = .ok (.aload_n 0, 1) := by decide +kernel
theorem dX3_beginText_10 : decode cX3_beginText 10 = .ok (.getfield 43, 3) := by decide +kernel
theorem dX3_beginText_13 : decode cX3_beginText 13 = .ok (.invokevirtual 95, 3) := by decide +kernel
theorem dX3_beginText_16 : decode cX3_beginText 16 = .ok (.putfield 9, 3) := by decide +kernel
theorem dX3_beginText_19 : decode cX3_beginText 19 = .ok (.aload_n 0, 1) := by decide +kernel
theorem dX3_beginText_20 : decode cX3_beginText 20 = .ok (.iconst 0, 1) := by decide +kernel
theorem dX3_beginText_21 : decode cX3_beginText 21 = .ok (.putfield 43, 3) := by decide +kernel
theorem dX3_beginText_24 : decode cX3_beginText 24 = .ok (.aload_n 0, 1) := by decide +kernel
theorem dX3_beginText_25 : decode cX3_beginText 25 = .ok (.getfield 23, 3) := by decide +kernel
theorem dX3_beginText_28 : decode cX3_beginText 28 = .ok (.invokevirtual 99, 3) := by decide +kernel
theorem dX3_beginText_31 : decode cX3_beginText 31 = .ok (.aload_n 0, 1) := by decide +kernel
theorem dX3_beginText_32 : decode cX3_beginText 32 = .ok (.getfield 32, 3) := by decide +kernel
theorem dX3_beginText_35 : decode cX3_beginText 35 = .ok (.invokevirtual 102, 3) := by decide +kernel
theorem dX3_beginText_38 : decode cX3_beginText 38 = .ok (.aload_n 0, 1) := by decide +kernel
theorem dX3_beginText_39 : decode cX3_beginText 39 = .ok (.getfield 36, 3) := by decide +kernel
theorem dX3_beginText_42 : decode cX3_beginText 42 = .ok (.invokevirtual 102, 3) := by decide +kernel
theorem dX3_beginText_45 : decode cX3_beginText 45 = .ok (.aload_n 0, 1) := by decide +kernel
theorem dX3_beginText_46 : decode cX3_beginText 46 = .ok (.iconst 0, 1) := by decide +kernel
theorem dX3_beginText_47 : decode cX3_beginText 47 = .ok (.putfield 86, 3) := by decide +kernel
theorem dX3_beginText_50 : decode cX3_beginText 50 = .ok (.aload_n 0, 1) := by decide +kernel
theorem dX3_beginText_51 : decode cX3_beginText 51 = .ok (.iconst 0, 1) := by decide +kernel
theorem dX3_beginText_52 : decode cX3_beginText 52 = .ok (.putfield 89, 3) := by decide +kernel
theorem dX3_beginText_55 : decode cX3_beginText 55 = .ok (.aload_n 0, 1) := by decide +kernel
theorem dX3_beginText_56 : decode cX3_beginText 56 = .ok (.iconst 0, 1) := by decide +kernel
theorem dX3_beginText_57 : decode cX3_beginText 57 = .ok (.putfield 56, 3) := by decide +kernel
theorem dX3_beginText_60 : decode cX3_beginText 60 = .ok (.aload_n 0, 1) := by decide +kernel
theorem dX3_beginText_61 : decode cX3_beginText 61 = .ok (.iconst (-1), 1) := by decide +kernel
theorem dX3_beginText_62 : decode cX3_beginText 62 = .ok (.putfield 39, 3) := by decide +kernel
theorem dX3_beginText_65 : decode cX3_beginText 65 = .ok (.return_, 1) := by decide +kernel
theorem dX3_byteOf_0 : decode cX3_byteOf 0 = .ok (.aload_n 0, 1) := by decide +kernel
theorem dX3_byteOf_1 : decode cX3_byteOf 1 = .ok (.getfield 16, 3) := by decide +kernel
theorem dX3_byteOf_4 : decode cX3_byteOf 4 = .ok (.iload_n 1, 1) := by decide +kernel
theorem dX3_byteOf_5 : decode cX3_byteOf 5 = .ok (.invokevirtual 82, 3) := by decide +kernel
theorem dX3_byteOf_8 : decode cX3_byteOf 8 = .ok (.ireturn, 1) := by decide +kernel
theorem dX3_count_0 : decode cX3_count 0 = .ok (.iload_n 1, 1) := by decide +kernel
theorem dX3_count_1 : decode cX3_count 1 = .ok (.tableswitch 66 0 4 #[35, 43, 48, 53, 58], 35) := by decide +kernel
theorem dX3_count_36 : decode cX3_count 36 = .ok (.aload_n 0, 1) := by decide +kernel
theorem dX3_count_37 : decode cX3_count 37 = .ok (.getfield 23, 3) := by decide +kernel
theorem dX3_count_40 : decode cX3_count 40 = .ok (.getfield 72, 3) := by decide +kernel
theorem dX3_count_43 : decode cX3_count 43 = .ok (.ireturn, 1) := by decide +kernel
theorem dX3_count_44 : decode cX3_count 44 = .ok (.aload_n 0, 1) := by decide +kernel
theorem dX3_count_45 : decode cX3_count 45 = .ok (.getfield 86, 3) := by decide +kernel
theorem dX3_count_48 : decode cX3_count 48 = .ok (.ireturn, 1) := by decide +kernel
theorem dX3_count_49 : decode cX3_count 49 = .ok (.aload_n 0, 1) := by decide +kernel
theorem dX3_count_50 : decode cX3_count 50 = .ok (.getfield 89, 3) := by decide +kernel
theorem dX3_count_53 : decode cX3_count 53 = .ok (.ireturn, 1) := by decide +kernel
theorem dX3_count_54 : decode cX3_count 54 = .ok (.aload_n 0, 1) := by decide +kernel
theorem dX3_count_55 : decode cX3_count 55 = .ok (.getfield 43, 3) := by decide +kernel
theorem dX3_count_58 : decode cX3_count 58 = .ok (.ireturn, 1) := by decide +kernel
theorem dX3_count_59 : decode cX3_count 59 = .ok (.aload_n 0, 1) := by decide +kernel
theorem dX3_count_60 : decode cX3_count 60 = .ok (.getfield 23, 3) := by decide +kernel
theorem dX3_count_63 : decode cX3_count 63 = .ok (.getfield 92, 3) := by decide +kernel
theorem dX3_count_66 : decode cX3_count 66 = .ok (.ireturn, 1) := by decide +kernel
theorem dX3_count_67 : decode cX3_count 67 = .ok (.iconst (-1), 1) := by decide +kernel
theorem dX3_count_68 : decode cX3_count 68 = .ok (.ireturn, 1) := by decide +kernel
theorem dX3_digitOf_0 : decode cX3_digitOf 0 = .ok (.iload_n 0, 1) := by decide +kernel
theorem dX3_digitOf_1 : decode cX3_digitOf 1 = .ok (.bipush 48, 2) := by decide +kernel
theorem dX3_digitOf_3 : decode cX3_digitOf 3 = .ok (.if_icmp .lt 14, 3) := by decide +kernel
theorem dX3_digitOf_6 : decode cX3_digitOf 6 = .ok (.iload_n 0, 1) := by decide +kernel
theorem dX3_digitOf_7 : decode cX3_digitOf 7 = .ok (.bipush 57, 2) := by decide +kernel
theorem dX3_digitOf_9 : decode cX3_digitOf 9 = .ok (.if_icmp .gt 8, 3) := by decide +kernel
theorem dX3_digitOf_12 : decode cX3_digitOf 12 = .ok (.iload_n 0, 1) := by decide +kernel
theorem dX3_digitOf_13 : decode cX3_digitOf 13 = .ok (.bipush 48, 2) := by decide +kernel
theorem dX3_digitOf_15 : decode cX3_digitOf 15 = .ok (.isub, 1) := by decide +kernel
theorem dX3_digitOf_16 : decode cX3_digitOf 16 = .ok (.ireturn, 1) := by decide +kernel
theorem dX3_digitOf_17 : decode cX3_digitOf 17 = .ok (.iload_n 1, 1) := by decide +kernel
theorem dX3_digitOf_18 : decode cX3_digitOf 18 = .ok (.bipush 16, 2) := by decide +kernel
theorem dX3_digitOf_20 : decode cX3_digitOf 20 = .ok (.if_icmp .ne 23, 3) := by decide +kernel
theorem dX3_digitOf_23 : decode cX3_digitOf 23 = .ok (.iload_n 0, 1) := by decide +kernel
theorem dX3_digitOf_24 : decode cX3_digitOf 24 = .ok (.bipush 97, 2) := by decide +kernel
theorem dX3_digitOf_26 : decode cX3_digitOf 26 = .ok (.if_icmp .lt 17, 3) := by decide +kernel
theorem dX3_digitOf_29 : decode cX3_digitOf 29 = .ok (.iload_n 0, 1) := by decide +kernel
theorem dX3_digitOf_30 : decode cX3_digitOf 30 = .ok (.bipush 102, 2) := by decide +kernel
theorem dX3_digitOf_32 : decode cX3_digitOf 32 = .ok (.if_icmp .gt 11, 3) := by decide +kernel
theorem dX3_digitOf_35 : decode cX3_digitOf 35 = .ok (.iload_n 0, 1) := by decide +kernel
theorem dX3_digitOf_36 : decode cX3_digitOf 36 = .ok (.bipush 97, 2) := by decide +kernel
theorem dX3_digitOf_38 : decode cX3_digitOf 38 = .ok (.isub, 1) := by decide +kernel
theorem dX3_digitOf_39 : decode cX3_digitOf 39 = .ok (.bipush 10, 2) := by decide +kernel
theorem dX3_digitOf_41 : decode cX3_digitOf 41 = .ok (.iadd, 1) := by decide +kernel
theorem dX3_digitOf_42 : decode cX3_digitOf 42 = .ok (.ireturn, 1) := by decide +kernel
theorem dX3_digitOf_43 : decode cX3_digitOf 43 = .ok (.iload_n 1, 1) := by decide +kernel
theorem dX3_digitOf_44 : decode cX3_digitOf 44 = .ok (.bipush 16, 2) := by decide +kernel
theorem dX3_digitOf_46 : decode cX3_digitOf 46 = .ok (.if_icmp .ne 23, 3) := by decide +kernel
theorem dX3_digitOf_49 : decode cX3_digitOf 49 = .ok (.iload_n 0, 1) := by decide +kernel
theorem dX3_digitOf_50 : decode cX3_digitOf 50 = .ok (.bipush 65, 2) := by decide +kernel
theorem dX3_digitOf_52 : decode cX3_digitOf 52 = .ok (.if_icmp .lt 17, 3) := by decide +kernel
theorem dX3_digitOf_55 : decode cX3_digitOf 55 = .ok (.iload_n 0, 1) := by decide +kernel
theorem dX3_digitOf_56 : decode cX3_digitOf 56 = .ok (.bipush 70, 2) := by decide +kernel
theorem dX3_digitOf_58 : decode cX3_digitOf 58 = .ok (.if_icmp .gt 11, 3) := by decide +kernel
theorem dX3_digitOf_61 : decode cX3_digitOf 61 = .ok (.iload_n 0, 1) := by decide +kernel
theorem dX3_digitOf_62 : decode cX3_digitOf 62 = .ok (.bipush 65, 2) := by decide +kernel
theorem dX3_digitOf_64 : decode cX3_digitOf 64 = .ok (.isub, 1) := by decide +kernel
theorem dX3_digitOf_65 : decode cX3_digitOf 65 = .ok (.bipush 10, 2) := by decide +kernel
theorem dX3_digitOf_67 : decode cX3_digitOf 67 = .ok (.iadd, 1) := by decide +kernel
theorem dX3_digitOf_68 : decode cX3_digitOf 68 = .ok (.ireturn, 1) := by decide +kernel
theorem dX3_digitOf_69 : decode cX3_digitOf 69 = .ok (.iconst (-1), 1) := by decide +kernel
theorem dX3_digitOf_70 : decode cX3_digitOf 70 = .ok (.ireturn, 1) := by decide +kernel
theorem dX3_endEmptyTag_0 : decode cX3_endEmptyTag 0 = .ok (.aload_n 0, 1) := by decide +kernel
theorem dX3_endEmptyTag_1 : decode cX3_endEmptyTag 1 = .ok (.getfield 16, 3) := by decide +kernel
theorem dX3_endEmptyTag_4 : decode cX3_endEmptyTag 4 = .ok (.ldc 254, 2) := by decide +kernel
theorem dX3_endEmptyTag_6 : decode cX3_endEmptyTag 6 = .ok (.invokevirtual 151, 3) := by decide +kernel
theorem dX3_endEmptyTag_9 : decode cX3_endEmptyTag 9 = .ok (.ifCond .eq 40, 3) := by decide +kernel
theorem dX3_endEmptyTag_12 : decode cX3_endEmptyTag 12 = .ok (.aload_n 0, 1) := by decide +kernel
theorem dX3_endEmptyTag_13 : decode cX3_endEmptyTag 13 = .ok (.iconst 2, 1) := by decide +kernel
theorem dX3_endEmptyTag_14 : decode cX3_endEmptyTag 14 = .ok (.aload_n 0, 1) := by decide +kernel
theorem dX3_endEmptyTag_15 : decode cX3_endEmptyTag 15 = .ok (.getfield 222, 3) := by decide +kernel
theorem dX3_endEmptyTag_18 : decode cX3_endEmptyTag 18 = .ok (.invokevirtual 169, 3) := by decide +kernel
theorem dX3_endEmptyTag_21 : decode cX3_endEmptyTag 21 = .ok (.ifCond .eq 28, 3) := by decide +kernel
theorem dX3_endEmptyTag_24 : decode cX3_endEmptyTag 24 = .ok (.aload_n 0, 1) := by decide +kernel
theorem dX3_endEmptyTag_25 : decode cX3_endEmptyTag 25 = .ok (.aload_n 0, 1) := by decide +kernel
theorem dX3_endEmptyTag_26 : decode cX3_endEmptyTag 26 = .ok (.getfield 89, 3) := by decide +kernel
theorem dX3_endEmptyTag_29 : decode cX3_endEmptyTag 29 = .ok (.aload_n 0, 1) := by decide +kernel
theorem dX3_endEmptyTag_30 : decode cX3_endEmptyTag 30 = .ok (.getfield 32, 3) := by decide +kernel
theorem dX3_endEmptyTag_33 : decode cX3_endEmptyTag 33 = .ok (.getfield 103, 3) := by decide +kernel
theorem dX3_endEmptyTag_36 : decode cX3_endEmptyTag 36 = .ok (.iconst 1, 1) := by decide +kernel
theorem dX3_endEmptyTag_37 : decode cX3_endEmptyTag 37 = .ok (.iadd, 1) := by decide +kernel
theorem dX3_endEmptyTag_38 : decode cX3_endEmptyTag 38 = .ok (.invokestatic 245, 3) := by decide +kernel
theorem dX3_endEmptyTag_41 : decode cX3_endEmptyTag 41 = .ok (.putfield 89, 3) := by decide +kernel
theorem dX3_endEmptyTag_44 : decode cX3_endEmptyTag 44 = .ok (.aload_n 0, 1) := by decide +kernel
theorem dX3_endEmptyTag_45 : decode cX3_endEmptyTag 45 = .ok (.iconst 0, 1) := by decide +kernel
theorem dX3_endEmptyTag_46 : decode cX3_endEmptyTag 46 = .ok (.putfield 56, 3) := by decide +kernel
theorem dX3_endEmptyTag_49 : decode cX3_endEmptyTag 49 = .ok (.return_, 1) := by decide +kernel
theorem dX3_endStartTag_0 : decode cX3_endStartTag 0 = .ok (.aload_n 0, 1) := by decide +kernel
theorem dX3_endStartTag_1 : decode cX3_endStartTag 1 = .ok (.getfield 16, 3) := by decide +kernel
theorem dX3_endStartTag_4 : decode cX3_endStartTag 4 = .ok (.ldc 176, 2) := by decide +kernel
theorem dX3_endStartTag_6 : decode cX3_endStartTag 6 = .ok (.invokevirtual 151, 3) := by decide +kernel
theorem dX3_endStartTag_9 : decode cX3_endStartTag 9 = .ok (.ifCond .eq 55, 3) := by decide +kernel
theorem dX3_endStartTag_12 : decode cX3_endStartTag 12 = .ok (.aload_n 0, 1) := by decide +kernel
theorem dX3_endStartTag_13 : decode cX3_endStartTag 13 = .ok (.iconst 0, 1) := by decide +kernel
theorem dX3_endStartTag_14 : decode cX3_endStartTag 14 = .ok (.aload_n 0, 1) := by decide +kernel
theorem dX3_endStartTag_15 : decode cX3_endStartTag 15 = .ok (.getfield 222, 3) := by decide +kernel
theorem dX3_endStartTag_18 : decode cX3_endStartTag 18 = .ok (.invokevirtual 169, 3) := by decide +kernel
theorem dX3_endStartTag_21 : decode cX3_endStartTag 21 = .ok (.ifCond .eq 43, 3) := by decide +kernel
theorem dX3_endStartTag_24 : decode cX3_endStartTag 24 = .ok (.aload_n 0, 1) := by decide +kernel
theorem dX3_endStartTag_25 : decode cX3_endStartTag 25 = .ok (.aload_n 0, 1) := by decide +kernel
theorem dX3_endStartTag_26 : decode cX3_endStartTag 26 = .ok (.getfield 89, 3) := by decide +kernel
theorem dX3_endStartTag_29 : decode cX3_endStartTag 29 = .ok (.aload_n 0, 1) := by decide +kernel
theorem dX3_endStartTag_30 : decode cX3_endStartTag 30 = .ok (.getfield 32, 3) := by decide +kernel
theorem dX3_endStartTag_33 : decode cX3_endStartTag 33 = .ok (.getfield 103, 3) := by decide +kernel
theorem dX3_endStartTag_36 : decode cX3_endStartTag 36 = .ok (.iconst 1, 1) := by decide +kernel
theorem dX3_endStartTag_37 : decode cX3_endStartTag 37 = .ok (.iadd, 1) := by decide +kernel
theorem dX3_endStartTag_38 : decode cX3_endStartTag 38 = .ok (.invokestatic 245, 3) := by decide +kernel
theorem dX3_endStartTag_41 : decode cX3_endStartTag 41 = .ok (.putfield 89, 3) := by decide +kernel
theorem dX3_endStartTag_44 : decode cX3_endStartTag 44 = .ok (.aload_n 0, 1) := by decide +kernel
theorem dX3_endStartTag_45 : decode cX3_endStartTag 45 = .ok (.getfield 32, 3) := by decide +kernel
theorem dX3_endStartTag_48 : decode cX3_endStartTag 48 = .ok (.aload_n 0, 1) := by decide +kernel
theorem dX3_endStartTag_49 : decode cX3_endStartTag 49 = .ok (.getfield 225, 3) := by decide +kernel
theorem dX3_endStartTag_52 : decode cX3_endStartTag 52 = .ok (.aload_n 0, 1) := by decide +kernel
theorem dX3_endStartTag_53 : decode cX3_endStartTag 53 = .ok (.getfield 230, 3) := by decide +kernel
theorem dX3_endStartTag_56 : decode cX3_endStartTag 56 = .ok (.invokevirtual 250, 3) := by decide +kernel
theorem dX3_endStartTag_59 : decode cX3_endStartTag 59 = .ok (.aload_n 0, 1) := by decide +kernel
theorem dX3_endStartTag_60 : decode cX3_endStartTag 60 = .ok (.iconst 0, 1) := by decide +kernel
theorem dX3_endStartTag_61 : decode cX3_endStartTag 61 = .ok (.putfield 56, 3) := by decide +kernel
theorem dX3_endStartTag_64 : decode cX3_endStartTag 64 = .ok (.return_, 1) := by decide +kernel
theorem dX3_endText_0 : decode cX3_endText 0 = .ok (.aload_n 0, 1) := by decide +kernel
theorem dX3_endText_1 : decode cX3_endText 1 = .ok (.getfield 86, 3) := by decide +kernel
theorem dX3_endText_4 : decode cX3_endText 4 = .ok (.ifCond .le 24, 3) := by decide +kernel
theorem dX3_endText_7 : decode cX3_endText 7 = .ok (.aload_n 0, 1) := by decide +kernel
theorem dX3_endText_8 : decode cX3_endText 8 = .ok (.getfield 32, 3) := by decide +kernel
theorem dX3_endText_11 : decode cX3_endText 11 = .ok (.getfield 103, 3) := by decide +kernel
theorem dX3_endText_14 : decode cX3_endText 14 = .ok (.ifCond .ne 14, 3) := by decide +kernel
theorem dX3_endText_17 : decode cX3_endText 17 = .ok (.aload_n 0, 1) := by decide +kernel
theorem dX3_endText_18 : decode cX3_endText 18 = .ok (.getfield 56, 3) := by decide +kernel
theorem dX3_endText_21 : decode cX3_endText 21 = .ok (.ifCond .ne 7, 3) := by decide +kernel
theorem dX3_endText_24 : decode cX3_endText 24 = .ok (.iconst 1, 1) := by decide +kernel
theorem dX3_endText_25 : decode cX3_endText 25 = .ok (.goto 4, 3) := by decide +kernel
theorem dX3_endText_28 : decode cX3_endText 28 = .ok (.iconst 0, 1) := by decide +kernel
theorem dX3_endText_29 : decode cX3_endText 29 = .ok (.istore_n 1, 1) := by decide +kernel
theorem dX3_endText_30 : decode cX3_endText 30 = .ok (.iload_n 1, 1) := by decide +kernel
theorem dX3_endText_31 : decode cX3_endText 31 = .ok (.ifCond .ne 11, 3) := by decide +kernel
theorem dX3_endText_34 : decode cX3_endText 34 = .ok (.aload_n 0, 1) := by decide +kernel
theorem dX3_endText_35 : decode cX3_endText 35 = .ok (.getfield 16, 3) := by decide +kernel
theorem dX3_endText_38 : decode cX3_endText 38 = .ok (.invokevirtual 104, 3) := by decide +kernel
theorem dX3_endText_41 : decode cX3_endText 41 = .ok (.pop, 1) := by decide +kernel
theorem dX3_endText_42 : decode cX3_endText 42 = .ok (.return_, 1) := by decide +kernel
theorem dX3_init_0 : decode cX3_init 0 = .ok (.aload_n 0, 1) := by decide +kernel
theorem dX3_init_1 : decode cX3_init 1 = .ok (.invokespecial 1, 3) := by decide +kernel
theorem dX3_init_4 : decode cX3_init 4 = .ok (.aload_n 0, 1) := by decide +kernel
theorem dX3_init_5 : decode cX3_init 5 = .ok (.sipush 500, 3) := by decide +kernel
theorem dX3_init_8 : decode cX3_init 8 = .ok (.newarray .int, 2) := by decide +kernel
theorem dX3_init_10 : decode cX3_init 10 = .ok (.putfield 9, 3) := by decide +kernel
theorem dX3_init_13 : decode cX3_init 13 = .ok (.aload_n 0, 1) := by decide +kernel
theorem dX3_init_14 : decode cX3_init 14 = .ok (.new 13, 3) := by decide +kernel
theorem dX3_init_17 : decode cX3_init 17 = .ok (.dup, 1) := by decide +kernel
theorem dX3_init_18 : decode cX3_init 18 = .ok (.invokespecial 15, 3) := by decide +kernel
theorem dX3_init_21 : decode cX3_init 21 = .ok (.putfield 16, 3) := by decide +kernel
theorem dX3_init_24 : decode cX3_init 24 = .ok (.aload_n 0, 1) := by decide +kernel
theorem dX3_init_25 : decode cX3_init 25 = .ok (.new 20, 3) := by decide +kernel
theorem dX3_init_28 : decode cX3_init 28 = .ok (.dup, 1) := by decide +kernel
theorem dX3_init_29 : decode cX3_init 29 = .ok (.invokespecial 22, 3) := by decide +kernel
theorem dX3_init_32 : decode cX3_init 32 = .ok (.putfield 23, 3) := by decide +kernel
theorem dX3_init_35 : decode cX3_init 35 = .ok (.aload_n 0, 1) := by decide +kernel
theorem dX3_init_36 : decode cX3_init 36 = .ok (.new 27, 3) := by decide +kernel
theorem dX3_init_39 : decode cX3_init 39 = .ok (.dup, 1) := by decide +kernel
theorem dX3_init_40 : decode cX3_init 40 = .ok (.bipush 20, 2) := by decide +kernel
theorem dX3_init_42 : decode cX3_init 42 = .ok (.invokespecial 29, 3) := by decide +kernel
theorem dX3_init_45 : decode cX3_init 45 = .ok (.putfield 32, 3) := by decide +kernel
theorem dX3_init_48 : decode cX3_init 48 = .ok (.aload_n 0, 1) := by decide +kernel
theorem dX3_init_49 : decode cX3_init 49 = .ok (.new 27, 3) := by decide +kernel
theorem dX3_init_52 : decode cX3_init 52 = .ok (.dup, 1) := by decide +kernel
theorem dX3_init_53 : decode cX3_init 53 = .ok (.bipush 8, 2) := by decide +kernel
theorem dX3_init_55 : decode cX3_init 55 = .ok (.invokespecial 29, 3) := by decide +kernel
theorem dX3_init_58 : decode cX3_init 58 = .ok (.putfield 36, 3) := by decide +kernel
theorem dX3_init_61 : decode cX3_init 61 = .ok (.aload_n 0, 1) := by decide +kernel
theorem dX3_init_62 : decode cX3_init 62 = .ok (.iconst (-1), 1) := by decide +kernel
theorem dX3_init_63 : decode cX3_init 63 = .ok (.putfield 39, 3) := by decide +kernel
theorem dX3_init_66 : decode cX3_init 66 = .ok (.return_, 1) := by decide +kernel
theorem dX3_isBlank_0 : decode cX3_isBlank 0 = .ok (.iload_n 0, 1) := by decide +kernel
theorem dX3_isBlank_1 : decode cX3_isBlank 1 = .ok (.bipush 9, 2) := by decide +kernel
theorem dX3_isBlank_3 : decode cX3_isBlank 3 = .ok (.if_icmp .eq 21, 3) := by decide +kernel
theorem dX3_isBlank_6 : decode cX3_isBlank 6 = .ok (.iload_n 0, 1) := by decide +kernel
theorem dX3_isBlank_7 : decode cX3_isBlank 7 = .ok (.bipush 10, 2) := by decide +kernel
theorem dX3_isBlank_9 : decode cX3_isBlank 9 = .ok (.if_icmp .eq 15, 3) := by decide +kernel
theorem dX3_isBlank_12 : decode cX3_isBlank 12 = .ok (.iload_n 0, 1) := by decide +kernel
theorem dX3_isBlank_13 : decode cX3_isBlank 13 = .ok (.bipush 13, 2) := by decide +kernel
theorem dX3_isBlank_15 : decode cX3_isBlank 15 = .ok (.if_icmp .eq 9, 3) := by decide +kernel
theorem dX3_isBlank_18 : decode cX3_isBlank 18 = .ok (.iload_n 0, 1) := by decide +kernel
theorem dX3_isBlank_19 : decode cX3_isBlank 19 = .ok (.bipush 32, 2) := by decide +kernel
theorem dX3_isBlank_21 : decode cX3_isBlank 21 = .ok (.if_icmp .ne 7, 3) := by decide +kernel
theorem dX3_isBlank_24 : decode cX3_isBlank 24 = .ok (.iconst 1, 1) := by decide +kernel
theorem dX3_isBlank_25 : decode cX3_isBlank 25 = .ok (.goto 4, 3) := by decide +kernel
theorem dX3_isBlank_28 : decode cX3_isBlank 28 = .ok (.iconst 0, 1) := by decide +kernel
theorem dX3_isBlank_29 : decode cX3_isBlank 29 = .ok (.ireturn, 1) := by decide +kernel
theorem dX3_isCharacter_0 : decode cX3_isCharacter 0 = .ok (.iload_n 0, 1) := by decide +kernel
theorem dX3_isCharacter_1 : decode cX3_isCharacter 1 = .ok (.invokestatic 161, 3) := by decide +kernel
theorem dX3_isCharacter_4 : decode cX3_isCharacter 4 = .ok (.ifCond .ne 15, 3) := by decide +kernel
theorem dX3_isCharacter_7 : decode cX3_isCharacter 7 = .ok (.iload_n 0, 1) := by decide +kernel
theorem dX3_isCharacter_8 : decode cX3_isCharacter 8 = .ok (.bipush 32, 2) := by decide +kernel
theorem dX3_isCharacter_10 : decode cX3_isCharacter 10 = .ok (.if_icmp .le 13, 3) := by decide +kernel
theorem dX3_isCharacter_13 : decode cX3_isCharacter 13 = .ok (.iload_n 0, 1) := by decide +kernel
theorem dX3_isCharacter_14 : decode cX3_isCharacter 14 = .ok (.bipush 126, 2) := by decide +kernel
theorem dX3_isCharacter_16 : decode cX3_isCharacter 16 = .ok (.if_icmp .gt 7, 3) := by decide +kernel
theorem dX3_isCharacter_19 : decode cX3_isCharacter 19 = .ok (.iconst 1, 1) := by decide +kernel
theorem dX3_isCharacter_20 : decode cX3_isCharacter 20 = .ok (.goto 4, 3) := by decide +kernel
theorem dX3_isCharacter_23 : decode cX3_isCharacter 23 = .ok (.iconst 0, 1) := by decide +kernel
theorem dX3_isCharacter_24 : decode cX3_isCharacter 24 = .ok (.ireturn, 1) := by decide +kernel
theorem dX3_isContentCharacter_0 : decode cX3_isContentCharacter 0 = .ok (.iload_n 0, 1) := by decide +kernel
theorem dX3_isContentCharacter_1 : decode cX3_isContentCharacter 1 = .ok (.invokestatic 210, 3) := by decide +kernel
theorem dX3_isContentCharacter_4 : decode cX3_isContentCharacter 4 = .ok (.ifCond .eq 19, 3) := by decide +kernel
theorem dX3_isContentCharacter_7 : decode cX3_isContentCharacter 7 = .ok (.iload_n 0, 1) := by decide +kernel
theorem dX3_isContentCharacter_8 : decode cX3_isContentCharacter 8 = .ok (.bipush 60, 2) := by decide +kernel
theorem dX3_isContentCharacter_10 : decode cX3_isContentCharacter 10 = .ok (.if_icmp .eq 13, 3) := by decide +kernel
theorem dX3_isContentCharacter_13 : decode cX3_isContentCharacter 13 = .ok (.iload_n 0, 1) := by decide +kernel
theorem dX3_isContentCharacter_14 : decode cX3_isContentCharacter 14 = .ok (.bipush 38, 2) := by decide +kernel
theorem dX3_isContentCharacter_16 : decode cX3_isContentCharacter 16 = .ok (.if_icmp .eq 7, 3) := by decide +kernel
theorem dX3_isContentCharacter_19 : decode cX3_isContentCharacter 19 = .ok (.iconst 1, 1) := by decide +kernel
theorem dX3_isContentCharacter_20 : decode cX3_isContentCharacter 20 = .ok (.goto 4, 3) := by decide +kernel
theorem dX3_isContentCharacter_23 : decode cX3_isContentCharacter 23 = .ok (.iconst 0, 1) := by decide +kernel
theorem dX3_isContentCharacter_24 : decode cX3_isContentCharacter 24 = .ok (.ireturn, 1) := by decide +kernel
theorem dX3_isKnownReference_0 : decode cX3_isKnownReference 0 = .ok (.aload_n 0, 1) := by decide +kernel
theorem dX3_isKnownReference_1 : decode cX3_isKnownReference 1 = .ok (.getfield 16, 3) := by decide +kernel
theorem dX3_isKnownReference_4 : decode cX3_isKnownReference 4 = .ok (.ldc_w 270, 3) := by decide +kernel
theorem dX3_isKnownReference_7 : decode cX3_isKnownReference 7 = .ok (.iload_n 1, 1) := by decide +kernel
theorem dX3_isKnownReference_8 : decode cX3_isKnownReference 8 = .ok (.iload_n 2, 1) := by decide +kernel
theorem dX3_isKnownReference_9 : decode cX3_isKnownReference 9 = .ok (.invokevirtual 272, 3) := by decide +kernel
theorem dX3_isKnownReference_12 : decode cX3_isKnownReference 12 = .ok (.ifCond .ne 63, 3) := by decide +kernel
theorem dX3_isKnownReference_15 : decode cX3_isKnownReference 15 = .ok (.aload_n 0, 1) := by decide +kernel
theorem dX3_isKnownReference_16 : decode cX3_isKnownReference 16 = .ok (.getfield 16, 3) := by decide +kernel
theorem dX3_isKnownReference_19 : decode cX3_isKnownReference 19 = .ok (.ldc_w 276, 3) := by decide +kernel
theorem dX3_isKnownReference_22 : decode cX3_isKnownReference 22 = .ok (.iload_n 1, 1) := by decide +kernel
theorem dX3_isKnownReference_23 : decode cX3_isKnownReference 23 = .ok (.iload_n 2, 1) := by decide +kernel
theorem dX3_isKnownReference_24 : decode cX3_isKnownReference 24 = .ok (.invokevirtual 272, 3) := by decide +kernel
theorem dX3_isKnownReference_27 : decode cX3_isKnownReference 27 = .ok (.ifCond .ne 48, 3) := by decide +kernel
theorem dX3_isKnownReference_30 : decode cX3_isKnownReference 30 = .ok (.aload_n 0, 1) := by decide +kernel
theorem dX3_isKnownReference_31 : decode cX3_isKnownReference 31 = .ok (.getfield 16, 3) := by decide +kernel
theorem dX3_isKnownReference_34 : decode cX3_isKnownReference 34 = .ok (.ldc_w 278, 3) := by decide +kernel
theorem dX3_isKnownReference_37 : decode cX3_isKnownReference 37 = .ok (.iload_n 1, 1) := by decide +kernel
theorem dX3_isKnownReference_38 : decode cX3_isKnownReference 38 = .ok (.iload_n 2, 1) := by decide +kernel
theorem dX3_isKnownReference_39 : decode cX3_isKnownReference 39 = .ok (.invokevirtual 272, 3) := by decide +kernel
theorem dX3_isKnownReference_42 : decode cX3_isKnownReference 42 = .ok (.ifCond .ne 33, 3) := by decide +kernel
theorem dX3_isKnownReference_45 : decode cX3_isKnownReference 45 = .ok (.aload_n 0, 1) := by decide +kernel
theorem dX3_isKnownReference_46 : decode cX3_isKnownReference 46 = .ok (.getfield 16, 3) := by decide +kernel
theorem dX3_isKnownReference_49 : decode cX3_isKnownReference 49 = .ok (.ldc_w 280, 3) := by decide +kernel
theorem dX3_isKnownReference_52 : decode cX3_isKnownReference 52 = .ok (.iload_n 1, 1) := by decide +kernel
theorem dX3_isKnownReference_53 : decode cX3_isKnownReference 53 = .ok (.iload_n 2, 1) := by decide +kernel
theorem dX3_isKnownReference_54 : decode cX3_isKnownReference 54 = .ok (.invokevirtual 272, 3) := by decide +kernel
theorem dX3_isKnownReference_57 : decode cX3_isKnownReference 57 = .ok (.ifCond .ne 18, 3) := by decide +kernel
theorem dX3_isKnownReference_60 : decode cX3_isKnownReference 60 = .ok (.aload_n 0, 1) := by decide +kernel
theorem dX3_isKnownReference_61 : decode cX3_isKnownReference 61 = .ok (.getfield 16, 3) := by decide +kernel
theorem dX3_isKnownReference_64 : decode cX3_isKnownReference 64 = .ok (.ldc_w 282, 3) := by decide +kernel
theorem dX3_isKnownReference_67 : decode cX3_isKnownReference 67 = .ok (.iload_n 1, 1) := by decide +kernel
theorem dX3_isKnownReference_68 : decode cX3_isKnownReference 68 = .ok (.iload_n 2, 1) := by decide +kernel
theorem dX3_isKnownReference_69 : decode cX3_isKnownReference 69 = .ok (.invokevirtual 272, 3) := by decide +kernel
theorem dX3_isKnownReference_72 : decode cX3_isKnownReference 72 = .ok (.ifCond .eq 7, 3) := by decide +kernel
theorem dX3_isKnownReference_75 : decode cX3_isKnownReference 75 = .ok (.iconst 1, 1) := by decide +kernel
theorem dX3_isKnownReference_76 : decode cX3_isKnownReference 76 = .ok (.goto 4, 3) := by decide +kernel
theorem dX3_isKnownReference_79 : decode cX3_isKnownReference 79 = .ok (.iconst 0, 1) := by decide +kernel
theorem dX3_isKnownReference_80 : decode cX3_isKnownReference 80 = .ok (.ireturn, 1) := by decide +kernel
theorem dX3_isNamePart_0 : decode cX3_isNamePart 0 = .ok (.iload_n 0, 1) := by decide +kernel
theorem dX3_isNamePart_1 : decode cX3_isNamePart 1 = .ok (.invokestatic 142, 3) := by decide +kernel
theorem dX3_isNamePart_4 : decode cX3_isNamePart 4 = .ok (.ifCond .ne 27, 3) := by decide +kernel
theorem dX3_isNamePart_7 : decode cX3_isNamePart 7 = .ok (.iload_n 0, 1) := by decide +kernel
theorem dX3_isNamePart_8 : decode cX3_isNamePart 8 = .ok (.bipush 48, 2) := by decide +kernel
theorem dX3_isNamePart_10 : decode cX3_isNamePart 10 = .ok (.if_icmp .lt 9, 3) := by decide +kernel
theorem dX3_isNamePart_13 : decode cX3_isNamePart 13 = .ok (.iload_n 0, 1) := by decide +kernel
theorem dX3_isNamePart_14 : decode cX3_isNamePart 14 = .ok (.bipush 57, 2) := by decide +kernel
theorem dX3_isNamePart_16 : decode cX3_isNamePart 16 = .ok (.if_icmp .le 15, 3) := by decide +kernel
theorem dX3_isNamePart_19 : decode cX3_isNamePart 19 = .ok (.iload_n 0, 1) := by decide +kernel
theorem dX3_isNamePart_20 : decode cX3_isNamePart 20 = .ok (.bipush 45, 2) := by decide +kernel
theorem dX3_isNamePart_22 : decode cX3_isNamePart 22 = .ok (.if_icmp .eq 9, 3) := by decide +kernel
theorem dX3_isNamePart_25 : decode cX3_isNamePart 25 = .ok (.iload_n 0, 1) := by decide +kernel
theorem dX3_isNamePart_26 : decode cX3_isNamePart 26 = .ok (.bipush 46, 2) := by decide +kernel
theorem dX3_isNamePart_28 : decode cX3_isNamePart 28 = .ok (.if_icmp .ne 7, 3) := by decide +kernel
theorem dX3_isNamePart_31 : decode cX3_isNamePart 31 = .ok (.iconst 1, 1) := by decide +kernel
theorem dX3_isNamePart_32 : decode cX3_isNamePart 32 = .ok (.goto 4, 3) := by decide +kernel
theorem dX3_isNamePart_35 : decode cX3_isNamePart 35 = .ok (.iconst 0, 1) := by decide +kernel
theorem dX3_isNamePart_36 : decode cX3_isNamePart 36 = .ok (.ireturn, 1) := by decide +kernel
theorem dX3_isNameStart_0 : decode cX3_isNameStart 0 = .ok (.iload_n 0, 1) := by decide +kernel
theorem dX3_isNameStart_1 : decode cX3_isNameStart 1 = .ok (.bipush 65, 2) := by decide +kernel
theorem dX3_isNameStart_3 : decode cX3_isNameStart 3 = .ok (.if_icmp .lt 9, 3) := by decide +kernel
theorem dX3_isNameStart_6 : decode cX3_isNameStart 6 = .ok (.iload_n 0, 1) := by decide +kernel
theorem dX3_isNameStart_7 : decode cX3_isNameStart 7 = .ok (.bipush 90, 2) := by decide +kernel
theorem dX3_isNameStart_9 : decode cX3_isNameStart 9 = .ok (.if_icmp .le 27, 3) := by decide +kernel
theorem dX3_isNameStart_12 : decode cX3_isNameStart 12 = .ok (.iload_n 0, 1) := by decide +kernel
theorem dX3_isNameStart_13 : decode cX3_isNameStart 13 = .ok (.bipush 97, 2) := by decide +kernel
theorem dX3_isNameStart_15 : decode cX3_isNameStart 15 = .ok (.if_icmp .lt 9, 3) := by decide +kernel
theorem dX3_isNameStart_18 : decode cX3_isNameStart 18 = .ok (.iload_n 0, 1) := by decide +kernel
theorem dX3_isNameStart_19 : decode cX3_isNameStart 19 = .ok (.bipush 122, 2) := by decide +kernel
theorem dX3_isNameStart_21 : decode cX3_isNameStart 21 = .ok (.if_icmp .le 15, 3) := by decide +kernel
theorem dX3_isNameStart_24 : decode cX3_isNameStart 24 = .ok (.iload_n 0, 1) := by decide +kernel
theorem dX3_isNameStart_25 : decode cX3_isNameStart 25 = .ok (.bipush 95, 2) := by decide +kernel
theorem dX3_isNameStart_27 : decode cX3_isNameStart 27 = .ok (.if_icmp .eq 9, 3) := by decide +kernel
theorem dX3_isNameStart_30 : decode cX3_isNameStart 30 = .ok (.iload_n 0, 1) := by decide +kernel
theorem dX3_isNameStart_31 : decode cX3_isNameStart 31 = .ok (.bipush 58, 2) := by decide +kernel
theorem dX3_isNameStart_33 : decode cX3_isNameStart 33 = .ok (.if_icmp .ne 7, 3) := by decide +kernel
theorem dX3_isNameStart_36 : decode cX3_isNameStart 36 = .ok (.iconst 1, 1) := by decide +kernel
theorem dX3_isNameStart_37 : decode cX3_isNameStart 37 = .ok (.goto 4, 3) := by decide +kernel
theorem dX3_isNameStart_40 : decode cX3_isNameStart 40 = .ok (.iconst 0, 1) := by decide +kernel
theorem dX3_isNameStart_41 : decode cX3_isNameStart 41 = .ok (.ireturn, 1) := by decide +kernel
theorem dX3_isReserved_0 : decode cX3_isReserved 0 = .ok (.iload_n 2, 1) := by decide +kernel
theorem dX3_isReserved_1 : decode cX3_isReserved 1 = .ok (.iload_n 1, 1) := by decide +kernel
theorem dX3_isReserved_2 : decode cX3_isReserved 2 = .ok (.isub, 1) := by decide +kernel
theorem dX3_isReserved_3 : decode cX3_isReserved 3 = .ok (.iconst 3, 1) := by decide +kernel
theorem dX3_isReserved_4 : decode cX3_isReserved 4 = .ok (.if_icmp .ne 59, 3) := by decide +kernel
theorem dX3_isReserved_7 : decode cX3_isReserved 7 = .ok (.aload_n 0, 1) := by decide +kernel
theorem dX3_isReserved_8 : decode cX3_isReserved 8 = .ok (.getfield 16, 3) := by decide +kernel
theorem dX3_isReserved_11 : decode cX3_isReserved 11 = .ok (.iload_n 1, 1) := by decide +kernel
theorem dX3_isReserved_12 : decode cX3_isReserved 12 = .ok (.invokevirtual 82, 3) := by decide +kernel
theorem dX3_isReserved_15 : decode cX3_isReserved 15 = .ok (.bipush 32, 2) := by decide +kernel
theorem dX3_isReserved_17 : decode cX3_isReserved 17 = .ok (.ior, 1) := by decide +kernel
theorem dX3_isReserved_18 : decode cX3_isReserved 18 = .ok (.bipush 120, 2) := by decide +kernel
theorem dX3_isReserved_20 : decode cX3_isReserved 20 = .ok (.if_icmp .ne 43, 3) := by decide +kernel
theorem dX3_isReserved_23 : decode cX3_isReserved 23 = .ok (.aload_n 0, 1) := by decide +kernel
theorem dX3_isReserved_24 : decode cX3_isReserved 24 = .ok (.getfield 16, 3) := by decide +kernel
theorem dX3_isReserved_27 : decode cX3_isReserved 27 = .ok (.iload_n 1, 1) := by decide +kernel
theorem dX3_isReserved_28 : decode cX3_isReserved 28 = .ok (.iconst 1, 1) := by decide +kernel
theorem dX3_isReserved_29 : decode cX3_isReserved 29 = .ok (.iadd, 1) := by decide +kernel
theorem dX3_isReserved_30 : decode cX3_isReserved 30 = .ok (.invokevirtual 82, 3) := by decide +kernel
theorem dX3_isReserved_33 : decode cX3_isReserved 33 = .ok (.bipush 32, 2) := by decide +kernel
theorem dX3_isReserved_35 : decode cX3_isReserved 35 = .ok (.ior, 1) := by decide +kernel
theorem dX3_isReserved_36 : decode cX3_isReserved 36 = .ok (.bipush 109, 2) := by decide +kernel
theorem dX3_isReserved_38 : decode cX3_isReserved 38 = .ok (.if_icmp .ne 25, 3) := by decide +kernel
theorem dX3_isReserved_41 : decode cX3_isReserved 41 = .ok (.aload_n 0, 1) := by decide +kernel
theorem dX3_isReserved_42 : decode cX3_isReserved 42 = .ok (.getfield 16, 3) := by decide +kernel
theorem dX3_isReserved_45 : decode cX3_isReserved 45 = .ok (.iload_n 1, 1) := by decide +kernel
theorem dX3_isReserved_46 : decode cX3_isReserved 46 = .ok (.iconst 2, 1) := by decide +kernel
theorem dX3_isReserved_47 : decode cX3_isReserved 47 = .ok (.iadd, 1) := by decide +kernel
theorem dX3_isReserved_48 : decode cX3_isReserved 48 = .ok (.invokevirtual 82, 3) := by decide +kernel
theorem dX3_isReserved_51 : decode cX3_isReserved 51 = .ok (.bipush 32, 2) := by decide +kernel
theorem dX3_isReserved_53 : decode cX3_isReserved 53 = .ok (.ior, 1) := by decide +kernel
theorem dX3_isReserved_54 : decode cX3_isReserved 54 = .ok (.bipush 108, 2) := by decide +kernel
theorem dX3_isReserved_56 : decode cX3_isReserved 56 = .ok (.if_icmp .ne 7, 3) := by decide +kernel
theorem dX3_isReserved_59 : decode cX3_isReserved 59 = .ok (.iconst 1, 1) := by decide +kernel
theorem dX3_isReserved_60 : decode cX3_isReserved 60 = .ok (.goto 4, 3) := by decide +kernel
theorem dX3_isReserved_63 : decode cX3_isReserved 63 = .ok (.iconst 0, 1) := by decide +kernel
theorem dX3_isReserved_64 : decode cX3_isReserved 64 = .ok (.ireturn, 1) := by decide +kernel
theorem dX3_piece_0 : decode cX3_piece 0 = .ok (.aload_n 0, 1) := by decide +kernel
theorem dX3_piece_1 : decode cX3_piece 1 = .ok (.getfield 23, 3) := by decide +kernel
theorem dX3_piece_4 : decode cX3_piece 4 = .ok (.iload_n 1, 1) := by decide +kernel
theorem dX3_piece_5 : decode cX3_piece 5 = .ok (.iload_n 2, 1) := by decide +kernel
theorem dX3_piece_6 : decode cX3_piece 6 = .ok (.invokevirtual 78, 3) := by decide +kernel
theorem dX3_piece_9 : decode cX3_piece 9 = .ok (.ireturn, 1) := by decide +kernel
theorem dX3_place_0 : decode cX3_place 0 = .ok (.aload_n 0, 1) := by decide +kernel
theorem dX3_place_1 : decode cX3_place 1 = .ok (.getfield 16, 3) := by decide +kernel
theorem dX3_place_4 : decode cX3_place 4 = .ok (.getfield 75, 3) := by decide +kernel
theorem dX3_place_7 : decode cX3_place 7 = .ok (.ireturn, 1) := by decide +kernel
theorem dX3_put_0 : decode cX3_put 0 = .ok (.iload_n 3, 1) := by decide +kernel
theorem dX3_put_1 : decode cX3_put 1 = .ok (.iconst 1, 1) := by decide +kernel
theorem dX3_put_2 : decode cX3_put 2 = .ok (.if_icmp .lt 21, 3) := by decide +kernel
theorem dX3_put_5 : decode cX3_put 5 = .ok (.iload_n 3, 1) := by decide +kernel
theorem dX3_put_6 : decode cX3_put 6 = .ok (.bipush 8, 2) := by decide +kernel
theorem dX3_put_8 : decode cX3_put 8 = .ok (.if_icmp .gt 15, 3) := by decide +kernel
theorem dX3_put_11 : decode cX3_put 11 = .ok (.aload_n 0, 1) := by decide +kernel
theorem dX3_put_12 : decode cX3_put 12 = .ok (.getfield 43, 3) := by decide +kernel
theorem dX3_put_15 : decode cX3_put 15 = .ok (.sipush 500, 3) := by decide +kernel
theorem dX3_put_18 : decode cX3_put 18 = .ok (.iload_n 3, 1) := by decide +kernel
theorem dX3_put_19 : decode cX3_put 19 = .ok (.isub, 1) := by decide +kernel
theorem dX3_put_20 : decode cX3_put 20 = .ok (.if_icmp .le 5, 3) := by decide +kernel
theorem dX3_put_23 : decode cX3_put 23 = .ok (.iconst 0, 1) := by decide +kernel
theorem dX3_put_24 : decode cX3_put 24 = .ok (.ireturn, 1) := by decide +kernel
theorem dX3_put_25 : decode cX3_put 25 = .ok (.iload_n 3, 1) := by decide +kernel
theorem dX3_put_26 : decode cX3_put 26 = .ok (.iconst 1, 1) := by decide +kernel
theorem dX3_put_27 : decode cX3_put 27 = .ok (.isub, 1) := by decide +kernel
theorem dX3_put_28 : decode cX3_put 28 = .ok (.istore 4, 2) := by decide +kernel
theorem dX3_put_30 : decode cX3_put 30 = .ok (.iload 4, 2) := by decide +kernel
theorem dX3_put_32 : decode cX3_put 32 = .ok (.ifCond .lt 59, 3) := by decide +kernel
theorem dX3_put_35 : decode cX3_put 35 = .ok (.aload_n 0, 1) := by decide +kernel
theorem dX3_put_36 : decode cX3_put 36 = .ok (.getfield 43, 3) := by decide +kernel
theorem dX3_put_39 : decode cX3_put 39 = .ok (.ifCond .lt 46, 3) := by decide +kernel
theorem dX3_put_42 : decode cX3_put 42 = .ok (.aload_n 0, 1) := by decide +kernel
theorem dX3_put_43 : decode cX3_put 43 = .ok (.getfield 43, 3) := by decide +kernel
theorem dX3_put_46 : decode cX3_put 46 = .ok (.aload_n 0, 1) := by decide +kernel
theorem dX3_put_47 : decode cX3_put 47 = .ok (.getfield 9, 3) := by decide +kernel
theorem dX3_put_50 : decode cX3_put 50 = .ok (.arraylength, 1) := by decide +kernel
theorem dX3_put_51 : decode cX3_put 51 = .ok (.if_icmp .ge 34, 3) := by decide +kernel
theorem dX3_put_54 : decode cX3_put 54 = .ok (.aload_n 0, 1) := by decide +kernel
theorem dX3_put_55 : decode cX3_put 55 = .ok (.getfield 9, 3) := by decide +kernel
theorem dX3_put_58 : decode cX3_put 58 = .ok (.aload_n 0, 1) := by decide +kernel
theorem dX3_put_59 : decode cX3_put 59 = .ok (.getfield 43, 3) := by decide +kernel
theorem dX3_put_62 : decode cX3_put 62 = .ok (.lload_n 1, 1) := by decide +kernel
theorem dX3_put_63 : decode cX3_put 63 = .ok (.bipush 8, 2) := by decide +kernel
theorem dX3_put_65 : decode cX3_put 65 = .ok (.iload 4, 2) := by decide +kernel
theorem dX3_put_67 : decode cX3_put 67 = .ok (.imul, 1) := by decide +kernel
theorem dX3_put_68 : decode cX3_put 68 = .ok (.lushr, 1) := by decide +kernel
theorem dX3_put_69 : decode cX3_put 69 = .ok (.l2i, 1) := by decide +kernel
theorem dX3_put_70 : decode cX3_put 70 = .ok (.sipush 255, 3) := by decide +kernel
theorem dX3_put_73 : decode cX3_put 73 = .ok (.iand, 1) := by decide +kernel
theorem dX3_put_74 : decode cX3_put 74 = .ok (.iastore, 1) := by decide +kernel
theorem dX3_put_75 : decode cX3_put 75 = .ok (.aload_n 0, 1) := by decide +kernel
theorem dX3_put_76 : decode cX3_put 76 = .ok (.dup, 1) := by decide +kernel
theorem dX3_put_77 : decode cX3_put 77 = .ok (.getfield 43, 3) := by decide +kernel
theorem dX3_put_80 : decode cX3_put 80 = .ok (.iconst 1, 1) := by decide +kernel
theorem dX3_put_81 : decode cX3_put 81 = .ok (.iadd, 1) := by decide +kernel
theorem dX3_put_82 : decode cX3_put 82 = .ok (.putfield 43, 3) := by decide +kernel
theorem dX3_put_85 : decode cX3_put 85 = .ok (.iinc 4 (-1), 3) := by decide +kernel
theorem dX3_put_88 : decode cX3_put 88 = .ok (.goto (-58), 3) := by decide +kernel
theorem dX3_put_91 : decode cX3_put 91 = .ok (.iconst 1, 1) := by decide +kernel
theorem dX3_put_92 : decode cX3_put 92 = .ok (.ireturn, 1) := by decide +kernel
theorem dX3_read_0 : decode cX3_read 0 = .ok (.aload_n 0, 1) := by decide +kernel
theorem dX3_read_1 : decode cX3_read 1 = .ok (.invokevirtual 46, 3) := by decide +kernel
theorem dX3_read_4 : decode cX3_read 4 = .ok (.iconst 0, 1) := by decide +kernel
theorem dX3_read_5 : decode cX3_read 5 = .ok (.istore_n 1, 1) := by decide +kernel
theorem dX3_read_6 : decode cX3_read 6 = .ok (.iload_n 1, 1) := by decide +kernel
theorem dX3_read_7 : decode cX3_read 7 = .ok (.sipush 500, 3) := by decide +kernel
theorem dX3_read_10 : decode cX3_read 10 = .ok (.if_icmp .ge 52, 3) := by decide +kernel
theorem dX3_read_13 : decode cX3_read 13 = .ok (.aload_n 0, 1) := by decide +kernel
theorem dX3_read_14 : decode cX3_read 14 = .ok (.getfield 16, 3) := by decide +kernel
theorem dX3_read_17 : decode cX3_read 17 = .ok (.invokevirtual 49, 3) := by decide +kernel
theorem dX3_read_20 : decode cX3_read 20 = .ok (.ifCond .eq 42, 3) := by decide +kernel
theorem dX3_read_23 : decode cX3_read 23 = .ok (.aload_n 0, 1) := by decide +kernel
theorem dX3_read_24 : decode cX3_read 24 = .ok (.getfield 39, 3) := by decide +kernel
theorem dX3_read_27 : decode cX3_read 27 = .ok (.iconst (-1), 1) := by decide +kernel
theorem dX3_read_28 : decode cX3_read 28 = .ok (.if_icmp .eq 10, 3) := by decide +kernel
theorem dX3_read_31 : decode cX3_read 31 = .ok (.aload_n 0, 1) := by decide +kernel
theorem dX3_read_32 : decode cX3_read 32 = .ok (.invokevirtual 53, 3) := by decide +kernel
theorem dX3_read_35 : decode cX3_read 35 = .ok (.goto 21, 3) := by decide +kernel
theorem dX3_read_38 : decode cX3_read 38 = .ok (.aload_n 0, 1) := by decide +kernel
theorem dX3_read_39 : decode cX3_read 39 = .ok (.getfield 56, 3) := by decide +kernel
theorem dX3_read_42 : decode cX3_read 42 = .ok (.ifCond .eq 10, 3) := by decide +kernel
theorem dX3_read_45 : decode cX3_read 45 = .ok (.aload_n 0, 1) := by decide +kernel
theorem dX3_read_46 : decode cX3_read 46 = .ok (.invokevirtual 60, 3) := by decide +kernel
theorem dX3_read_49 : decode cX3_read 49 = .ok (.goto 7, 3) := by decide +kernel
theorem dX3_read_52 : decode cX3_read 52 = .ok (.aload_n 0, 1) := by decide +kernel
theorem dX3_read_53 : decode cX3_read 53 = .ok (.invokevirtual 63, 3) := by decide +kernel
theorem dX3_read_56 : decode cX3_read 56 = .ok (.iinc 1 1, 3) := by decide +kernel
theorem dX3_read_59 : decode cX3_read 59 = .ok (.goto (-53), 3) := by decide +kernel
theorem dX3_read_62 : decode cX3_read 62 = .ok (.aload_n 0, 1) := by decide +kernel
theorem dX3_read_63 : decode cX3_read 63 = .ok (.invokevirtual 66, 3) := by decide +kernel
theorem dX3_read_66 : decode cX3_read 66 = .ok (.aload_n 0, 1) := by decide +kernel
theorem dX3_read_67 : decode cX3_read 67 = .ok (.getfield 16, 3) := by decide +kernel
theorem dX3_read_70 : decode cX3_read 70 = .ok (.getfield 69, 3) := by decide +kernel
theorem dX3_read_73 : decode cX3_read 73 = .ok (.ifCond .ne 13, 3) := by decide +kernel
theorem dX3_read_76 : decode cX3_read 76 = .ok (.aload_n 0, 1) := by decide +kernel
theorem dX3_read_77 : decode cX3_read 77 = .ok (.getfield 23, 3) := by decide +kernel
theorem dX3_read_80 : decode cX3_read 80 = .ok (.getfield 72, 3) := by decide +kernel
theorem dX3_read_83 : decode cX3_read 83 = .ok (.goto 12, 3) := by decide +kernel
theorem dX3_read_86 : decode cX3_read 86 = .ok (.iconst (-1), 1) := by decide +kernel
theorem dX3_read_87 : decode cX3_read 87 = .ok (.aload_n 0, 1) := by decide +kernel
theorem dX3_read_88 : decode cX3_read 88 = .ok (.getfield 16, 3) := by decide +kernel
theorem dX3_read_91 : decode cX3_read 91 = .ok (.getfield 69, 3) := by decide +kernel
theorem dX3_read_94 : decode cX3_read 94 = .ok (.isub, 1) := by decide +kernel
theorem dX3_read_95 : decode cX3_read 95 = .ok (.ireturn, 1) := by decide +kernel
theorem dX3_readAttributeName_0 : decode cX3_readAttributeName 0 = .ok (.aload_n 0, 1) := by decide +kernel
theorem dX3_readAttributeName_1 : decode cX3_readAttributeName 1 = .ok (.aload_n 0, 1) := by decide +kernel
theorem dX3_readAttributeName_2 : decode cX3_readAttributeName 2 = .ok (.getfield 16, 3) := by decide +kernel
theorem dX3_readAttributeName_5 : decode cX3_readAttributeName 5 = .ok (.getfield 123, 3) := by decide +kernel
theorem dX3_readAttributeName_8 : decode cX3_readAttributeName 8 = .ok (.putfield 256, 3) := by decide +kernel
theorem dX3_readAttributeName_11 : decode cX3_readAttributeName 11 = .ok (.aload_n 0, 1) := by decide +kernel
theorem dX3_readAttributeName_12 : decode cX3_readAttributeName 12 = .ok (.getfield 16, 3) := by decide +kernel
theorem dX3_readAttributeName_15 : decode cX3_readAttributeName 15 = .ok (.invokevirtual 155, 3) := by decide +kernel
theorem dX3_readAttributeName_18 : decode cX3_readAttributeName 18 = .ok (.ifCond .ne 4, 3) := by decide +kernel
theorem dX3_readAttributeName_21 : decode cX3_readAttributeName 21 = .ok (.return_, 1) := by decide +kernel
theorem dX3_readAttributeName_22 : decode cX3_readAttributeName 22 = .ok (.aload_n 0, 1) := by decide +kernel
theorem dX3_readAttributeName_23 : decode cX3_readAttributeName 23 = .ok (.getfield 36, 3) := by decide +kernel
theorem dX3_readAttributeName_26 : decode cX3_readAttributeName 26 = .ok (.aload_n 0, 1) := by decide +kernel
theorem dX3_readAttributeName_27 : decode cX3_readAttributeName 27 = .ok (.getfield 16, 3) := by decide +kernel
theorem dX3_readAttributeName_30 : decode cX3_readAttributeName 30 = .ok (.aload_n 0, 1) := by decide +kernel
theorem dX3_readAttributeName_31 : decode cX3_readAttributeName 31 = .ok (.getfield 256, 3) := by decide +kernel
theorem dX3_readAttributeName_34 : decode cX3_readAttributeName 34 = .ok (.aload_n 0, 1) := by decide +kernel
theorem dX3_readAttributeName_35 : decode cX3_readAttributeName 35 = .ok (.getfield 16, 3) := by decide +kernel
theorem dX3_readAttributeName_38 : decode cX3_readAttributeName 38 = .ok (.getfield 123, 3) := by decide +kernel
theorem dX3_readAttributeName_41 : decode cX3_readAttributeName 41 = .ok (.invokevirtual 259, 3) := by decide +kernel
theorem dX3_readAttributeName_44 : decode cX3_readAttributeName 44 = .ok (.ifCond .eq 17, 3) := by decide +kernel
theorem dX3_readAttributeName_47 : decode cX3_readAttributeName 47 = .ok (.aload_n 0, 1) := by decide +kernel
theorem dX3_readAttributeName_48 : decode cX3_readAttributeName 48 = .ok (.getfield 16, 3) := by decide +kernel
theorem dX3_readAttributeName_51 : decode cX3_readAttributeName 51 = .ok (.iconst 4, 1) := by decide +kernel
theorem dX3_readAttributeName_52 : decode cX3_readAttributeName 52 = .ok (.aload_n 0, 1) := by decide +kernel
theorem dX3_readAttributeName_53 : decode cX3_readAttributeName 53 = .ok (.getfield 256, 3) := by decide +kernel
theorem dX3_readAttributeName_56 : decode cX3_readAttributeName 56 = .ok (.invokevirtual 135, 3) := by decide +kernel
theorem dX3_readAttributeName_59 : decode cX3_readAttributeName 59 = .ok (.pop, 1) := by decide +kernel
theorem dX3_readAttributeName_60 : decode cX3_readAttributeName 60 = .ok (.return_, 1) := by decide +kernel
theorem dX3_readAttributeName_61 : decode cX3_readAttributeName 61 = .ok (.aload_n 0, 1) := by decide +kernel
theorem dX3_readAttributeName_62 : decode cX3_readAttributeName 62 = .ok (.getfield 36, 3) := by decide +kernel
theorem dX3_readAttributeName_65 : decode cX3_readAttributeName 65 = .ok (.invokevirtual 233, 3) := by decide +kernel
theorem dX3_readAttributeName_68 : decode cX3_readAttributeName 68 = .ok (.ifCond .eq 18, 3) := by decide +kernel
theorem dX3_readAttributeName_71 : decode cX3_readAttributeName 71 = .ok (.aload_n 0, 1) := by decide +kernel
theorem dX3_readAttributeName_72 : decode cX3_readAttributeName 72 = .ok (.getfield 16, 3) := by decide +kernel
theorem dX3_readAttributeName_75 : decode cX3_readAttributeName 75 = .ok (.bipush 15, 2) := by decide +kernel
theorem dX3_readAttributeName_77 : decode cX3_readAttributeName 77 = .ok (.aload_n 0, 1) := by decide +kernel
theorem dX3_readAttributeName_78 : decode cX3_readAttributeName 78 = .ok (.getfield 256, 3) := by decide +kernel
theorem dX3_readAttributeName_81 : decode cX3_readAttributeName 81 = .ok (.invokevirtual 135, 3) := by decide +kernel
theorem dX3_readAttributeName_84 : decode cX3_readAttributeName 84 = .ok (.pop, 1) := by decide +kernel
theorem dX3_readAttributeName_85 : decode cX3_readAttributeName 85 = .ok (.return_, 1) := by decide +kernel
theorem dX3_readAttributeName_86 : decode cX3_readAttributeName 86 = .ok (.aload_n 0, 1) := by decide +kernel
theorem dX3_readAttributeName_87 : decode cX3_readAttributeName 87 = .ok (.getfield 36, 3) := by decide +kernel
theorem dX3_readAttributeName_90 : decode cX3_readAttributeName 90 = .ok (.aload_n 0, 1) := by decide +kernel
theorem dX3_readAttributeName_91 : decode cX3_readAttributeName 91 = .ok (.getfield 256, 3) := by decide +kernel
theorem dX3_readAttributeName_94 : decode cX3_readAttributeName 94 = .ok (.aload_n 0, 1) := by decide +kernel
theorem dX3_readAttributeName_95 : decode cX3_readAttributeName 95 = .ok (.getfield 16, 3) := by decide +kernel
theorem dX3_readAttributeName_98 : decode cX3_readAttributeName 98 = .ok (.getfield 123, 3) := by decide +kernel
theorem dX3_readAttributeName_101 : decode cX3_readAttributeName 101 = .ok (.invokevirtual 250, 3) := by decide +kernel
theorem dX3_readAttributeName_104 : decode cX3_readAttributeName 104 = .ok (.aload_n 0, 1) := by decide +kernel
theorem dX3_readAttributeName_105 : decode cX3_readAttributeName 105 = .ok (.invokevirtual 262, 3) := by decide +kernel
theorem dX3_readAttributeName_108 : decode cX3_readAttributeName 108 = .ok (.return_, 1) := by decide +kernel
theorem dX3_readBetween_0 : decode cX3_readBetween 0 = .ok (.aload_n 0, 1) := by decide +kernel
theorem dX3_readBetween_1 : decode cX3_readBetween 1 = .ok (.getfield 16, 3) := by decide +kernel
theorem dX3_readBetween_4 : decode cX3_readBetween 4 = .ok (.invokevirtual 107, 3) := by decide +kernel
theorem dX3_readBetween_7 : decode cX3_readBetween 7 = .ok (.istore_n 1, 1) := by decide +kernel
theorem dX3_readBetween_8 : decode cX3_readBetween 8 = .ok (.iload_n 1, 1) := by decide +kernel
theorem dX3_readBetween_9 : decode cX3_readBetween 9 = .ok (.bipush 60, 2) := by decide +kernel
theorem dX3_readBetween_11 : decode cX3_readBetween 11 = .ok (.if_icmp .ne 10, 3) := by decide +kernel
theorem dX3_readBetween_14 : decode cX3_readBetween 14 = .ok (.aload_n 0, 1) := by decide +kernel
theorem dX3_readBetween_15 : decode cX3_readBetween 15 = .ok (.invokevirtual 111, 3) := by decide +kernel
theorem dX3_readBetween_18 : decode cX3_readBetween 18 = .ok (.goto 51, 3) := by decide +kernel
theorem dX3_readBetween_21 : decode cX3_readBetween 21 = .ok (.aload_n 0, 1) := by decide +kernel
theorem dX3_readBetween_22 : decode cX3_readBetween 22 = .ok (.getfield 32, 3) := by decide +kernel
theorem dX3_readBetween_25 : decode cX3_readBetween 25 = .ok (.getfield 103, 3) := by decide +kernel
theorem dX3_readBetween_28 : decode cX3_readBetween 28 = .ok (.ifCond .ne 24, 3) := by decide +kernel
theorem dX3_readBetween_31 : decode cX3_readBetween 31 = .ok (.aload_n 0, 1) := by decide +kernel
theorem dX3_readBetween_32 : decode cX3_readBetween 32 = .ok (.getfield 16, 3) := by decide +kernel
theorem dX3_readBetween_35 : decode cX3_readBetween 35 = .ok (.invokevirtual 114, 3) := by decide +kernel
theorem dX3_readBetween_38 : decode cX3_readBetween 38 = .ok (.ifCond .ne 31, 3) := by decide +kernel
theorem dX3_readBetween_41 : decode cX3_readBetween 41 = .ok (.aload_n 0, 1) := by decide +kernel
theorem dX3_readBetween_42 : decode cX3_readBetween 42 = .ok (.getfield 16, 3) := by decide +kernel
theorem dX3_readBetween_45 : decode cX3_readBetween 45 = .ok (.invokevirtual 104, 3) := by decide +kernel
theorem dX3_readBetween_48 : decode cX3_readBetween 48 = .ok (.pop, 1) := by decide +kernel
theorem dX3_readBetween_49 : decode cX3_readBetween 49 = .ok (.goto 20, 3) := by decide +kernel
theorem dX3_readBetween_52 : decode cX3_readBetween 52 = .ok (.iload_n 1, 1) := by decide +kernel
theorem dX3_readBetween_53 : decode cX3_readBetween 53 = .ok (.bipush 38, 2) := by decide +kernel
theorem dX3_readBetween_55 : decode cX3_readBetween 55 = .ok (.if_icmp .ne 10, 3) := by decide +kernel
theorem dX3_readBetween_58 : decode cX3_readBetween 58 = .ok (.aload_n 0, 1) := by decide +kernel
theorem dX3_readBetween_59 : decode cX3_readBetween 59 = .ok (.invokevirtual 117, 3) := by decide +kernel
theorem dX3_readBetween_62 : decode cX3_readBetween 62 = .ok (.goto 7, 3) := by decide +kernel
theorem dX3_readBetween_65 : decode cX3_readBetween 65 = .ok (.aload_n 0, 1) := by decide +kernel
theorem dX3_readBetween_66 : decode cX3_readBetween 66 = .ok (.invokevirtual 120, 3) := by decide +kernel
theorem dX3_readBetween_69 : decode cX3_readBetween 69 = .ok (.return_, 1) := by decide +kernel
theorem dX3_readCharacters_0 : decode cX3_readCharacters 0 = .ok (.aload_n 0, 1) := by decide +kernel
theorem dX3_readCharacters_1 : decode cX3_readCharacters 1 = .ok (.getfield 16, 3) := by decide +kernel
theorem dX3_readCharacters_4 : decode cX3_readCharacters 4 = .ok (.getfield 123, 3) := by decide +kernel
theorem dX3_readCharacters_7 : decode cX3_readCharacters 7 = .ok (.istore_n 1, 1) := by decide +kernel
theorem dX3_readCharacters_8 : decode cX3_readCharacters 8 = .ok (.aload_n 0, 1) := by decide +kernel
theorem dX3_readCharacters_9 : decode cX3_readCharacters 9 = .ok (.getfield 16, 3) := by decide +kernel
theorem dX3_readCharacters_12 : decode cX3_readCharacters 12 = .ok (.getfield 123, 3) := by decide +kernel
theorem dX3_readCharacters_15 : decode cX3_readCharacters 15 = .ok (.aload_n 0, 1) := by decide +kernel
theorem dX3_readCharacters_16 : decode cX3_readCharacters 16 = .ok (.getfield 16, 3) := by decide +kernel
theorem dX3_readCharacters_19 : decode cX3_readCharacters 19 = .ok (.getfield 182, 3) := by decide +kernel
theorem dX3_readCharacters_22 : decode cX3_readCharacters 22 = .ok (.if_icmp .ge 97, 3) := by decide +kernel
theorem dX3_readCharacters_25 : decode cX3_readCharacters 25 = .ok (.aload_n 0, 1) := by decide +kernel
theorem dX3_readCharacters_26 : decode cX3_readCharacters 26 = .ok (.getfield 16, 3) := by decide +kernel
theorem dX3_readCharacters_29 : decode cX3_readCharacters 29 = .ok (.invokevirtual 107, 3) := by decide +kernel
theorem dX3_readCharacters_32 : decode cX3_readCharacters 32 = .ok (.invokestatic 185, 3) := by decide +kernel
theorem dX3_readCharacters_35 : decode cX3_readCharacters 35 = .ok (.ifCond .eq 84, 3) := by decide +kernel
theorem dX3_readCharacters_38 : decode cX3_readCharacters 38 = .ok (.aload_n 0, 1) := by decide +kernel
theorem dX3_readCharacters_39 : decode cX3_readCharacters 39 = .ok (.getfield 16, 3) := by decide +kernel
theorem dX3_readCharacters_42 : decode cX3_readCharacters 42 = .ok (.getfield 123, 3) := by decide +kernel
theorem dX3_readCharacters_45 : decode cX3_readCharacters 45 = .ok (.iload_n 1, 1) := by decide +kernel
theorem dX3_readCharacters_46 : decode cX3_readCharacters 46 = .ok (.iconst 2, 1) := by decide +kernel
theorem dX3_readCharacters_47 : decode cX3_readCharacters 47 = .ok (.iadd, 1) := by decide +kernel
theorem dX3_readCharacters_48 : decode cX3_readCharacters 48 = .ok (.if_icmp .lt 28, 3) := by decide +kernel
theorem dX3_readCharacters_51 : decode cX3_readCharacters 51 = .ok (.aload_n 0, 1) := by decide +kernel
theorem dX3_readCharacters_52 : decode cX3_readCharacters 52 = .ok (.getfield 16, 3) := by decide +kernel
theorem dX3_readCharacters_55 : decode cX3_readCharacters 55 = .ok (.ldc 188, 2) := by decide +kernel
theorem dX3_readCharacters_57 : decode cX3_readCharacters 57 = .ok (.aload_n 0, 1) := by decide +kernel
theorem dX3_readCharacters_58 : decode cX3_readCharacters 58 = .ok (.getfield 16, 3) := by decide +kernel
theorem dX3_readCharacters_61 : decode cX3_readCharacters 61 = .ok (.getfield 123, 3) := by decide +kernel
theorem dX3_readCharacters_64 : decode cX3_readCharacters 64 = .ok (.iconst 2, 1) := by decide +kernel
theorem dX3_readCharacters_65 : decode cX3_readCharacters 65 = .ok (.isub, 1) := by decide +kernel
theorem dX3_readCharacters_66 : decode cX3_readCharacters 66 = .ok (.invokevirtual 190, 3) := by decide +kernel
theorem dX3_readCharacters_69 : decode cX3_readCharacters 69 = .ok (.ifCond .eq 7, 3) := by decide +kernel
theorem dX3_readCharacters_72 : decode cX3_readCharacters 72 = .ok (.iconst 1, 1) := by decide +kernel
theorem dX3_readCharacters_73 : decode cX3_readCharacters 73 = .ok (.goto 4, 3) := by decide +kernel
theorem dX3_readCharacters_76 : decode cX3_readCharacters 76 = .ok (.iconst 0, 1) := by decide +kernel
theorem dX3_readCharacters_77 : decode cX3_readCharacters 77 = .ok (.istore_n 2, 1) := by decide +kernel
theorem dX3_readCharacters_78 : decode cX3_readCharacters 78 = .ok (.iload_n 2, 1) := by decide +kernel
theorem dX3_readCharacters_79 : decode cX3_readCharacters 79 = .ok (.ifCond .eq 24, 3) := by decide +kernel
theorem dX3_readCharacters_82 : decode cX3_readCharacters 82 = .ok (.aload_n 0, 1) := by decide +kernel
theorem dX3_readCharacters_83 : decode cX3_readCharacters 83 = .ok (.getfield 16, 3) := by decide +kernel
theorem dX3_readCharacters_86 : decode cX3_readCharacters 86 = .ok (.invokevirtual 107, 3) := by decide +kernel
theorem dX3_readCharacters_89 : decode cX3_readCharacters 89 = .ok (.bipush 62, 2) := by decide +kernel
theorem dX3_readCharacters_91 : decode cX3_readCharacters 91 = .ok (.if_icmp .ne 12, 3) := by decide +kernel
theorem dX3_readCharacters_94 : decode cX3_readCharacters 94 = .ok (.aload_n 0, 1) := by decide +kernel
theorem dX3_readCharacters_95 : decode cX3_readCharacters 95 = .ok (.getfield 16, 3) := by decide +kernel
theorem dX3_readCharacters_98 : decode cX3_readCharacters 98 = .ok (.invokevirtual 104, 3) := by decide +kernel
theorem dX3_readCharacters_101 : decode cX3_readCharacters 101 = .ok (.pop, 1) := by decide +kernel
theorem dX3_readCharacters_102 : decode cX3_readCharacters 102 = .ok (.return_, 1) := by decide +kernel
theorem dX3_readCharacters_103 : decode cX3_readCharacters 103 = .ok (.aload_n 0, 1) := by decide +kernel
theorem dX3_readCharacters_104 : decode cX3_readCharacters 104 = .ok (.getfield 16, 3) := by decide +kernel
theorem dX3_readCharacters_107 : decode cX3_readCharacters 107 = .ok (.dup, 1) := by decide +kernel
theorem dX3_readCharacters_108 : decode cX3_readCharacters 108 = .ok (.getfield 123, 3) := by decide +kernel
theorem dX3_readCharacters_111 : decode cX3_readCharacters 111 = .ok (.iconst 1, 1) := by decide +kernel
theorem dX3_readCharacters_112 : decode cX3_readCharacters 112 = .ok (.iadd, 1) := by decide +kernel
theorem dX3_readCharacters_113 : decode cX3_readCharacters 113 = .ok (.putfield 123, 3) := by decide +kernel
theorem dX3_readCharacters_116 : decode cX3_readCharacters 116 = .ok (.goto (-108), 3) := by decide +kernel
theorem dX3_readCharacters_119 : decode cX3_readCharacters 119 = .ok (.aload_n 0, 1) := by decide +kernel
theorem dX3_readCharacters_120 : decode cX3_readCharacters 120 = .ok (.getfield 16, 3) := by decide +kernel
theorem dX3_readCharacters_123 : decode cX3_readCharacters 123 = .ok (.getfield 123, 3) := by decide +kernel
theorem dX3_readCharacters_126 : decode cX3_readCharacters 126 = .ok (.iload_n 1, 1) := by decide +kernel
theorem dX3_readCharacters_127 : decode cX3_readCharacters 127 = .ok (.if_icmp .ne 14, 3) := by decide +kernel
theorem dX3_readCharacters_130 : decode cX3_readCharacters 130 = .ok (.aload_n 0, 1) := by decide +kernel
theorem dX3_readCharacters_131 : decode cX3_readCharacters 131 = .ok (.getfield 16, 3) := by decide +kernel
theorem dX3_readCharacters_134 : decode cX3_readCharacters 134 = .ok (.invokevirtual 104, 3) := by decide +kernel
theorem dX3_readCharacters_137 : decode cX3_readCharacters 137 = .ok (.pop, 1) := by decide +kernel
theorem dX3_readCharacters_138 : decode cX3_readCharacters 138 = .ok (.goto 27, 3) := by decide +kernel
theorem dX3_readCharacters_141 : decode cX3_readCharacters 141 = .ok (.aload_n 0, 1) := by decide +kernel
theorem dX3_readCharacters_142 : decode cX3_readCharacters 142 = .ok (.getfield 16, 3) := by decide +kernel
theorem dX3_readCharacters_145 : decode cX3_readCharacters 145 = .ok (.getfield 123, 3) := by decide +kernel
theorem dX3_readCharacters_148 : decode cX3_readCharacters 148 = .ok (.aload_n 0, 1) := by decide +kernel
theorem dX3_readCharacters_149 : decode cX3_readCharacters 149 = .ok (.getfield 16, 3) := by decide +kernel
theorem dX3_readCharacters_152 : decode cX3_readCharacters 152 = .ok (.getfield 182, 3) := by decide +kernel
theorem dX3_readCharacters_155 : decode cX3_readCharacters 155 = .ok (.if_icmp .ge 10, 3) := by decide +kernel
theorem dX3_readCharacters_158 : decode cX3_readCharacters 158 = .ok (.aload_n 0, 1) := by decide +kernel
theorem dX3_readCharacters_159 : decode cX3_readCharacters 159 = .ok (.iconst 4, 1) := by decide +kernel
theorem dX3_readCharacters_160 : decode cX3_readCharacters 160 = .ok (.iload_n 1, 1) := by decide +kernel
theorem dX3_readCharacters_161 : decode cX3_readCharacters 161 = .ok (.invokevirtual 169, 3) := by decide +kernel
theorem dX3_readCharacters_164 : decode cX3_readCharacters 164 = .ok (.pop, 1) := by decide +kernel
theorem dX3_readCharacters_165 : decode cX3_readCharacters 165 = .ok (.return_, 1) := by decide +kernel
theorem dX3_readComment_0 : decode cX3_readComment 0 = .ok (.aload_n 0, 1) := by decide +kernel
theorem dX3_readComment_1 : decode cX3_readComment 1 = .ok (.getfield 16, 3) := by decide +kernel
theorem dX3_readComment_4 : decode cX3_readComment 4 = .ok (.getfield 123, 3) := by decide +kernel
theorem dX3_readComment_7 : decode cX3_readComment 7 = .ok (.istore_n 1, 1) := by decide +kernel
theorem dX3_readComment_8 : decode cX3_readComment 8 = .ok (.aload_n 0, 1) := by decide +kernel
theorem dX3_readComment_9 : decode cX3_readComment 9 = .ok (.getfield 16, 3) := by decide +kernel
theorem dX3_readComment_12 : decode cX3_readComment 12 = .ok (.ldc 172, 2) := by decide +kernel
theorem dX3_readComment_14 : decode cX3_readComment 14 = .ok (.invokevirtual 151, 3) := by decide +kernel
theorem dX3_readComment_17 : decode cX3_readComment 17 = .ok (.ifCond .eq 35, 3) := by decide +kernel
theorem dX3_readComment_20 : decode cX3_readComment 20 = .ok (.aload_n 0, 1) := by decide +kernel
theorem dX3_readComment_21 : decode cX3_readComment 21 = .ok (.getfield 16, 3) := by decide +kernel
theorem dX3_readComment_24 : decode cX3_readComment 24 = .ok (.ldc 174, 2) := by decide +kernel
theorem dX3_readComment_26 : decode cX3_readComment 26 = .ok (.invokevirtual 166, 3) := by decide +kernel
theorem dX3_readComment_29 : decode cX3_readComment 29 = .ok (.ifCond .eq 23, 3) := by decide +kernel
theorem dX3_readComment_32 : decode cX3_readComment 32 = .ok (.aload_n 0, 1) := by decide +kernel
theorem dX3_readComment_33 : decode cX3_readComment 33 = .ok (.getfield 16, 3) := by decide +kernel
theorem dX3_readComment_36 : decode cX3_readComment 36 = .ok (.ldc 176, 2) := by decide +kernel
theorem dX3_readComment_38 : decode cX3_readComment 38 = .ok (.invokevirtual 151, 3) := by decide +kernel
theorem dX3_readComment_41 : decode cX3_readComment 41 = .ok (.ifCond .eq 11, 3) := by decide +kernel
theorem dX3_readComment_44 : decode cX3_readComment 44 = .ok (.aload_n 0, 1) := by decide +kernel
theorem dX3_readComment_45 : decode cX3_readComment 45 = .ok (.bipush 7, 2) := by decide +kernel
theorem dX3_readComment_47 : decode cX3_readComment 47 = .ok (.iload_n 1, 1) := by decide +kernel
theorem dX3_readComment_48 : decode cX3_readComment 48 = .ok (.invokevirtual 169, 3) := by decide +kernel
theorem dX3_readComment_51 : decode cX3_readComment 51 = .ok (.pop, 1) := by decide +kernel
theorem dX3_readComment_52 : decode cX3_readComment 52 = .ok (.return_, 1) := by decide +kernel
theorem dX3_readContentReference_0 : decode cX3_readContentReference 0 = .ok (.aload_n 0, 1) := by decide +kernel
theorem dX3_readContentReference_1 : decode cX3_readContentReference 1 = .ok (.getfield 16, 3) := by decide +kernel
theorem dX3_readContentReference_4 : decode cX3_readContentReference 4 = .ok (.getfield 123, 3) := by decide +kernel
theorem dX3_readContentReference_7 : decode cX3_readContentReference 7 = .ok (.istore_n 1, 1) := by decide +kernel
theorem dX3_readContentReference_8 : decode cX3_readContentReference 8 = .ok (.aload_n 0, 1) := by decide +kernel
theorem dX3_readContentReference_9 : decode cX3_readContentReference 9 = .ok (.invokevirtual 194, 3) := by decide +kernel
theorem dX3_readContentReference_12 : decode cX3_readContentReference 12 = .ok (.ifCond .eq 10, 3) := by decide +kernel
theorem dX3_readContentReference_15 : decode cX3_readContentReference 15 = .ok (.aload_n 0, 1) := by decide +kernel
theorem dX3_readContentReference_16 : decode cX3_readContentReference 16 = .ok (.iconst 5, 1) := by decide +kernel
theorem dX3_readContentReference_17 : decode cX3_readContentReference 17 = .ok (.iload_n 1, 1) := by decide +kernel
theorem dX3_readContentReference_18 : decode cX3_readContentReference 18 = .ok (.invokevirtual 169, 3) := by decide +kernel
theorem dX3_readContentReference_21 : decode cX3_readContentReference 21 = .ok (.pop, 1) := by decide +kernel
theorem dX3_readContentReference_22 : decode cX3_readContentReference 22 = .ok (.return_, 1) := by decide +kernel
theorem dX3_readEndTag_0 : decode cX3_readEndTag 0 = .ok (.aload_n 0, 1) := by decide +kernel
theorem dX3_readEndTag_1 : decode cX3_readEndTag 1 = .ok (.getfield 16, 3) := by decide +kernel
theorem dX3_readEndTag_4 : decode cX3_readEndTag 4 = .ok (.getfield 123, 3) := by decide +kernel
theorem dX3_readEndTag_7 : decode cX3_readEndTag 7 = .ok (.istore_n 1, 1) := by decide +kernel
theorem dX3_readEndTag_8 : decode cX3_readEndTag 8 = .ok (.iload_n 1, 1) := by decide +kernel
theorem dX3_readEndTag_9 : decode cX3_readEndTag 9 = .ok (.iconst 2, 1) := by decide +kernel
theorem dX3_readEndTag_10 : decode cX3_readEndTag 10 = .ok (.iadd, 1) := by decide +kernel
theorem dX3_readEndTag_11 : decode cX3_readEndTag 11 = .ok (.istore_n 2, 1) := by decide +kernel
theorem dX3_readEndTag_12 : decode cX3_readEndTag 12 = .ok (.aload_n 0, 1) := by decide +kernel
theorem dX3_readEndTag_13 : decode cX3_readEndTag 13 = .ok (.getfield 16, 3) := by decide +kernel
theorem dX3_readEndTag_16 : decode cX3_readEndTag 16 = .ok (.ldc 213, 2) := by decide +kernel
theorem dX3_readEndTag_18 : decode cX3_readEndTag 18 = .ok (.invokevirtual 151, 3) := by decide +kernel
theorem dX3_readEndTag_21 : decode cX3_readEndTag 21 = .ok (.ifCond .eq 13, 3) := by decide +kernel
theorem dX3_readEndTag_24 : decode cX3_readEndTag 24 = .ok (.aload_n 0, 1) := by decide +kernel
theorem dX3_readEndTag_25 : decode cX3_readEndTag 25 = .ok (.getfield 16, 3) := by decide +kernel
theorem dX3_readEndTag_28 : decode cX3_readEndTag 28 = .ok (.invokevirtual 155, 3) := by decide +kernel
theorem dX3_readEndTag_31 : decode cX3_readEndTag 31 = .ok (.ifCond .ne 4, 3) := by decide +kernel
theorem dX3_readEndTag_34 : decode cX3_readEndTag 34 = .ok (.return_, 1) := by decide +kernel
theorem dX3_readEndTag_35 : decode cX3_readEndTag 35 = .ok (.aload_n 0, 1) := by decide +kernel
theorem dX3_readEndTag_36 : decode cX3_readEndTag 36 = .ok (.getfield 32, 3) := by decide +kernel
theorem dX3_readEndTag_39 : decode cX3_readEndTag 39 = .ok (.aload_n 0, 1) := by decide +kernel
theorem dX3_readEndTag_40 : decode cX3_readEndTag 40 = .ok (.getfield 16, 3) := by decide +kernel
theorem dX3_readEndTag_43 : decode cX3_readEndTag 43 = .ok (.iload_n 2, 1) := by decide +kernel
theorem dX3_readEndTag_44 : decode cX3_readEndTag 44 = .ok (.aload_n 0, 1) := by decide +kernel
theorem dX3_readEndTag_45 : decode cX3_readEndTag 45 = .ok (.getfield 16, 3) := by decide +kernel
theorem dX3_readEndTag_48 : decode cX3_readEndTag 48 = .ok (.getfield 123, 3) := by decide +kernel
theorem dX3_readEndTag_51 : decode cX3_readEndTag 51 = .ok (.invokevirtual 215, 3) := by decide +kernel
theorem dX3_readEndTag_54 : decode cX3_readEndTag 54 = .ok (.ifCond .ne 14, 3) := by decide +kernel
theorem dX3_readEndTag_57 : decode cX3_readEndTag 57 = .ok (.aload_n 0, 1) := by decide +kernel
theorem dX3_readEndTag_58 : decode cX3_readEndTag 58 = .ok (.getfield 16, 3) := by decide +kernel
theorem dX3_readEndTag_61 : decode cX3_readEndTag 61 = .ok (.iconst 3, 1) := by decide +kernel
theorem dX3_readEndTag_62 : decode cX3_readEndTag 62 = .ok (.iload_n 2, 1) := by decide +kernel
theorem dX3_readEndTag_63 : decode cX3_readEndTag 63 = .ok (.invokevirtual 135, 3) := by decide +kernel
theorem dX3_readEndTag_66 : decode cX3_readEndTag 66 = .ok (.pop, 1) := by decide +kernel
theorem dX3_readEndTag_67 : decode cX3_readEndTag 67 = .ok (.return_, 1) := by decide +kernel
theorem dX3_readEndTag_68 : decode cX3_readEndTag 68 = .ok (.aload_n 0, 1) := by decide +kernel
theorem dX3_readEndTag_69 : decode cX3_readEndTag 69 = .ok (.getfield 16, 3) := by decide +kernel
theorem dX3_readEndTag_72 : decode cX3_readEndTag 72 = .ok (.invokevirtual 114, 3) := by decide +kernel
theorem dX3_readEndTag_75 : decode cX3_readEndTag 75 = .ok (.pop, 1) := by decide +kernel
theorem dX3_readEndTag_76 : decode cX3_readEndTag 76 = .ok (.aload_n 0, 1) := by decide +kernel
theorem dX3_readEndTag_77 : decode cX3_readEndTag 77 = .ok (.getfield 16, 3) := by decide +kernel
theorem dX3_readEndTag_80 : decode cX3_readEndTag 80 = .ok (.ldc 176, 2) := by decide +kernel
theorem dX3_readEndTag_82 : decode cX3_readEndTag 82 = .ok (.invokevirtual 151, 3) := by decide +kernel
theorem dX3_readEndTag_85 : decode cX3_readEndTag 85 = .ok (.ifCond .eq 19, 3) := by decide +kernel
theorem dX3_readEndTag_88 : decode cX3_readEndTag 88 = .ok (.aload_n 0, 1) := by decide +kernel
theorem dX3_readEndTag_89 : decode cX3_readEndTag 89 = .ok (.iconst 1, 1) := by decide +kernel
theorem dX3_readEndTag_90 : decode cX3_readEndTag 90 = .ok (.iload_n 1, 1) := by decide +kernel
theorem dX3_readEndTag_91 : decode cX3_readEndTag 91 = .ok (.invokevirtual 169, 3) := by decide +kernel
theorem dX3_readEndTag_94 : decode cX3_readEndTag 94 = .ok (.ifCond .eq 10, 3) := by decide +kernel
theorem dX3_readEndTag_97 : decode cX3_readEndTag 97 = .ok (.aload_n 0, 1) := by decide +kernel
theorem dX3_readEndTag_98 : decode cX3_readEndTag 98 = .ok (.getfield 32, 3) := by decide +kernel
theorem dX3_readEndTag_101 : decode cX3_readEndTag 101 = .ok (.invokevirtual 219, 3) := by decide +kernel
theorem dX3_readEndTag_104 : decode cX3_readEndTag 104 = .ok (.return_, 1) := by decide +kernel
theorem dX3_readInTag_0 : decode cX3_readInTag 0 = .ok (.aload_n 0, 1) := by decide +kernel
theorem dX3_readInTag_1 : decode cX3_readInTag 1 = .ok (.getfield 16, 3) := by decide +kernel
theorem dX3_readInTag_4 : decode cX3_readInTag 4 = .ok (.invokevirtual 114, 3) := by decide +kernel
theorem dX3_readInTag_7 : decode cX3_readInTag 7 = .ok (.istore_n 1, 1) := by decide +kernel
theorem dX3_readInTag_8 : decode cX3_readInTag 8 = .ok (.aload_n 0, 1) := by decide +kernel
theorem dX3_readInTag_9 : decode cX3_readInTag 9 = .ok (.getfield 16, 3) := by decide +kernel
theorem dX3_readInTag_12 : decode cX3_readInTag 12 = .ok (.invokevirtual 107, 3) := by decide +kernel
theorem dX3_readInTag_15 : decode cX3_readInTag 15 = .ok (.istore_n 2, 1) := by decide +kernel
theorem dX3_readInTag_16 : decode cX3_readInTag 16 = .ok (.iload_n 1, 1) := by decide +kernel
theorem dX3_readInTag_17 : decode cX3_readInTag 17 = .ok (.ifCond .eq 17, 3) := by decide +kernel
theorem dX3_readInTag_20 : decode cX3_readInTag 20 = .ok (.iload_n 2, 1) := by decide +kernel
theorem dX3_readInTag_21 : decode cX3_readInTag 21 = .ok (.invokestatic 142, 3) := by decide +kernel
theorem dX3_readInTag_24 : decode cX3_readInTag 24 = .ok (.ifCond .eq 10, 3) := by decide +kernel
theorem dX3_readInTag_27 : decode cX3_readInTag 27 = .ok (.aload_n 0, 1) := by decide +kernel
theorem dX3_readInTag_28 : decode cX3_readInTag 28 = .ok (.invokevirtual 236, 3) := by decide +kernel
theorem dX3_readInTag_31 : decode cX3_readInTag 31 = .ok (.goto 20, 3) := by decide +kernel
theorem dX3_readInTag_34 : decode cX3_readInTag 34 = .ok (.iload_n 2, 1) := by decide +kernel
theorem dX3_readInTag_35 : decode cX3_readInTag 35 = .ok (.bipush 62, 2) := by decide +kernel
theorem dX3_readInTag_37 : decode cX3_readInTag 37 = .ok (.if_icmp .ne 10, 3) := by decide +kernel
theorem dX3_readInTag_40 : decode cX3_readInTag 40 = .ok (.aload_n 0, 1) := by decide +kernel
theorem dX3_readInTag_41 : decode cX3_readInTag 41 = .ok (.invokevirtual 239, 3) := by decide +kernel
theorem dX3_readInTag_44 : decode cX3_readInTag 44 = .ok (.goto 7, 3) := by decide +kernel
theorem dX3_readInTag_47 : decode cX3_readInTag 47 = .ok (.aload_n 0, 1) := by decide +kernel
theorem dX3_readInTag_48 : decode cX3_readInTag 48 = .ok (.invokevirtual 242, 3) := by decide +kernel
theorem dX3_readInTag_51 : decode cX3_readInTag 51 = .ok (.return_, 1) := by decide +kernel
theorem dX3_readInValue_0 : decode cX3_readInValue 0 = .ok (.aload_n 0, 1) := by decide +kernel
theorem dX3_readInValue_1 : decode cX3_readInValue 1 = .ok (.getfield 16, 3) := by decide +kernel
theorem dX3_readInValue_4 : decode cX3_readInValue 4 = .ok (.invokevirtual 107, 3) := by decide +kernel
theorem dX3_readInValue_7 : decode cX3_readInValue 7 = .ok (.istore_n 1, 1) := by decide +kernel
theorem dX3_readInValue_8 : decode cX3_readInValue 8 = .ok (.iload_n 1, 1) := by decide +kernel
theorem dX3_readInValue_9 : decode cX3_readInValue 9 = .ok (.aload_n 0, 1) := by decide +kernel
theorem dX3_readInValue_10 : decode cX3_readInValue 10 = .ok (.getfield 39, 3) := by decide +kernel
theorem dX3_readInValue_13 : decode cX3_readInValue 13 = .ok (.if_icmp .ne 34, 3) := by decide +kernel
theorem dX3_readInValue_16 : decode cX3_readInValue 16 = .ok (.aload_n 0, 1) := by decide +kernel
theorem dX3_readInValue_17 : decode cX3_readInValue 17 = .ok (.getfield 16, 3) := by decide +kernel
theorem dX3_readInValue_20 : decode cX3_readInValue 20 = .ok (.dup, 1) := by decide +kernel
theorem dX3_readInValue_21 : decode cX3_readInValue 21 = .ok (.getfield 123, 3) := by decide +kernel
theorem dX3_readInValue_24 : decode cX3_readInValue 24 = .ok (.iconst 1, 1) := by decide +kernel
theorem dX3_readInValue_25 : decode cX3_readInValue 25 = .ok (.iadd, 1) := by decide +kernel
theorem dX3_readInValue_26 : decode cX3_readInValue 26 = .ok (.putfield 123, 3) := by decide +kernel
theorem dX3_readInValue_29 : decode cX3_readInValue 29 = .ok (.aload_n 0, 1) := by decide +kernel
theorem dX3_readInValue_30 : decode cX3_readInValue 30 = .ok (.iconst (-1), 1) := by decide +kernel
theorem dX3_readInValue_31 : decode cX3_readInValue 31 = .ok (.putfield 39, 3) := by decide +kernel
theorem dX3_readInValue_34 : decode cX3_readInValue 34 = .ok (.aload_n 0, 1) := by decide +kernel
theorem dX3_readInValue_35 : decode cX3_readInValue 35 = .ok (.iconst 3, 1) := by decide +kernel
theorem dX3_readInValue_36 : decode cX3_readInValue 36 = .ok (.aload_n 0, 1) := by decide +kernel
theorem dX3_readInValue_37 : decode cX3_readInValue 37 = .ok (.getfield 256, 3) := by decide +kernel
theorem dX3_readInValue_40 : decode cX3_readInValue 40 = .ok (.invokevirtual 169, 3) := by decide +kernel
theorem dX3_readInValue_43 : decode cX3_readInValue 43 = .ok (.pop, 1) := by decide +kernel
theorem dX3_readInValue_44 : decode cX3_readInValue 44 = .ok (.goto 48, 3) := by decide +kernel
theorem dX3_readInValue_47 : decode cX3_readInValue 47 = .ok (.iload_n 1, 1) := by decide +kernel
theorem dX3_readInValue_48 : decode cX3_readInValue 48 = .ok (.bipush 38, 2) := by decide +kernel
theorem dX3_readInValue_50 : decode cX3_readInValue 50 = .ok (.if_icmp .ne 11, 3) := by decide +kernel
theorem dX3_readInValue_53 : decode cX3_readInValue 53 = .ok (.aload_n 0, 1) := by decide +kernel
theorem dX3_readInValue_54 : decode cX3_readInValue 54 = .ok (.invokevirtual 194, 3) := by decide +kernel
theorem dX3_readInValue_57 : decode cX3_readInValue 57 = .ok (.pop, 1) := by decide +kernel
theorem dX3_readInValue_58 : decode cX3_readInValue 58 = .ok (.goto 34, 3) := by decide +kernel
theorem dX3_readInValue_61 : decode cX3_readInValue 61 = .ok (.iload_n 1, 1) := by decide +kernel
theorem dX3_readInValue_62 : decode cX3_readInValue 62 = .ok (.invokestatic 185, 3) := by decide +kernel
theorem dX3_readInValue_65 : decode cX3_readInValue 65 = .ok (.ifCond .eq 19, 3) := by decide +kernel
theorem dX3_readInValue_68 : decode cX3_readInValue 68 = .ok (.aload_n 0, 1) := by decide +kernel
theorem dX3_readInValue_69 : decode cX3_readInValue 69 = .ok (.getfield 16, 3) := by decide +kernel
theorem dX3_readInValue_72 : decode cX3_readInValue 72 = .ok (.dup, 1) := by decide +kernel
theorem dX3_readInValue_73 : decode cX3_readInValue 73 = .ok (.getfield 123, 3) := by decide +kernel
theorem dX3_readInValue_76 : decode cX3_readInValue 76 = .ok (.iconst 1, 1) := by decide +kernel
theorem dX3_readInValue_77 : decode cX3_readInValue 77 = .ok (.iadd, 1) := by decide +kernel
theorem dX3_readInValue_78 : decode cX3_readInValue 78 = .ok (.putfield 123, 3) := by decide +kernel
theorem dX3_readInValue_81 : decode cX3_readInValue 81 = .ok (.goto 11, 3) := by decide +kernel
theorem dX3_readInValue_84 : decode cX3_readInValue 84 = .ok (.aload_n 0, 1) := by decide +kernel
theorem dX3_readInValue_85 : decode cX3_readInValue 85 = .ok (.getfield 16, 3) := by decide +kernel
theorem dX3_readInValue_88 : decode cX3_readInValue 88 = .ok (.invokevirtual 104, 3) := by decide +kernel
theorem dX3_readInValue_91 : decode cX3_readInValue 91 = .ok (.pop, 1) := by decide +kernel
theorem dX3_readInValue_92 : decode cX3_readInValue 92 = .ok (.return_, 1) := by decide +kernel
theorem dX3_readInstruction_0 : decode cX3_readInstruction 0 = .ok (.aload_n 0, 1) := by decide +kernel
theorem dX3_readInstruction_1 : decode cX3_readInstruction 1 = .ok (.getfield 16, 3) := by decide +kernel
theorem dX3_readInstruction_4 : decode cX3_readInstruction 4 = .ok (.getfield 123, 3) := by decide +kernel
theorem dX3_readInstruction_7 : decode cX3_readInstruction 7 = .ok (.istore_n 1, 1) := by decide +kernel
theorem dX3_readInstruction_8 : decode cX3_readInstruction 8 = .ok (.iload_n 1, 1) := by decide +kernel
theorem dX3_readInstruction_9 : decode cX3_readInstruction 9 = .ok (.iconst 2, 1) := by decide +kernel
theorem dX3_readInstruction_10 : decode cX3_readInstruction 10 = .ok (.iadd, 1) := by decide +kernel
theorem dX3_readInstruction_11 : decode cX3_readInstruction 11 = .ok (.istore_n 2, 1) := by decide +kernel
theorem dX3_readInstruction_12 : decode cX3_readInstruction 12 = .ok (.aload_n 0, 1) := by decide +kernel
theorem dX3_readInstruction_13 : decode cX3_readInstruction 13 = .ok (.getfield 16, 3) := by decide +kernel
theorem dX3_readInstruction_16 : decode cX3_readInstruction 16 = .ok (.ldc 149, 2) := by decide +kernel
theorem dX3_readInstruction_18 : decode cX3_readInstruction 18 = .ok (.invokevirtual 151, 3) := by decide +kernel
theorem dX3_readInstruction_21 : decode cX3_readInstruction 21 = .ok (.ifCond .eq 13, 3) := by decide +kernel
theorem dX3_readInstruction_24 : decode cX3_readInstruction 24 = .ok (.aload_n 0, 1) := by decide +kernel
theorem dX3_readInstruction_25 : decode cX3_readInstruction 25 = .ok (.getfield 16, 3) := by decide +kernel
theorem dX3_readInstruction_28 : decode cX3_readInstruction 28 = .ok (.invokevirtual 155, 3) := by decide +kernel
theorem dX3_readInstruction_31 : decode cX3_readInstruction 31 = .ok (.ifCond .ne 4, 3) := by decide +kernel
theorem dX3_readInstruction_34 : decode cX3_readInstruction 34 = .ok (.return_, 1) := by decide +kernel
theorem dX3_readInstruction_35 : decode cX3_readInstruction 35 = .ok (.aload_n 0, 1) := by decide +kernel
theorem dX3_readInstruction_36 : decode cX3_readInstruction 36 = .ok (.iload_n 2, 1) := by decide +kernel
theorem dX3_readInstruction_37 : decode cX3_readInstruction 37 = .ok (.aload_n 0, 1) := by decide +kernel
theorem dX3_readInstruction_38 : decode cX3_readInstruction 38 = .ok (.getfield 16, 3) := by decide +kernel
theorem dX3_readInstruction_41 : decode cX3_readInstruction 41 = .ok (.getfield 123, 3) := by decide +kernel
theorem dX3_readInstruction_44 : decode cX3_readInstruction 44 = .ok (.invokevirtual 158, 3) := by decide +kernel
theorem dX3_readInstruction_47 : decode cX3_readInstruction 47 = .ok (.ifCond .eq 15, 3) := by decide +kernel
theorem dX3_readInstruction_50 : decode cX3_readInstruction 50 = .ok (.aload_n 0, 1) := by decide +kernel
theorem dX3_readInstruction_51 : decode cX3_readInstruction 51 = .ok (.getfield 16, 3) := by decide +kernel
theorem dX3_readInstruction_54 : decode cX3_readInstruction 54 = .ok (.bipush 11, 2) := by decide +kernel
theorem dX3_readInstruction_56 : decode cX3_readInstruction 56 = .ok (.iload_n 2, 1) := by decide +kernel
theorem dX3_readInstruction_57 : decode cX3_readInstruction 57 = .ok (.invokevirtual 135, 3) := by decide +kernel
theorem dX3_readInstruction_60 : decode cX3_readInstruction 60 = .ok (.pop, 1) := by decide +kernel
theorem dX3_readInstruction_61 : decode cX3_readInstruction 61 = .ok (.return_, 1) := by decide +kernel
theorem dX3_readInstruction_62 : decode cX3_readInstruction 62 = .ok (.aload_n 0, 1) := by decide +kernel
theorem dX3_readInstruction_63 : decode cX3_readInstruction 63 = .ok (.getfield 16, 3) := by decide +kernel
theorem dX3_readInstruction_66 : decode cX3_readInstruction 66 = .ok (.invokevirtual 107, 3) := by decide +kernel
theorem dX3_readInstruction_69 : decode cX3_readInstruction 69 = .ok (.invokestatic 161, 3) := by decide +kernel
theorem dX3_readInstruction_72 : decode cX3_readInstruction 72 = .ok (.ifCond .eq 15, 3) := by decide +kernel
theorem dX3_readInstruction_75 : decode cX3_readInstruction 75 = .ok (.aload_n 0, 1) := by decide +kernel
theorem dX3_readInstruction_76 : decode cX3_readInstruction 76 = .ok (.getfield 16, 3) := by decide +kernel
theorem dX3_readInstruction_79 : decode cX3_readInstruction 79 = .ok (.ldc 164, 2) := by decide +kernel
theorem dX3_readInstruction_81 : decode cX3_readInstruction 81 = .ok (.invokevirtual 166, 3) := by decide +kernel
theorem dX3_readInstruction_84 : decode cX3_readInstruction 84 = .ok (.goto 12, 3) := by decide +kernel
theorem dX3_readInstruction_87 : decode cX3_readInstruction 87 = .ok (.aload_n 0, 1) := by decide +kernel
theorem dX3_readInstruction_88 : decode cX3_readInstruction 88 = .ok (.getfield 16, 3) := by decide +kernel
theorem dX3_readInstruction_91 : decode cX3_readInstruction 91 = .ok (.ldc 164, 2) := by decide +kernel
theorem dX3_readInstruction_93 : decode cX3_readInstruction 93 = .ok (.invokevirtual 151, 3) := by decide +kernel
theorem dX3_readInstruction_96 : decode cX3_readInstruction 96 = .ok (.istore_n 3, 1) := by decide +kernel
theorem dX3_readInstruction_97 : decode cX3_readInstruction 97 = .ok (.iload_n 3, 1) := by decide +kernel
theorem dX3_readInstruction_98 : decode cX3_readInstruction 98 = .ok (.ifCond .eq 11, 3) := by decide +kernel
theorem dX3_readInstruction_101 : decode cX3_readInstruction 101 = .ok (.aload_n 0, 1) := by decide +kernel
theorem dX3_readInstruction_102 : decode cX3_readInstruction 102 = .ok (.bipush 8, 2) := by decide +kernel
theorem dX3_readInstruction_104 : decode cX3_readInstruction 104 = .ok (.iload_n 1, 1) := by decide +kernel
theorem dX3_readInstruction_105 : decode cX3_readInstruction 105 = .ok (.invokevirtual 169, 3) := by decide +kernel
theorem dX3_readInstruction_108 : decode cX3_readInstruction 108 = .ok (.pop, 1) := by decide +kernel
theorem dX3_readInstruction_109 : decode cX3_readInstruction 109 = .ok (.return_, 1) := by decide +kernel
theorem dX3_readMarkup_0 : decode cX3_readMarkup 0 = .ok (.aload_n 0, 1) := by decide +kernel
theorem dX3_readMarkup_1 : decode cX3_readMarkup 1 = .ok (.getfield 16, 3) := by decide +kernel
theorem dX3_readMarkup_4 : decode cX3_readMarkup 4 = .ok (.aload_n 0, 1) := by decide +kernel
theorem dX3_readMarkup_5 : decode cX3_readMarkup 5 = .ok (.getfield 16, 3) := by decide +kernel
theorem dX3_readMarkup_8 : decode cX3_readMarkup 8 = .ok (.getfield 123, 3) := by decide +kernel
theorem dX3_readMarkup_11 : decode cX3_readMarkup 11 = .ok (.iconst 1, 1) := by decide +kernel
theorem dX3_readMarkup_12 : decode cX3_readMarkup 12 = .ok (.iadd, 1) := by decide +kernel
theorem dX3_readMarkup_13 : decode cX3_readMarkup 13 = .ok (.invokevirtual 82, 3) := by decide +kernel
theorem dX3_readMarkup_16 : decode cX3_readMarkup 16 = .ok (.istore_n 1, 1) := by decide +kernel
theorem dX3_readMarkup_17 : decode cX3_readMarkup 17 = .ok (.aload_n 0, 1) := by decide +kernel
theorem dX3_readMarkup_18 : decode cX3_readMarkup 18 = .ok (.getfield 16, 3) := by decide +kernel
theorem dX3_readMarkup_21 : decode cX3_readMarkup 21 = .ok (.aload_n 0, 1) := by decide +kernel
theorem dX3_readMarkup_22 : decode cX3_readMarkup 22 = .ok (.getfield 16, 3) := by decide +kernel
theorem dX3_readMarkup_25 : decode cX3_readMarkup 25 = .ok (.getfield 123, 3) := by decide +kernel
theorem dX3_readMarkup_28 : decode cX3_readMarkup 28 = .ok (.iconst 2, 1) := by decide +kernel
theorem dX3_readMarkup_29 : decode cX3_readMarkup 29 = .ok (.iadd, 1) := by decide +kernel
theorem dX3_readMarkup_30 : decode cX3_readMarkup 30 = .ok (.invokevirtual 82, 3) := by decide +kernel
theorem dX3_readMarkup_33 : decode cX3_readMarkup 33 = .ok (.istore_n 2, 1) := by decide +kernel
theorem dX3_readMarkup_34 : decode cX3_readMarkup 34 = .ok (.aload_n 0, 1) := by decide +kernel
theorem dX3_readMarkup_35 : decode cX3_readMarkup 35 = .ok (.getfield 32, 3) := by decide +kernel
theorem dX3_readMarkup_38 : decode cX3_readMarkup 38 = .ok (.getfield 103, 3) := by decide +kernel
theorem dX3_readMarkup_41 : decode cX3_readMarkup 41 = .ok (.ifCond .le 7, 3) := by decide +kernel
theorem dX3_readMarkup_44 : decode cX3_readMarkup 44 = .ok (.iconst 1, 1) := by decide +kernel
theorem dX3_readMarkup_45 : decode cX3_readMarkup 45 = .ok (.goto 4, 3) := by decide +kernel
theorem dX3_readMarkup_48 : decode cX3_readMarkup 48 = .ok (.iconst 0, 1) := by decide +kernel
theorem dX3_readMarkup_49 : decode cX3_readMarkup 49 = .ok (.istore_n 3, 1) := by decide +kernel
theorem dX3_readMarkup_50 : decode cX3_readMarkup 50 = .ok (.iload_n 1, 1) := by decide +kernel
theorem dX3_readMarkup_51 : decode cX3_readMarkup 51 = .ok (.bipush 63, 2) := by decide +kernel
theorem dX3_readMarkup_53 : decode cX3_readMarkup 53 = .ok (.if_icmp .ne 10, 3) := by decide +kernel
theorem dX3_readMarkup_56 : decode cX3_readMarkup 56 = .ok (.aload_n 0, 1) := by decide +kernel
theorem dX3_readMarkup_57 : decode cX3_readMarkup 57 = .ok (.invokevirtual 126, 3) := by decide +kernel
theorem dX3_readMarkup_60 : decode cX3_readMarkup 60 = .ok (.goto 132, 3) := by decide +kernel
theorem dX3_readMarkup_63 : decode cX3_readMarkup 63 = .ok (.iload_n 1, 1) := by decide +kernel
theorem dX3_readMarkup_64 : decode cX3_readMarkup 64 = .ok (.bipush 33, 2) := by decide +kernel
theorem dX3_readMarkup_66 : decode cX3_readMarkup 66 = .ok (.if_icmp .ne 16, 3) := by decide +kernel
theorem dX3_readMarkup_69 : decode cX3_readMarkup 69 = .ok (.iload_n 2, 1) := by decide +kernel
theorem dX3_readMarkup_70 : decode cX3_readMarkup 70 = .ok (.bipush 45, 2) := by decide +kernel
theorem dX3_readMarkup_72 : decode cX3_readMarkup 72 = .ok (.if_icmp .ne 10, 3) := by decide +kernel
theorem dX3_readMarkup_75 : decode cX3_readMarkup 75 = .ok (.aload_n 0, 1) := by decide +kernel
theorem dX3_readMarkup_76 : decode cX3_readMarkup 76 = .ok (.invokevirtual 129, 3) := by decide +kernel
theorem dX3_readMarkup_79 : decode cX3_readMarkup 79 = .ok (.goto 113, 3) := by decide +kernel
theorem dX3_readMarkup_82 : decode cX3_readMarkup 82 = .ok (.iload_n 1, 1) := by decide +kernel
theorem dX3_readMarkup_83 : decode cX3_readMarkup 83 = .ok (.bipush 33, 2) := by decide +kernel
theorem dX3_readMarkup_85 : decode cX3_readMarkup 85 = .ok (.if_icmp .ne 20, 3) := by decide +kernel
theorem dX3_readMarkup_88 : decode cX3_readMarkup 88 = .ok (.iload_n 2, 1) := by decide +kernel
theorem dX3_readMarkup_89 : decode cX3_readMarkup 89 = .ok (.bipush 91, 2) := by decide +kernel
theorem dX3_readMarkup_91 : decode cX3_readMarkup 91 = .ok (.if_icmp .ne 14, 3) := by decide +kernel
theorem dX3_readMarkup_94 : decode cX3_readMarkup 94 = .ok (.iload_n 3, 1) := by decide +kernel
theorem dX3_readMarkup_95 : decode cX3_readMarkup 95 = .ok (.ifCond .eq 10, 3) := by decide +kernel
theorem dX3_readMarkup_98 : decode cX3_readMarkup 98 = .ok (.aload_n 0, 1) := by decide +kernel
theorem dX3_readMarkup_99 : decode cX3_readMarkup 99 = .ok (.invokevirtual 132, 3) := by decide +kernel
theorem dX3_readMarkup_102 : decode cX3_readMarkup 102 = .ok (.goto 90, 3) := by decide +kernel
theorem dX3_readMarkup_105 : decode cX3_readMarkup 105 = .ok (.iload_n 1, 1) := by decide +kernel
theorem dX3_readMarkup_106 : decode cX3_readMarkup 106 = .ok (.bipush 33, 2) := by decide +kernel
theorem dX3_readMarkup_108 : decode cX3_readMarkup 108 = .ok (.if_icmp .ne 24, 3) := by decide +kernel
theorem dX3_readMarkup_111 : decode cX3_readMarkup 111 = .ok (.aload_n 0, 1) := by decide +kernel
theorem dX3_readMarkup_112 : decode cX3_readMarkup 112 = .ok (.getfield 16, 3) := by decide +kernel
theorem dX3_readMarkup_115 : decode cX3_readMarkup 115 = .ok (.iconst 2, 1) := by decide +kernel
theorem dX3_readMarkup_116 : decode cX3_readMarkup 116 = .ok (.aload_n 0, 1) := by decide +kernel
theorem dX3_readMarkup_117 : decode cX3_readMarkup 117 = .ok (.getfield 16, 3) := by decide +kernel
theorem dX3_readMarkup_120 : decode cX3_readMarkup 120 = .ok (.getfield 123, 3) := by decide +kernel
theorem dX3_readMarkup_123 : decode cX3_readMarkup 123 = .ok (.iconst 2, 1) := by decide +kernel
theorem dX3_readMarkup_124 : decode cX3_readMarkup 124 = .ok (.iadd, 1) := by decide +kernel
theorem dX3_readMarkup_125 : decode cX3_readMarkup 125 = .ok (.invokevirtual 135, 3) := by decide +kernel
theorem dX3_readMarkup_128 : decode cX3_readMarkup 128 = .ok (.pop, 1) := by decide +kernel
theorem dX3_readMarkup_129 : decode cX3_readMarkup 129 = .ok (.goto 63, 3) := by decide +kernel
theorem dX3_readMarkup_132 : decode cX3_readMarkup 132 = .ok (.iload_n 1, 1) := by decide +kernel
theorem dX3_readMarkup_133 : decode cX3_readMarkup 133 = .ok (.bipush 47, 2) := by decide +kernel
theorem dX3_readMarkup_135 : decode cX3_readMarkup 135 = .ok (.if_icmp .ne 14, 3) := by decide +kernel
theorem dX3_readMarkup_138 : decode cX3_readMarkup 138 = .ok (.iload_n 3, 1) := by decide +kernel
theorem dX3_readMarkup_139 : decode cX3_readMarkup 139 = .ok (.ifCond .eq 10, 3) := by decide +kernel
theorem dX3_readMarkup_142 : decode cX3_readMarkup 142 = .ok (.aload_n 0, 1) := by decide +kernel
theorem dX3_readMarkup_143 : decode cX3_readMarkup 143 = .ok (.invokevirtual 139, 3) := by decide +kernel
theorem dX3_readMarkup_146 : decode cX3_readMarkup 146 = .ok (.goto 46, 3) := by decide +kernel
theorem dX3_readMarkup_149 : decode cX3_readMarkup 149 = .ok (.iload_n 1, 1) := by decide +kernel
theorem dX3_readMarkup_150 : decode cX3_readMarkup 150 = .ok (.invokestatic 142, 3) := by decide +kernel
theorem dX3_readMarkup_153 : decode cX3_readMarkup 153 = .ok (.ifCond .eq 21, 3) := by decide +kernel
theorem dX3_readMarkup_156 : decode cX3_readMarkup 156 = .ok (.iload_n 3, 1) := by decide +kernel
theorem dX3_readMarkup_157 : decode cX3_readMarkup 157 = .ok (.ifCond .ne 10, 3) := by decide +kernel
theorem dX3_readMarkup_160 : decode cX3_readMarkup 160 = .ok (.aload_n 0, 1) := by decide +kernel
theorem dX3_readMarkup_161 : decode cX3_readMarkup 161 = .ok (.getfield 86, 3) := by decide +kernel
theorem dX3_readMarkup_164 : decode cX3_readMarkup 164 = .ok (.ifCond .ne 10, 3) := by decide +kernel
theorem dX3_readMarkup_167 : decode cX3_readMarkup 167 = .ok (.aload_n 0, 1) := by decide +kernel
theorem dX3_readMarkup_168 : decode cX3_readMarkup 168 = .ok (.invokevirtual 146, 3) := by decide +kernel
theorem dX3_readMarkup_171 : decode cX3_readMarkup 171 = .ok (.goto 21, 3) := by decide +kernel
theorem dX3_readMarkup_174 : decode cX3_readMarkup 174 = .ok (.aload_n 0, 1) := by decide +kernel
theorem dX3_readMarkup_175 : decode cX3_readMarkup 175 = .ok (.getfield 16, 3) := by decide +kernel
theorem dX3_readMarkup_178 : decode cX3_readMarkup 178 = .ok (.iconst 2, 1) := by decide +kernel
theorem dX3_readMarkup_179 : decode cX3_readMarkup 179 = .ok (.aload_n 0, 1) := by decide +kernel
theorem dX3_readMarkup_180 : decode cX3_readMarkup 180 = .ok (.getfield 16, 3) := by decide +kernel
theorem dX3_readMarkup_183 : decode cX3_readMarkup 183 = .ok (.getfield 123, 3) := by decide +kernel
theorem dX3_readMarkup_186 : decode cX3_readMarkup 186 = .ok (.iconst 1, 1) := by decide +kernel
theorem dX3_readMarkup_187 : decode cX3_readMarkup 187 = .ok (.iadd, 1) := by decide +kernel
theorem dX3_readMarkup_188 : decode cX3_readMarkup 188 = .ok (.invokevirtual 135, 3) := by decide +kernel
theorem dX3_readMarkup_191 : decode cX3_readMarkup 191 = .ok (.pop, 1) := by decide +kernel
theorem dX3_readMarkup_192 : decode cX3_readMarkup 192 = .ok (.return_, 1) := by decide +kernel
theorem dX3_readNumber_0 : decode cX3_readNumber 0 = .ok (.bipush 10, 2) := by decide +kernel
theorem dX3_readNumber_2 : decode cX3_readNumber 2 = .ok (.istore_n 2, 1) := by decide +kernel
theorem dX3_readNumber_3 : decode cX3_readNumber 3 = .ok (.aload_n 0, 1) := by decide +kernel
theorem dX3_readNumber_4 : decode cX3_readNumber 4 = .ok (.getfield 16, 3) := by decide +kernel
theorem dX3_readNumber_7 : decode cX3_readNumber 7 = .ok (.invokevirtual 107, 3) := by decide +kernel
theorem dX3_readNumber_10 : decode cX3_readNumber 10 = .ok (.bipush 120, 2) := by decide +kernel
theorem dX3_readNumber_12 : decode cX3_readNumber 12 = .ok (.if_icmp .ne 19, 3) := by decide +kernel
theorem dX3_readNumber_15 : decode cX3_readNumber 15 = .ok (.bipush 16, 2) := by decide +kernel
theorem dX3_readNumber_17 : decode cX3_readNumber 17 = .ok (.istore_n 2, 1) := by decide +kernel
theorem dX3_readNumber_18 : decode cX3_readNumber 18 = .ok (.aload_n 0, 1) := by decide +kernel
theorem dX3_readNumber_19 : decode cX3_readNumber 19 = .ok (.getfield 16, 3) := by decide +kernel
theorem dX3_readNumber_22 : decode cX3_readNumber 22 = .ok (.dup, 1) := by decide +kernel
theorem dX3_readNumber_23 : decode cX3_readNumber 23 = .ok (.getfield 123, 3) := by decide +kernel
theorem dX3_readNumber_26 : decode cX3_readNumber 26 = .ok (.iconst 1, 1) := by decide +kernel
theorem dX3_readNumber_27 : decode cX3_readNumber 27 = .ok (.iadd, 1) := by decide +kernel
theorem dX3_readNumber_28 : decode cX3_readNumber 28 = .ok (.putfield 123, 3) := by decide +kernel
theorem dX3_readNumber_31 : decode cX3_readNumber 31 = .ok (.aload_n 0, 1) := by decide +kernel
theorem dX3_readNumber_32 : decode cX3_readNumber 32 = .ok (.getfield 16, 3) := by decide +kernel
theorem dX3_readNumber_35 : decode cX3_readNumber 35 = .ok (.getfield 123, 3) := by decide +kernel
theorem dX3_readNumber_38 : decode cX3_readNumber 38 = .ok (.istore_n 3, 1) := by decide +kernel
theorem dX3_readNumber_39 : decode cX3_readNumber 39 = .ok (.aload_n 0, 1) := by decide +kernel
theorem dX3_readNumber_40 : decode cX3_readNumber 40 = .ok (.getfield 16, 3) := by decide +kernel
theorem dX3_readNumber_43 : decode cX3_readNumber 43 = .ok (.iload_n 2, 1) := by decide +kernel
theorem dX3_readNumber_44 : decode cX3_readNumber 44 = .ok (.invokevirtual 207, 3) := by decide +kernel
theorem dX3_readNumber_47 : decode cX3_readNumber 47 = .ok (.istore 4, 2) := by decide +kernel
theorem dX3_readNumber_49 : decode cX3_readNumber 49 = .ok (.aload_n 0, 1) := by decide +kernel
theorem dX3_readNumber_50 : decode cX3_readNumber 50 = .ok (.getfield 16, 3) := by decide +kernel
theorem dX3_readNumber_53 : decode cX3_readNumber 53 = .ok (.getfield 123, 3) := by decide +kernel
theorem dX3_readNumber_56 : decode cX3_readNumber 56 = .ok (.iload_n 3, 1) := by decide +kernel
theorem dX3_readNumber_57 : decode cX3_readNumber 57 = .ok (.if_icmp .ne 11, 3) := by decide +kernel
theorem dX3_readNumber_60 : decode cX3_readNumber 60 = .ok (.aload_n 0, 1) := by decide +kernel
theorem dX3_readNumber_61 : decode cX3_readNumber 61 = .ok (.getfield 16, 3) := by decide +kernel
theorem dX3_readNumber_64 : decode cX3_readNumber 64 = .ok (.invokevirtual 104, 3) := by decide +kernel
theorem dX3_readNumber_67 : decode cX3_readNumber 67 = .ok (.ireturn, 1) := by decide +kernel
theorem dX3_readNumber_68 : decode cX3_readNumber 68 = .ok (.aload_n 0, 1) := by decide +kernel
theorem dX3_readNumber_69 : decode cX3_readNumber 69 = .ok (.getfield 16, 3) := by decide +kernel
theorem dX3_readNumber_72 : decode cX3_readNumber 72 = .ok (.ldc 205, 2) := by decide +kernel
theorem dX3_readNumber_74 : decode cX3_readNumber 74 = .ok (.invokevirtual 151, 3) := by decide +kernel
theorem dX3_readNumber_77 : decode cX3_readNumber 77 = .ok (.ifCond .ne 5, 3) := by decide +kernel
theorem dX3_readNumber_80 : decode cX3_readNumber 80 = .ok (.iconst 0, 1) := by decide +kernel
theorem dX3_readNumber_81 : decode cX3_readNumber 81 = .ok (.ireturn, 1) := by decide +kernel
theorem dX3_readNumber_82 : decode cX3_readNumber 82 = .ok (.iload 4, 2) := by decide +kernel
theorem dX3_readNumber_84 : decode cX3_readNumber 84 = .ok (.invokestatic 210, 3) := by decide +kernel
theorem dX3_readNumber_87 : decode cX3_readNumber 87 = .ok (.ifCond .ne 16, 3) := by decide +kernel
theorem dX3_readNumber_90 : decode cX3_readNumber 90 = .ok (.aload_n 0, 1) := by decide +kernel
theorem dX3_readNumber_91 : decode cX3_readNumber 91 = .ok (.getfield 16, 3) := by decide +kernel
theorem dX3_readNumber_94 : decode cX3_readNumber 94 = .ok (.bipush 8, 2) := by decide +kernel
theorem dX3_readNumber_96 : decode cX3_readNumber 96 = .ok (.iload_n 1, 1) := by decide +kernel
theorem dX3_readNumber_97 : decode cX3_readNumber 97 = .ok (.invokevirtual 135, 3) := by decide +kernel
theorem dX3_readNumber_100 : decode cX3_readNumber 100 = .ok (.ifCond .eq 7, 3) := by decide +kernel
theorem dX3_readNumber_103 : decode cX3_readNumber 103 = .ok (.iconst 1, 1) := by decide +kernel
theorem dX3_readNumber_104 : decode cX3_readNumber 104 = .ok (.goto 4, 3) := by decide +kernel
theorem dX3_readNumber_107 : decode cX3_readNumber 107 = .ok (.iconst 0, 1) := by decide +kernel
theorem dX3_readNumber_108 : decode cX3_readNumber 108 = .ok (.ireturn, 1) := by decide +kernel
theorem dX3_readReference_0 : decode cX3_readReference 0 = .ok (.aload_n 0, 1) := by decide +kernel
theorem dX3_readReference_1 : decode cX3_readReference 1 = .ok (.getfield 16, 3) := by decide +kernel
theorem dX3_readReference_4 : decode cX3_readReference 4 = .ok (.getfield 123, 3) := by decide +kernel
theorem dX3_readReference_7 : decode cX3_readReference 7 = .ok (.istore_n 1, 1) := by decide +kernel
theorem dX3_readReference_8 : decode cX3_readReference 8 = .ok (.aload_n 0, 1) := by decide +kernel
theorem dX3_readReference_9 : decode cX3_readReference 9 = .ok (.getfield 16, 3) := by decide +kernel
theorem dX3_readReference_12 : decode cX3_readReference 12 = .ok (.ldc 197, 2) := by decide +kernel
theorem dX3_readReference_14 : decode cX3_readReference 14 = .ok (.invokevirtual 151, 3) := by decide +kernel
theorem dX3_readReference_17 : decode cX3_readReference 17 = .ok (.ifCond .ne 5, 3) := by decide +kernel
theorem dX3_readReference_20 : decode cX3_readReference 20 = .ok (.iconst 0, 1) := by decide +kernel
theorem dX3_readReference_21 : decode cX3_readReference 21 = .ok (.ireturn, 1) := by decide +kernel
theorem dX3_readReference_22 : decode cX3_readReference 22 = .ok (.aload_n 0, 1) := by decide +kernel
theorem dX3_readReference_23 : decode cX3_readReference 23 = .ok (.getfield 16, 3) := by decide +kernel
theorem dX3_readReference_26 : decode cX3_readReference 26 = .ok (.invokevirtual 107, 3) := by decide +kernel
theorem dX3_readReference_29 : decode cX3_readReference 29 = .ok (.bipush 35, 2) := by decide +kernel
theorem dX3_readReference_31 : decode cX3_readReference 31 = .ok (.if_icmp .ne 22, 3) := by decide +kernel
theorem dX3_readReference_34 : decode cX3_readReference 34 = .ok (.aload_n 0, 1) := by decide +kernel
theorem dX3_readReference_35 : decode cX3_readReference 35 = .ok (.getfield 16, 3) := by decide +kernel
theorem dX3_readReference_38 : decode cX3_readReference 38 = .ok (.dup, 1) := by decide +kernel
theorem dX3_readReference_39 : decode cX3_readReference 39 = .ok (.getfield 123, 3) := by decide +kernel
theorem dX3_readReference_42 : decode cX3_readReference 42 = .ok (.iconst 1, 1) := by decide +kernel
theorem dX3_readReference_43 : decode cX3_readReference 43 = .ok (.iadd, 1) := by decide +kernel
theorem dX3_readReference_44 : decode cX3_readReference 44 = .ok (.putfield 123, 3) := by decide +kernel
theorem dX3_readReference_47 : decode cX3_readReference 47 = .ok (.aload_n 0, 1) := by decide +kernel
theorem dX3_readReference_48 : decode cX3_readReference 48 = .ok (.iload_n 1, 1) := by decide +kernel
theorem dX3_readReference_49 : decode cX3_readReference 49 = .ok (.invokevirtual 199, 3) := by decide +kernel
theorem dX3_readReference_52 : decode cX3_readReference 52 = .ok (.ireturn, 1) := by decide +kernel
theorem dX3_readReference_53 : decode cX3_readReference 53 = .ok (.aload_n 0, 1) := by decide +kernel
theorem dX3_readReference_54 : decode cX3_readReference 54 = .ok (.getfield 16, 3) := by decide +kernel
theorem dX3_readReference_57 : decode cX3_readReference 57 = .ok (.getfield 123, 3) := by decide +kernel
theorem dX3_readReference_60 : decode cX3_readReference 60 = .ok (.istore_n 2, 1) := by decide +kernel
theorem dX3_readReference_61 : decode cX3_readReference 61 = .ok (.aload_n 0, 1) := by decide +kernel
theorem dX3_readReference_62 : decode cX3_readReference 62 = .ok (.getfield 16, 3) := by decide +kernel
theorem dX3_readReference_65 : decode cX3_readReference 65 = .ok (.invokevirtual 155, 3) := by decide +kernel
theorem dX3_readReference_68 : decode cX3_readReference 68 = .ok (.ifCond .ne 5, 3) := by decide +kernel
theorem dX3_readReference_71 : decode cX3_readReference 71 = .ok (.iconst 0, 1) := by decide +kernel
theorem dX3_readReference_72 : decode cX3_readReference 72 = .ok (.ireturn, 1) := by decide +kernel
theorem dX3_readReference_73 : decode cX3_readReference 73 = .ok (.aload_n 0, 1) := by decide +kernel
theorem dX3_readReference_74 : decode cX3_readReference 74 = .ok (.iload_n 2, 1) := by decide +kernel
theorem dX3_readReference_75 : decode cX3_readReference 75 = .ok (.aload_n 0, 1) := by decide +kernel
theorem dX3_readReference_76 : decode cX3_readReference 76 = .ok (.getfield 16, 3) := by decide +kernel
theorem dX3_readReference_79 : decode cX3_readReference 79 = .ok (.getfield 123, 3) := by decide +kernel
theorem dX3_readReference_82 : decode cX3_readReference 82 = .ok (.invokevirtual 202, 3) := by decide +kernel
theorem dX3_readReference_85 : decode cX3_readReference 85 = .ok (.istore_n 3, 1) := by decide +kernel
theorem dX3_readReference_86 : decode cX3_readReference 86 = .ok (.aload_n 0, 1) := by decide +kernel
theorem dX3_readReference_87 : decode cX3_readReference 87 = .ok (.getfield 16, 3) := by decide +kernel
theorem dX3_readReference_90 : decode cX3_readReference 90 = .ok (.ldc 205, 2) := by decide +kernel
theorem dX3_readReference_92 : decode cX3_readReference 92 = .ok (.invokevirtual 151, 3) := by decide +kernel
theorem dX3_readReference_95 : decode cX3_readReference 95 = .ok (.ifCond .ne 5, 3) := by decide +kernel
theorem dX3_readReference_98 : decode cX3_readReference 98 = .ok (.iconst 0, 1) := by decide +kernel
theorem dX3_readReference_99 : decode cX3_readReference 99 = .ok (.ireturn, 1) := by decide +kernel
theorem dX3_readReference_100 : decode cX3_readReference 100 = .ok (.iload_n 3, 1) := by decide +kernel
theorem dX3_readReference_101 : decode cX3_readReference 101 = .ok (.ifCond .ne 15, 3) := by decide +kernel
theorem dX3_readReference_104 : decode cX3_readReference 104 = .ok (.aload_n 0, 1) := by decide +kernel
theorem dX3_readReference_105 : decode cX3_readReference 105 = .ok (.getfield 16, 3) := by decide +kernel
theorem dX3_readReference_108 : decode cX3_readReference 108 = .ok (.iconst 5, 1) := by decide +kernel
theorem dX3_readReference_109 : decode cX3_readReference 109 = .ok (.iload_n 1, 1) := by decide +kernel
theorem dX3_readReference_110 : decode cX3_readReference 110 = .ok (.invokevirtual 135, 3) := by decide +kernel
theorem dX3_readReference_113 : decode cX3_readReference 113 = .ok (.ifCond .eq 7, 3) := by decide +kernel
theorem dX3_readReference_116 : decode cX3_readReference 116 = .ok (.iconst 1, 1) := by decide +kernel
theorem dX3_readReference_117 : decode cX3_readReference 117 = .ok (.goto 4, 3) := by decide +kernel
theorem dX3_readReference_120 : decode cX3_readReference 120 = .ok (.iconst 0, 1) := by decide +kernel
theorem dX3_readReference_121 : decode cX3_readReference 121 = .ok (.ireturn, 1) := by decide +kernel
theorem dX3_readSection_0 : decode cX3_readSection 0 = .ok (.aload_n 0, 1) := by decide +kernel
theorem dX3_readSection_1 : decode cX3_readSection 1 = .ok (.getfield 16, 3) := by decide +kernel
theorem dX3_readSection_4 : decode cX3_readSection 4 = .ok (.getfield 123, 3) := by decide +kernel
theorem dX3_readSection_7 : decode cX3_readSection 7 = .ok (.istore_n 1, 1) := by decide +kernel
theorem dX3_readSection_8 : decode cX3_readSection 8 = .ok (.aload_n 0, 1) := by decide +kernel
theorem dX3_readSection_9 : decode cX3_readSection 9 = .ok (.getfield 16, 3) := by decide +kernel
theorem dX3_readSection_12 : decode cX3_readSection 12 = .ok (.ldc 178, 2) := by decide +kernel
theorem dX3_readSection_14 : decode cX3_readSection 14 = .ok (.invokevirtual 151, 3) := by decide +kernel
theorem dX3_readSection_17 : decode cX3_readSection 17 = .ok (.ifCond .eq 23, 3) := by decide +kernel
theorem dX3_readSection_20 : decode cX3_readSection 20 = .ok (.aload_n 0, 1) := by decide +kernel
theorem dX3_readSection_21 : decode cX3_readSection 21 = .ok (.getfield 16, 3) := by decide +kernel
theorem dX3_readSection_24 : decode cX3_readSection 24 = .ok (.ldc 180, 2) := by decide +kernel
theorem dX3_readSection_26 : decode cX3_readSection 26 = .ok (.invokevirtual 166, 3) := by decide +kernel
theorem dX3_readSection_29 : decode cX3_readSection 29 = .ok (.ifCond .eq 11, 3) := by decide +kernel
theorem dX3_readSection_32 : decode cX3_readSection 32 = .ok (.aload_n 0, 1) := by decide +kernel
theorem dX3_readSection_33 : decode cX3_readSection 33 = .ok (.bipush 6, 2) := by decide +kernel
theorem dX3_readSection_35 : decode cX3_readSection 35 = .ok (.iload_n 1, 1) := by decide +kernel
theorem dX3_readSection_36 : decode cX3_readSection 36 = .ok (.invokevirtual 169, 3) := by decide +kernel
theorem dX3_readSection_39 : decode cX3_readSection 39 = .ok (.pop, 1) := by decide +kernel
theorem dX3_readSection_40 : decode cX3_readSection 40 = .ok (.return_, 1) := by decide +kernel
theorem dX3_readTagName_0 : decode cX3_readTagName 0 = .ok (.aload_n 0, 1) := by decide +kernel
theorem dX3_readTagName_1 : decode cX3_readTagName 1 = .ok (.aload_n 0, 1) := by decide +kernel
theorem dX3_readTagName_2 : decode cX3_readTagName 2 = .ok (.getfield 16, 3) := by decide +kernel
theorem dX3_readTagName_5 : decode cX3_readTagName 5 = .ok (.getfield 123, 3) := by decide +kernel
theorem dX3_readTagName_8 : decode cX3_readTagName 8 = .ok (.putfield 222, 3) := by decide +kernel
theorem dX3_readTagName_11 : decode cX3_readTagName 11 = .ok (.aload_n 0, 1) := by decide +kernel
theorem dX3_readTagName_12 : decode cX3_readTagName 12 = .ok (.aload_n 0, 1) := by decide +kernel
theorem dX3_readTagName_13 : decode cX3_readTagName 13 = .ok (.getfield 222, 3) := by decide +kernel
theorem dX3_readTagName_16 : decode cX3_readTagName 16 = .ok (.iconst 1, 1) := by decide +kernel
theorem dX3_readTagName_17 : decode cX3_readTagName 17 = .ok (.iadd, 1) := by decide +kernel
theorem dX3_readTagName_18 : decode cX3_readTagName 18 = .ok (.putfield 225, 3) := by decide +kernel
theorem dX3_readTagName_21 : decode cX3_readTagName 21 = .ok (.aload_n 0, 1) := by decide +kernel
theorem dX3_readTagName_22 : decode cX3_readTagName 22 = .ok (.getfield 16, 3) := by decide +kernel
theorem dX3_readTagName_25 : decode cX3_readTagName 25 = .ok (.ldc 228, 2) := by decide +kernel
theorem dX3_readTagName_27 : decode cX3_readTagName 27 = .ok (.invokevirtual 151, 3) := by decide +kernel
theorem dX3_readTagName_30 : decode cX3_readTagName 30 = .ok (.ifCond .eq 13, 3) := by decide +kernel
theorem dX3_readTagName_33 : decode cX3_readTagName 33 = .ok (.aload_n 0, 1) := by decide +kernel
theorem dX3_readTagName_34 : decode cX3_readTagName 34 = .ok (.getfield 16, 3) := by decide +kernel
theorem dX3_readTagName_37 : decode cX3_readTagName 37 = .ok (.invokevirtual 155, 3) := by decide +kernel
theorem dX3_readTagName_40 : decode cX3_readTagName 40 = .ok (.ifCond .ne 4, 3) := by decide +kernel
theorem dX3_readTagName_43 : decode cX3_readTagName 43 = .ok (.return_, 1) := by decide +kernel
theorem dX3_readTagName_44 : decode cX3_readTagName 44 = .ok (.aload_n 0, 1) := by decide +kernel
theorem dX3_readTagName_45 : decode cX3_readTagName 45 = .ok (.aload_n 0, 1) := by decide +kernel
theorem dX3_readTagName_46 : decode cX3_readTagName 46 = .ok (.getfield 16, 3) := by decide +kernel
theorem dX3_readTagName_49 : decode cX3_readTagName 49 = .ok (.getfield 123, 3) := by decide +kernel
theorem dX3_readTagName_52 : decode cX3_readTagName 52 = .ok (.putfield 230, 3) := by decide +kernel
theorem dX3_readTagName_55 : decode cX3_readTagName 55 = .ok (.aload_n 0, 1) := by decide +kernel
theorem dX3_readTagName_56 : decode cX3_readTagName 56 = .ok (.getfield 32, 3) := by decide +kernel
theorem dX3_readTagName_59 : decode cX3_readTagName 59 = .ok (.invokevirtual 233, 3) := by decide +kernel
theorem dX3_readTagName_62 : decode cX3_readTagName 62 = .ok (.ifCond .eq 18, 3) := by decide +kernel
theorem dX3_readTagName_65 : decode cX3_readTagName 65 = .ok (.aload_n 0, 1) := by decide +kernel
theorem dX3_readTagName_66 : decode cX3_readTagName 66 = .ok (.getfield 16, 3) := by decide +kernel
theorem dX3_readTagName_69 : decode cX3_readTagName 69 = .ok (.bipush 15, 2) := by decide +kernel
theorem dX3_readTagName_71 : decode cX3_readTagName 71 = .ok (.aload_n 0, 1) := by decide +kernel
theorem dX3_readTagName_72 : decode cX3_readTagName 72 = .ok (.getfield 225, 3) := by decide +kernel
theorem dX3_readTagName_75 : decode cX3_readTagName 75 = .ok (.invokevirtual 135, 3) := by decide +kernel
theorem dX3_readTagName_78 : decode cX3_readTagName 78 = .ok (.pop, 1) := by decide +kernel
theorem dX3_readTagName_79 : decode cX3_readTagName 79 = .ok (.return_, 1) := by decide +kernel
theorem dX3_readTagName_80 : decode cX3_readTagName 80 = .ok (.aload_n 0, 1) := by decide +kernel
theorem dX3_readTagName_81 : decode cX3_readTagName 81 = .ok (.dup, 1) := by decide +kernel
theorem dX3_readTagName_82 : decode cX3_readTagName 82 = .ok (.getfield 86, 3) := by decide +kernel
theorem dX3_readTagName_85 : decode cX3_readTagName 85 = .ok (.iconst 1, 1) := by decide +kernel
theorem dX3_readTagName_86 : decode cX3_readTagName 86 = .ok (.iadd, 1) := by decide +kernel
theorem dX3_readTagName_87 : decode cX3_readTagName 87 = .ok (.putfield 86, 3) := by decide +kernel
theorem dX3_readTagName_90 : decode cX3_readTagName 90 = .ok (.aload_n 0, 1) := by decide +kernel
theorem dX3_readTagName_91 : decode cX3_readTagName 91 = .ok (.getfield 36, 3) := by decide +kernel
theorem dX3_readTagName_94 : decode cX3_readTagName 94 = .ok (.invokevirtual 102, 3) := by decide +kernel
theorem dX3_readTagName_97 : decode cX3_readTagName 97 = .ok (.aload_n 0, 1) := by decide +kernel
theorem dX3_readTagName_98 : decode cX3_readTagName 98 = .ok (.iconst 1, 1) := by decide +kernel
theorem dX3_readTagName_99 : decode cX3_readTagName 99 = .ok (.putfield 56, 3) := by decide +kernel
theorem dX3_readTagName_102 : decode cX3_readTagName 102 = .ok (.return_, 1) := by decide +kernel
theorem dX3_readToValue_0 : decode cX3_readToValue 0 = .ok (.aload_n 0, 1) := by decide +kernel
theorem dX3_readToValue_1 : decode cX3_readToValue 1 = .ok (.getfield 16, 3) := by decide +kernel
theorem dX3_readToValue_4 : decode cX3_readToValue 4 = .ok (.invokevirtual 114, 3) := by decide +kernel
theorem dX3_readToValue_7 : decode cX3_readToValue 7 = .ok (.pop, 1) := by decide +kernel
theorem dX3_readToValue_8 : decode cX3_readToValue 8 = .ok (.aload_n 0, 1) := by decide +kernel
theorem dX3_readToValue_9 : decode cX3_readToValue 9 = .ok (.getfield 16, 3) := by decide +kernel
theorem dX3_readToValue_12 : decode cX3_readToValue 12 = .ok (.ldc_w 265, 3) := by decide +kernel
theorem dX3_readToValue_15 : decode cX3_readToValue 15 = .ok (.invokevirtual 151, 3) := by decide +kernel
theorem dX3_readToValue_18 : decode cX3_readToValue 18 = .ok (.ifCond .ne 4, 3) := by decide +kernel
theorem dX3_readToValue_21 : decode cX3_readToValue 21 = .ok (.return_, 1) := by decide +kernel
theorem dX3_readToValue_22 : decode cX3_readToValue 22 = .ok (.aload_n 0, 1) := by decide +kernel
theorem dX3_readToValue_23 : decode cX3_readToValue 23 = .ok (.getfield 16, 3) := by decide +kernel
theorem dX3_readToValue_26 : decode cX3_readToValue 26 = .ok (.invokevirtual 114, 3) := by decide +kernel
theorem dX3_readToValue_29 : decode cX3_readToValue 29 = .ok (.pop, 1) := by decide +kernel
theorem dX3_readToValue_30 : decode cX3_readToValue 30 = .ok (.aload_n 0, 1) := by decide +kernel
theorem dX3_readToValue_31 : decode cX3_readToValue 31 = .ok (.getfield 16, 3) := by decide +kernel
theorem dX3_readToValue_34 : decode cX3_readToValue 34 = .ok (.invokevirtual 107, 3) := by decide +kernel
theorem dX3_readToValue_37 : decode cX3_readToValue 37 = .ok (.istore_n 1, 1) := by decide +kernel
theorem dX3_readToValue_38 : decode cX3_readToValue 38 = .ok (.iload_n 1, 1) := by decide +kernel
theorem dX3_readToValue_39 : decode cX3_readToValue 39 = .ok (.bipush 34, 2) := by decide +kernel
theorem dX3_readToValue_41 : decode cX3_readToValue 41 = .ok (.if_icmp .eq 18, 3) := by decide +kernel
theorem dX3_readToValue_44 : decode cX3_readToValue 44 = .ok (.iload_n 1, 1) := by decide +kernel
theorem dX3_readToValue_45 : decode cX3_readToValue 45 = .ok (.bipush 39, 2) := by decide +kernel
theorem dX3_readToValue_47 : decode cX3_readToValue 47 = .ok (.if_icmp .eq 12, 3) := by decide +kernel
theorem dX3_readToValue_50 : decode cX3_readToValue 50 = .ok (.aload_n 0, 1) := by decide +kernel
theorem dX3_readToValue_51 : decode cX3_readToValue 51 = .ok (.getfield 16, 3) := by decide +kernel
theorem dX3_readToValue_54 : decode cX3_readToValue 54 = .ok (.invokevirtual 104, 3) := by decide +kernel
theorem dX3_readToValue_57 : decode cX3_readToValue 57 = .ok (.pop, 1) := by decide +kernel
theorem dX3_readToValue_58 : decode cX3_readToValue 58 = .ok (.return_, 1) := by decide +kernel
theorem dX3_readToValue_59 : decode cX3_readToValue 59 = .ok (.aload_n 0, 1) := by decide +kernel
theorem dX3_readToValue_60 : decode cX3_readToValue 60 = .ok (.iload_n 1, 1) := by decide +kernel
theorem dX3_readToValue_61 : decode cX3_readToValue 61 = .ok (.putfield 39, 3) := by decide +kernel
theorem dX3_readToValue_64 : decode cX3_readToValue 64 = .ok (.aload_n 0, 1) := by decide +kernel
theorem dX3_readToValue_65 : decode cX3_readToValue 65 = .ok (.getfield 16, 3) := by decide +kernel
theorem dX3_readToValue_68 : decode cX3_readToValue 68 = .ok (.dup, 1) := by decide +kernel
theorem dX3_readToValue_69 : decode cX3_readToValue 69 = .ok (.getfield 123, 3) := by decide +kernel
theorem dX3_readToValue_72 : decode cX3_readToValue 72 = .ok (.iconst 1, 1) := by decide +kernel
theorem dX3_readToValue_73 : decode cX3_readToValue 73 = .ok (.iadd, 1) := by decide +kernel
theorem dX3_readToValue_74 : decode cX3_readToValue 74 = .ok (.putfield 123, 3) := by decide +kernel
theorem dX3_readToValue_77 : decode cX3_readToValue 77 = .ok (.return_, 1) := by decide +kernel
