theorem dL_draw_0 : decode cL_draw 0 = .ok (.iload_n 1, 1) := by decide +kernel
theorem dL_draw_1 : decode cL_draw 1 = .ok (.aload_n 0, 1) := by decide +kernel
theorem dL_draw_2 : decode cL_draw 2 = .ok (.arraylength, 1) := by decide +kernel
theorem dL_draw_3 : decode cL_draw 3 = .ok (.if_icmp .ge 9, 3) := by decide +kernel
theorem dL_draw_6 : decode cL_draw 6 = .ok (.aload_n 0, 1) := by decide +kernel
theorem dL_draw_7 : decode cL_draw 7 = .ok (.iload_n 1, 1) := by decide +kernel
theorem dL_draw_8 : decode cL_draw 8 = .ok (.iaload, 1) := by decide +kernel
theorem dL_draw_9 : decode cL_draw 9 = .ok (.goto 14, 3) := by decide +kernel
theorem dL_draw_12 : decode cL_draw 12 = .ok (.ldc 7, 2) := by decide +kernel
theorem dL_draw_14 : decode cL_draw 14 = .ok (.iload_n 1, 1) := by decide +kernel
theorem dL_draw_15 : decode cL_draw 15 = .ok (.sipush 1009, 3) := by decide +kernel
theorem dL_draw_18 : decode cL_draw 18 = .ok (.iadd, 1) := by decide +kernel
theorem dL_draw_19 : decode cL_draw 19 = .ok (.imul, 1) := by decide +kernel
theorem dL_draw_20 : decode cL_draw 20 = .ok (.ldc 8, 2) := by decide +kernel
theorem dL_draw_22 : decode cL_draw 22 = .ok (.iadd, 1) := by decide +kernel
theorem dL_draw_23 : decode cL_draw 23 = .ok (.istore_n 3, 1) := by decide +kernel
theorem dL_draw_24 : decode cL_draw 24 = .ok (.iload_n 3, 1) := by decide +kernel
theorem dL_draw_25 : decode cL_draw 25 = .ok (.ldc 9, 2) := by decide +kernel
theorem dL_draw_27 : decode cL_draw 27 = .ok (.iand, 1) := by decide +kernel
theorem dL_draw_28 : decode cL_draw 28 = .ok (.iload_n 2, 1) := by decide +kernel
theorem dL_draw_29 : decode cL_draw 29 = .ok (.irem, 1) := by decide +kernel
theorem dL_draw_30 : decode cL_draw 30 = .ok (.ireturn, 1) := by decide +kernel
theorem dL_asks_0 : decode cL_asks 0 = .ok (.iload_n 1, 1) := by decide +kernel
theorem dL_asks_1 : decode cL_asks 1 = .ok (.ifCond .ne 12, 3) := by decide +kernel
theorem dL_asks_4 : decode cL_asks 4 = .ok (.aload_n 0, 1) := by decide +kernel
theorem dL_asks_5 : decode cL_asks 5 = .ok (.iload_n 2, 1) := by decide +kernel
theorem dL_asks_6 : decode cL_asks 6 = .ok (.iload_n 3, 1) := by decide +kernel
theorem dL_asks_7 : decode cL_asks 7 = .ok (.invokevirtual 10, 3) := by decide +kernel
theorem dL_asks_10 : decode cL_asks 10 = .ok (.goto 78, 3) := by decide +kernel
theorem dL_asks_13 : decode cL_asks 13 = .ok (.iload_n 1, 1) := by decide +kernel
theorem dL_asks_14 : decode cL_asks 14 = .ok (.iconst 1, 1) := by decide +kernel
theorem dL_asks_15 : decode cL_asks 15 = .ok (.if_icmp .ne 12, 3) := by decide +kernel
theorem dL_asks_18 : decode cL_asks 18 = .ok (.aload_n 0, 1) := by decide +kernel
theorem dL_asks_19 : decode cL_asks 19 = .ok (.iload_n 2, 1) := by decide +kernel
theorem dL_asks_20 : decode cL_asks 20 = .ok (.iload_n 3, 1) := by decide +kernel
theorem dL_asks_21 : decode cL_asks 21 = .ok (.invokevirtual 16, 3) := by decide +kernel
theorem dL_asks_24 : decode cL_asks 24 = .ok (.goto 64, 3) := by decide +kernel
theorem dL_asks_27 : decode cL_asks 27 = .ok (.iload_n 1, 1) := by decide +kernel
theorem dL_asks_28 : decode cL_asks 28 = .ok (.iconst 2, 1) := by decide +kernel
theorem dL_asks_29 : decode cL_asks 29 = .ok (.if_icmp .ne 11, 3) := by decide +kernel
theorem dL_asks_32 : decode cL_asks 32 = .ok (.aload_n 0, 1) := by decide +kernel
theorem dL_asks_33 : decode cL_asks 33 = .ok (.iload_n 2, 1) := by decide +kernel
theorem dL_asks_34 : decode cL_asks 34 = .ok (.invokevirtual 19, 3) := by decide +kernel
theorem dL_asks_37 : decode cL_asks 37 = .ok (.goto 51, 3) := by decide +kernel
theorem dL_asks_40 : decode cL_asks 40 = .ok (.iload_n 1, 1) := by decide +kernel
theorem dL_asks_41 : decode cL_asks 41 = .ok (.iconst 3, 1) := by decide +kernel
theorem dL_asks_42 : decode cL_asks 42 = .ok (.if_icmp .ne 12, 3) := by decide +kernel
theorem dL_asks_45 : decode cL_asks 45 = .ok (.aload_n 0, 1) := by decide +kernel
theorem dL_asks_46 : decode cL_asks 46 = .ok (.iload_n 2, 1) := by decide +kernel
theorem dL_asks_47 : decode cL_asks 47 = .ok (.iload_n 3, 1) := by decide +kernel
theorem dL_asks_48 : decode cL_asks 48 = .ok (.invokevirtual 23, 3) := by decide +kernel
theorem dL_asks_51 : decode cL_asks 51 = .ok (.goto 37, 3) := by decide +kernel
theorem dL_asks_54 : decode cL_asks 54 = .ok (.iload_n 1, 1) := by decide +kernel
theorem dL_asks_55 : decode cL_asks 55 = .ok (.iconst 4, 1) := by decide +kernel
theorem dL_asks_56 : decode cL_asks 56 = .ok (.if_icmp .ne 12, 3) := by decide +kernel
theorem dL_asks_59 : decode cL_asks 59 = .ok (.aload_n 0, 1) := by decide +kernel
theorem dL_asks_60 : decode cL_asks 60 = .ok (.iload_n 2, 1) := by decide +kernel
theorem dL_asks_61 : decode cL_asks 61 = .ok (.iload_n 3, 1) := by decide +kernel
theorem dL_asks_62 : decode cL_asks 62 = .ok (.invokevirtual 26, 3) := by decide +kernel
theorem dL_asks_65 : decode cL_asks 65 = .ok (.goto 23, 3) := by decide +kernel
theorem dL_asks_68 : decode cL_asks 68 = .ok (.iload_n 1, 1) := by decide +kernel
theorem dL_asks_69 : decode cL_asks 69 = .ok (.iconst 5, 1) := by decide +kernel
theorem dL_asks_70 : decode cL_asks 70 = .ok (.if_icmp .ne 12, 3) := by decide +kernel
theorem dL_asks_73 : decode cL_asks 73 = .ok (.aload_n 0, 1) := by decide +kernel
theorem dL_asks_74 : decode cL_asks 74 = .ok (.iload_n 2, 1) := by decide +kernel
theorem dL_asks_75 : decode cL_asks 75 = .ok (.iload_n 3, 1) := by decide +kernel
theorem dL_asks_76 : decode cL_asks 76 = .ok (.invokevirtual 29, 3) := by decide +kernel
theorem dL_asks_79 : decode cL_asks 79 = .ok (.goto 9, 3) := by decide +kernel
theorem dL_asks_82 : decode cL_asks 82 = .ok (.aload_n 0, 1) := by decide +kernel
theorem dL_asks_83 : decode cL_asks 83 = .ok (.iload_n 2, 1) := by decide +kernel
theorem dL_asks_84 : decode cL_asks 84 = .ok (.iload_n 3, 1) := by decide +kernel
theorem dL_asks_85 : decode cL_asks 85 = .ok (.invokevirtual 32, 3) := by decide +kernel
theorem dL_asks_88 : decode cL_asks 88 = .ok (.ireturn, 1) := by decide +kernel
theorem dL_asks_89 : decode cL_asks 89 = .ok (.astore 4, 2) := by decide +kernel
theorem dL_asks_91 : decode cL_asks 91 = .ok (.ldc 37, 2) := by decide +kernel
theorem dL_asks_93 : decode cL_asks 93 = .ok (.ireturn, 1) := by decide +kernel
theorem dL_asks_94 : decode cL_asks 94 = .ok (.astore 4, 2) := by decide +kernel
theorem dL_asks_96 : decode cL_asks 96 = .ok (.ldc 40, 2) := by decide +kernel
theorem dL_asks_98 : decode cL_asks 98 = .ok (.ireturn, 1) := by decide +kernel
theorem dL_asks_99 : decode cL_asks 99 = .ok (.astore 4, 2) := by decide +kernel
theorem dL_asks_101 : decode cL_asks 101 = .ok (.ldc 43, 2) := by decide +kernel
theorem dL_asks_103 : decode cL_asks 103 = .ok (.ireturn, 1) := by decide +kernel
theorem dL_isMessage_0 : decode cL_isMessage 0 = .ok (.aload_n 0, 1) := by decide +kernel
theorem dL_isMessage_1 : decode cL_isMessage 1 = .ok (.iload_n 1, 1) := by decide +kernel
theorem dL_isMessage_2 : decode cL_isMessage 2 = .ok (.iconst 0, 1) := by decide +kernel
theorem dL_isMessage_3 : decode cL_isMessage 3 = .ok (.invokevirtual 29, 3) := by decide +kernel
theorem dL_isMessage_6 : decode cL_isMessage 6 = .ok (.istore_n 3, 1) := by decide +kernel
theorem dL_isMessage_7 : decode cL_isMessage 7 = .ok (.iconst 0, 1) := by decide +kernel
theorem dL_isMessage_8 : decode cL_isMessage 8 = .ok (.istore 4, 2) := by decide +kernel
theorem dL_isMessage_10 : decode cL_isMessage 10 = .ok (.iconst 0, 1) := by decide +kernel
theorem dL_isMessage_11 : decode cL_isMessage 11 = .ok (.istore 5, 2) := by decide +kernel
theorem dL_isMessage_13 : decode cL_isMessage 13 = .ok (.iconst (-1), 1) := by decide +kernel
theorem dL_isMessage_14 : decode cL_isMessage 14 = .ok (.istore 6, 2) := by decide +kernel
theorem dL_isMessage_16 : decode cL_isMessage 16 = .ok (.iload_n 3, 1) := by decide +kernel
theorem dL_isMessage_17 : decode cL_isMessage 17 = .ok (.ifCond .lt 12, 3) := by decide +kernel
theorem dL_isMessage_20 : decode cL_isMessage 20 = .ok (.iload_n 3, 1) := by decide +kernel
theorem dL_isMessage_21 : decode cL_isMessage 21 = .ok (.iconst 3, 1) := by decide +kernel
theorem dL_isMessage_22 : decode cL_isMessage 22 = .ok (.if_icmp .ge 7, 3) := by decide +kernel
theorem dL_isMessage_25 : decode cL_isMessage 25 = .ok (.iconst 1, 1) := by decide +kernel
theorem dL_isMessage_26 : decode cL_isMessage 26 = .ok (.goto 4, 3) := by decide +kernel
theorem dL_isMessage_29 : decode cL_isMessage 29 = .ok (.iconst 0, 1) := by decide +kernel
theorem dL_isMessage_30 : decode cL_isMessage 30 = .ok (.istore 7, 2) := by decide +kernel
theorem dL_isMessage_32 : decode cL_isMessage 32 = .ok (.aload_n 0, 1) := by decide +kernel
theorem dL_isMessage_33 : decode cL_isMessage 33 = .ok (.iload_n 1, 1) := by decide +kernel
theorem dL_isMessage_34 : decode cL_isMessage 34 = .ok (.iload 5, 2) := by decide +kernel
theorem dL_isMessage_36 : decode cL_isMessage 36 = .ok (.invokevirtual 44, 3) := by decide +kernel
theorem dL_isMessage_39 : decode cL_isMessage 39 = .ok (.iconst (-1), 1) := by decide +kernel
theorem dL_isMessage_40 : decode cL_isMessage 40 = .ok (.if_icmp .eq 89, 3) := by decide +kernel
theorem dL_isMessage_43 : decode cL_isMessage 43 = .ok (.iload 7, 2) := by decide +kernel
theorem dL_isMessage_45 : decode cL_isMessage 45 = .ok (.ifCond .eq 84, 3) := by decide +kernel
theorem dL_isMessage_48 : decode cL_isMessage 48 = .ok (.iload 5, 2) := by decide +kernel
theorem dL_isMessage_50 : decode cL_isMessage 50 = .ok (.bipush 13, 2) := by decide +kernel
theorem dL_isMessage_52 : decode cL_isMessage 52 = .ok (.if_icmp .ge 77, 3) := by decide +kernel
theorem dL_isMessage_55 : decode cL_isMessage 55 = .ok (.aload_n 0, 1) := by decide +kernel
theorem dL_isMessage_56 : decode cL_isMessage 56 = .ok (.iload_n 1, 1) := by decide +kernel
theorem dL_isMessage_57 : decode cL_isMessage 57 = .ok (.iload 5, 2) := by decide +kernel
theorem dL_isMessage_59 : decode cL_isMessage 59 = .ok (.invokevirtual 44, 3) := by decide +kernel
theorem dL_isMessage_62 : decode cL_isMessage 62 = .ok (.istore 8, 2) := by decide +kernel
theorem dL_isMessage_64 : decode cL_isMessage 64 = .ok (.iload 8, 2) := by decide +kernel
theorem dL_isMessage_66 : decode cL_isMessage 66 = .ok (.ifCond .lt 25, 3) := by decide +kernel
theorem dL_isMessage_69 : decode cL_isMessage 69 = .ok (.iload 8, 2) := by decide +kernel
theorem dL_isMessage_71 : decode cL_isMessage 71 = .ok (.aload_n 2, 1) := by decide +kernel
theorem dL_isMessage_72 : decode cL_isMessage 72 = .ok (.iconst 0, 1) := by decide +kernel
theorem dL_isMessage_73 : decode cL_isMessage 73 = .ok (.iaload, 1) := by decide +kernel
theorem dL_isMessage_74 : decode cL_isMessage 74 = .ok (.if_icmp .ge 17, 3) := by decide +kernel
theorem dL_isMessage_77 : decode cL_isMessage 77 = .ok (.iload 4, 2) := by decide +kernel
theorem dL_isMessage_79 : decode cL_isMessage 79 = .ok (.iload 8, 2) := by decide +kernel
theorem dL_isMessage_81 : decode cL_isMessage 81 = .ok (.ishr, 1) := by decide +kernel
theorem dL_isMessage_82 : decode cL_isMessage 82 = .ok (.iconst 1, 1) := by decide +kernel
theorem dL_isMessage_83 : decode cL_isMessage 83 = .ok (.iand, 1) := by decide +kernel
theorem dL_isMessage_84 : decode cL_isMessage 84 = .ok (.ifCond .ne 7, 3) := by decide +kernel
theorem dL_isMessage_87 : decode cL_isMessage 87 = .ok (.iconst 1, 1) := by decide +kernel
theorem dL_isMessage_88 : decode cL_isMessage 88 = .ok (.goto 4, 3) := by decide +kernel
theorem dL_isMessage_91 : decode cL_isMessage 91 = .ok (.iconst 0, 1) := by decide +kernel
theorem dL_isMessage_92 : decode cL_isMessage 92 = .ok (.istore 7, 2) := by decide +kernel
theorem dL_isMessage_94 : decode cL_isMessage 94 = .ok (.iload 4, 2) := by decide +kernel
theorem dL_isMessage_96 : decode cL_isMessage 96 = .ok (.iconst 1, 1) := by decide +kernel
theorem dL_isMessage_97 : decode cL_isMessage 97 = .ok (.iload 8, 2) := by decide +kernel
theorem dL_isMessage_99 : decode cL_isMessage 99 = .ok (.ishl, 1) := by decide +kernel
theorem dL_isMessage_100 : decode cL_isMessage 100 = .ok (.ior, 1) := by decide +kernel
theorem dL_isMessage_101 : decode cL_isMessage 101 = .ok (.istore 4, 2) := by decide +kernel
theorem dL_isMessage_103 : decode cL_isMessage 103 = .ok (.iload 8, 2) := by decide +kernel
theorem dL_isMessage_105 : decode cL_isMessage 105 = .ok (.aload_n 0, 1) := by decide +kernel
theorem dL_isMessage_106 : decode cL_isMessage 106 = .ok (.iload_n 1, 1) := by decide +kernel
theorem dL_isMessage_107 : decode cL_isMessage 107 = .ok (.iconst 1, 1) := by decide +kernel
theorem dL_isMessage_108 : decode cL_isMessage 108 = .ok (.invokevirtual 29, 3) := by decide +kernel
theorem dL_isMessage_111 : decode cL_isMessage 111 = .ok (.if_icmp .ne 8, 3) := by decide +kernel
theorem dL_isMessage_114 : decode cL_isMessage 114 = .ok (.iload 5, 2) := by decide +kernel
theorem dL_isMessage_116 : decode cL_isMessage 116 = .ok (.goto 5, 3) := by decide +kernel
theorem dL_isMessage_119 : decode cL_isMessage 119 = .ok (.iload 6, 2) := by decide +kernel
theorem dL_isMessage_121 : decode cL_isMessage 121 = .ok (.istore 6, 2) := by decide +kernel
theorem dL_isMessage_123 : decode cL_isMessage 123 = .ok (.iinc 5 1, 3) := by decide +kernel
theorem dL_isMessage_126 : decode cL_isMessage 126 = .ok (.goto (-94), 3) := by decide +kernel
theorem dL_isMessage_129 : decode cL_isMessage 129 = .ok (.aload_n 0, 1) := by decide +kernel
theorem dL_isMessage_130 : decode cL_isMessage 130 = .ok (.iload_n 1, 1) := by decide +kernel
theorem dL_isMessage_131 : decode cL_isMessage 131 = .ok (.iconst 4, 1) := by decide +kernel
theorem dL_isMessage_132 : decode cL_isMessage 132 = .ok (.invokevirtual 29, 3) := by decide +kernel
theorem dL_isMessage_135 : decode cL_isMessage 135 = .ok (.istore 8, 2) := by decide +kernel
theorem dL_isMessage_137 : decode cL_isMessage 137 = .ok (.aload_n 0, 1) := by decide +kernel
theorem dL_isMessage_138 : decode cL_isMessage 138 = .ok (.iload_n 1, 1) := by decide +kernel
theorem dL_isMessage_139 : decode cL_isMessage 139 = .ok (.iconst 2, 1) := by decide +kernel
theorem dL_isMessage_140 : decode cL_isMessage 140 = .ok (.invokevirtual 29, 3) := by decide +kernel
theorem dL_isMessage_143 : decode cL_isMessage 143 = .ok (.istore 9, 2) := by decide +kernel
theorem dL_isMessage_145 : decode cL_isMessage 145 = .ok (.aload_n 0, 1) := by decide +kernel
theorem dL_isMessage_146 : decode cL_isMessage 146 = .ok (.iload_n 1, 1) := by decide +kernel
theorem dL_isMessage_147 : decode cL_isMessage 147 = .ok (.iconst 3, 1) := by decide +kernel
theorem dL_isMessage_148 : decode cL_isMessage 148 = .ok (.invokevirtual 29, 3) := by decide +kernel
theorem dL_isMessage_151 : decode cL_isMessage 151 = .ok (.istore 10, 2) := by decide +kernel
theorem dL_isMessage_153 : decode cL_isMessage 153 = .ok (.aload_n 0, 1) := by decide +kernel
theorem dL_isMessage_154 : decode cL_isMessage 154 = .ok (.iload_n 1, 1) := by decide +kernel
theorem dL_isMessage_155 : decode cL_isMessage 155 = .ok (.iconst 5, 1) := by decide +kernel
theorem dL_isMessage_156 : decode cL_isMessage 156 = .ok (.invokevirtual 29, 3) := by decide +kernel
theorem dL_isMessage_159 : decode cL_isMessage 159 = .ok (.istore 11, 2) := by decide +kernel
theorem dL_isMessage_161 : decode cL_isMessage 161 = .ok (.iload 7, 2) := by decide +kernel
theorem dL_isMessage_163 : decode cL_isMessage 163 = .ok (.ifCond .eq 96, 3) := by decide +kernel
theorem dL_isMessage_166 : decode cL_isMessage 166 = .ok (.iload 5, 2) := by decide +kernel
theorem dL_isMessage_168 : decode cL_isMessage 168 = .ok (.iconst 1, 1) := by decide +kernel
theorem dL_isMessage_169 : decode cL_isMessage 169 = .ok (.if_icmp .le 90, 3) := by decide +kernel
theorem dL_isMessage_172 : decode cL_isMessage 172 = .ok (.aload_n 0, 1) := by decide +kernel
theorem dL_isMessage_173 : decode cL_isMessage 173 = .ok (.iload_n 1, 1) := by decide +kernel
theorem dL_isMessage_174 : decode cL_isMessage 174 = .ok (.iload 5, 2) := by decide +kernel
theorem dL_isMessage_176 : decode cL_isMessage 176 = .ok (.iconst 1, 1) := by decide +kernel
theorem dL_isMessage_177 : decode cL_isMessage 177 = .ok (.iadd, 1) := by decide +kernel
theorem dL_isMessage_178 : decode cL_isMessage 178 = .ok (.invokevirtual 44, 3) := by decide +kernel
theorem dL_isMessage_181 : decode cL_isMessage 181 = .ok (.iconst (-1), 1) := by decide +kernel
theorem dL_isMessage_182 : decode cL_isMessage 182 = .ok (.if_icmp .ne 77, 3) := by decide +kernel
theorem dL_isMessage_185 : decode cL_isMessage 185 = .ok (.iload 8, 2) := by decide +kernel
theorem dL_isMessage_187 : decode cL_isMessage 187 = .ok (.iload_n 3, 1) := by decide +kernel
theorem dL_isMessage_188 : decode cL_isMessage 188 = .ok (.ifCond .ne 8, 3) := by decide +kernel
theorem dL_isMessage_191 : decode cL_isMessage 191 = .ok (.iload 6, 2) := by decide +kernel
theorem dL_isMessage_193 : decode cL_isMessage 193 = .ok (.goto 7, 3) := by decide +kernel
theorem dL_isMessage_196 : decode cL_isMessage 196 = .ok (.iload 6, 2) := by decide +kernel
theorem dL_isMessage_198 : decode cL_isMessage 198 = .ok (.iconst 1, 1) := by decide +kernel
theorem dL_isMessage_199 : decode cL_isMessage 199 = .ok (.isub, 1) := by decide +kernel
theorem dL_isMessage_200 : decode cL_isMessage 200 = .ok (.if_icmp .ne 59, 3) := by decide +kernel
theorem dL_isMessage_203 : decode cL_isMessage 203 = .ok (.iload_n 3, 1) := by decide +kernel
theorem dL_isMessage_204 : decode cL_isMessage 204 = .ok (.ifCond .ne 20, 3) := by decide +kernel
theorem dL_isMessage_207 : decode cL_isMessage 207 = .ok (.iload 6, 2) := by decide +kernel
theorem dL_isMessage_209 : decode cL_isMessage 209 = .ok (.ifCond .lt 50, 3) := by decide +kernel
theorem dL_isMessage_212 : decode cL_isMessage 212 = .ok (.iload 6, 2) := by decide +kernel
theorem dL_isMessage_214 : decode cL_isMessage 214 = .ok (.iload 5, 2) := by decide +kernel
theorem dL_isMessage_216 : decode cL_isMessage 216 = .ok (.iconst 1, 1) := by decide +kernel
theorem dL_isMessage_217 : decode cL_isMessage 217 = .ok (.isub, 1) := by decide +kernel
theorem dL_isMessage_218 : decode cL_isMessage 218 = .ok (.if_icmp .ge 41, 3) := by decide +kernel
theorem dL_isMessage_221 : decode cL_isMessage 221 = .ok (.goto 34, 3) := by decide +kernel
theorem dL_isMessage_224 : decode cL_isMessage 224 = .ok (.iload_n 3, 1) := by decide +kernel
theorem dL_isMessage_225 : decode cL_isMessage 225 = .ok (.iconst 1, 1) := by decide +kernel
theorem dL_isMessage_226 : decode cL_isMessage 226 = .ok (.if_icmp .ne 15, 3) := by decide +kernel
theorem dL_isMessage_229 : decode cL_isMessage 229 = .ok (.iload 6, 2) := by decide +kernel
theorem dL_isMessage_231 : decode cL_isMessage 231 = .ok (.iload 5, 2) := by decide +kernel
theorem dL_isMessage_233 : decode cL_isMessage 233 = .ok (.iconst 1, 1) := by decide +kernel
theorem dL_isMessage_234 : decode cL_isMessage 234 = .ok (.isub, 1) := by decide +kernel
theorem dL_isMessage_235 : decode cL_isMessage 235 = .ok (.if_icmp .ne 24, 3) := by decide +kernel
theorem dL_isMessage_238 : decode cL_isMessage 238 = .ok (.goto 17, 3) := by decide +kernel
theorem dL_isMessage_241 : decode cL_isMessage 241 = .ok (.iload 6, 2) := by decide +kernel
theorem dL_isMessage_243 : decode cL_isMessage 243 = .ok (.ifCond .le 16, 3) := by decide +kernel
theorem dL_isMessage_246 : decode cL_isMessage 246 = .ok (.iload 6, 2) := by decide +kernel
theorem dL_isMessage_248 : decode cL_isMessage 248 = .ok (.iload 5, 2) := by decide +kernel
theorem dL_isMessage_250 : decode cL_isMessage 250 = .ok (.iconst 1, 1) := by decide +kernel
theorem dL_isMessage_251 : decode cL_isMessage 251 = .ok (.isub, 1) := by decide +kernel
theorem dL_isMessage_252 : decode cL_isMessage 252 = .ok (.if_icmp .ge 7, 3) := by decide +kernel
theorem dL_isMessage_255 : decode cL_isMessage 255 = .ok (.iconst 1, 1) := by decide +kernel
theorem dL_isMessage_256 : decode cL_isMessage 256 = .ok (.goto 4, 3) := by decide +kernel
theorem dL_isMessage_259 : decode cL_isMessage 259 = .ok (.iconst 0, 1) := by decide +kernel
theorem dL_isMessage_260 : decode cL_isMessage 260 = .ok (.istore 7, 2) := by decide +kernel
theorem dL_isMessage_262 : decode cL_isMessage 262 = .ok (.iload 7, 2) := by decide +kernel
theorem dL_isMessage_264 : decode cL_isMessage 264 = .ok (.ifCond .eq 57, 3) := by decide +kernel
theorem dL_isMessage_267 : decode cL_isMessage 267 = .ok (.iload 9, 2) := by decide +kernel
theorem dL_isMessage_269 : decode cL_isMessage 269 = .ok (.ifCond .lt 52, 3) := by decide +kernel
theorem dL_isMessage_272 : decode cL_isMessage 272 = .ok (.iload 10, 2) := by decide +kernel
theorem dL_isMessage_274 : decode cL_isMessage 274 = .ok (.ifCond .lt 47, 3) := by decide +kernel
theorem dL_isMessage_277 : decode cL_isMessage 277 = .ok (.iload 11, 2) := by decide +kernel
theorem dL_isMessage_279 : decode cL_isMessage 279 = .ok (.ifCond .lt 42, 3) := by decide +kernel
theorem dL_isMessage_282 : decode cL_isMessage 282 = .ok (.iload 10, 2) := by decide +kernel
theorem dL_isMessage_284 : decode cL_isMessage 284 = .ok (.iload 9, 2) := by decide +kernel
theorem dL_isMessage_286 : decode cL_isMessage 286 = .ok (.if_icmp .gt 35, 3) := by decide +kernel
theorem dL_isMessage_289 : decode cL_isMessage 289 = .ok (.iload_n 3, 1) := by decide +kernel
theorem dL_isMessage_290 : decode cL_isMessage 290 = .ok (.iconst 2, 1) := by decide +kernel
theorem dL_isMessage_291 : decode cL_isMessage 291 = .ok (.if_icmp .ne 16, 3) := by decide +kernel
theorem dL_isMessage_294 : decode cL_isMessage 294 = .ok (.iload 11, 2) := by decide +kernel
theorem dL_isMessage_296 : decode cL_isMessage 296 = .ok (.iload 9, 2) := by decide +kernel
theorem dL_isMessage_298 : decode cL_isMessage 298 = .ok (.iload 10, 2) := by decide +kernel
theorem dL_isMessage_300 : decode cL_isMessage 300 = .ok (.isub, 1) := by decide +kernel
theorem dL_isMessage_301 : decode cL_isMessage 301 = .ok (.if_icmp .gt 20, 3) := by decide +kernel
theorem dL_isMessage_304 : decode cL_isMessage 304 = .ok (.goto 13, 3) := by decide +kernel
theorem dL_isMessage_307 : decode cL_isMessage 307 = .ok (.iload 10, 2) := by decide +kernel
theorem dL_isMessage_309 : decode cL_isMessage 309 = .ok (.ifCond .ne 12, 3) := by decide +kernel
theorem dL_isMessage_312 : decode cL_isMessage 312 = .ok (.iload 11, 2) := by decide +kernel
theorem dL_isMessage_314 : decode cL_isMessage 314 = .ok (.ifCond .ne 7, 3) := by decide +kernel
theorem dL_isMessage_317 : decode cL_isMessage 317 = .ok (.iconst 1, 1) := by decide +kernel
theorem dL_isMessage_318 : decode cL_isMessage 318 = .ok (.goto 4, 3) := by decide +kernel
theorem dL_isMessage_321 : decode cL_isMessage 321 = .ok (.iconst 0, 1) := by decide +kernel
theorem dL_isMessage_322 : decode cL_isMessage 322 = .ok (.ireturn, 1) := by decide +kernel
theorem dL_isSound_0 : decode cL_isSound 0 = .ok (.iconst 0, 1) := by decide +kernel
theorem dL_isSound_1 : decode cL_isSound 1 = .ok (.istore_n 3, 1) := by decide +kernel
theorem dL_isSound_2 : decode cL_isSound 2 = .ok (.iconst 0, 1) := by decide +kernel
theorem dL_isSound_3 : decode cL_isSound 3 = .ok (.istore 4, 2) := by decide +kernel
theorem dL_isSound_5 : decode cL_isSound 5 = .ok (.aload_n 0, 1) := by decide +kernel
theorem dL_isSound_6 : decode cL_isSound 6 = .ok (.invokevirtual 47, 3) := by decide +kernel
theorem dL_isSound_9 : decode cL_isSound 9 = .ok (.aload_n 1, 1) := by decide +kernel
theorem dL_isSound_10 : decode cL_isSound 10 = .ok (.iconst 3, 1) := by decide +kernel
theorem dL_isSound_11 : decode cL_isSound 11 = .ok (.iaload, 1) := by decide +kernel
theorem dL_isSound_12 : decode cL_isSound 12 = .ok (.if_icmp .ne 36, 3) := by decide +kernel
theorem dL_isSound_15 : decode cL_isSound 15 = .ok (.aload_n 0, 1) := by decide +kernel
theorem dL_isSound_16 : decode cL_isSound 16 = .ok (.iconst 5, 1) := by decide +kernel
theorem dL_isSound_17 : decode cL_isSound 17 = .ok (.aload_n 1, 1) := by decide +kernel
theorem dL_isSound_18 : decode cL_isSound 18 = .ok (.iconst 1, 1) := by decide +kernel
theorem dL_isSound_19 : decode cL_isSound 19 = .ok (.iaload, 1) := by decide +kernel
theorem dL_isSound_20 : decode cL_isSound 20 = .ok (.iconst 0, 1) := by decide +kernel
theorem dL_isSound_21 : decode cL_isSound 21 = .ok (.invokestatic 51, 3) := by decide +kernel
theorem dL_isSound_24 : decode cL_isSound 24 = .ok (.ldc 37, 2) := by decide +kernel
theorem dL_isSound_26 : decode cL_isSound 26 = .ok (.if_icmp .ne 22, 3) := by decide +kernel
theorem dL_isSound_29 : decode cL_isSound 29 = .ok (.aload_n 0, 1) := by decide +kernel
theorem dL_isSound_30 : decode cL_isSound 30 = .ok (.bipush 6, 2) := by decide +kernel
theorem dL_isSound_32 : decode cL_isSound 32 = .ok (.aload_n 1, 1) := by decide +kernel
theorem dL_isSound_33 : decode cL_isSound 33 = .ok (.iconst 0, 1) := by decide +kernel
theorem dL_isSound_34 : decode cL_isSound 34 = .ok (.iaload, 1) := by decide +kernel
theorem dL_isSound_35 : decode cL_isSound 35 = .ok (.iconst 0, 1) := by decide +kernel
theorem dL_isSound_36 : decode cL_isSound 36 = .ok (.invokestatic 51, 3) := by decide +kernel
theorem dL_isSound_39 : decode cL_isSound 39 = .ok (.ldc 37, 2) := by decide +kernel
theorem dL_isSound_41 : decode cL_isSound 41 = .ok (.if_icmp .ne 7, 3) := by decide +kernel
theorem dL_isSound_44 : decode cL_isSound 44 = .ok (.iconst 1, 1) := by decide +kernel
theorem dL_isSound_45 : decode cL_isSound 45 = .ok (.goto 4, 3) := by decide +kernel
theorem dL_isSound_48 : decode cL_isSound 48 = .ok (.iconst 0, 1) := by decide +kernel
theorem dL_isSound_49 : decode cL_isSound 49 = .ok (.istore 5, 2) := by decide +kernel
theorem dL_isSound_51 : decode cL_isSound 51 = .ok (.iconst 0, 1) := by decide +kernel
theorem dL_isSound_52 : decode cL_isSound 52 = .ok (.istore 6, 2) := by decide +kernel
theorem dL_isSound_54 : decode cL_isSound 54 = .ok (.iload 6, 2) := by decide +kernel
theorem dL_isSound_56 : decode cL_isSound 56 = .ok (.aload_n 1, 1) := by decide +kernel
theorem dL_isSound_57 : decode cL_isSound 57 = .ok (.iconst 0, 1) := by decide +kernel
theorem dL_isSound_58 : decode cL_isSound 58 = .ok (.iaload, 1) := by decide +kernel
theorem dL_isSound_59 : decode cL_isSound 59 = .ok (.if_icmp .ge 199, 3) := by decide +kernel
theorem dL_isSound_62 : decode cL_isSound 62 = .ok (.iload 5, 2) := by decide +kernel
theorem dL_isSound_64 : decode cL_isSound 64 = .ok (.ifCond .eq 194, 3) := by decide +kernel
theorem dL_isSound_67 : decode cL_isSound 67 = .ok (.aload_n 0, 1) := by decide +kernel
theorem dL_isSound_68 : decode cL_isSound 68 = .ok (.iload 6, 2) := by decide +kernel
theorem dL_isSound_70 : decode cL_isSound 70 = .ok (.iconst 3, 1) := by decide +kernel
theorem dL_isSound_71 : decode cL_isSound 71 = .ok (.invokevirtual 32, 3) := by decide +kernel
theorem dL_isSound_74 : decode cL_isSound 74 = .ok (.istore 7, 2) := by decide +kernel
theorem dL_isSound_76 : decode cL_isSound 76 = .ok (.iload_n 3, 1) := by decide +kernel
theorem dL_isSound_77 : decode cL_isSound 77 = .ok (.aload_n 0, 1) := by decide +kernel
theorem dL_isSound_78 : decode cL_isSound 78 = .ok (.iload 6, 2) := by decide +kernel
theorem dL_isSound_80 : decode cL_isSound 80 = .ok (.iconst 0, 1) := by decide +kernel
theorem dL_isSound_81 : decode cL_isSound 81 = .ok (.invokevirtual 32, 3) := by decide +kernel
theorem dL_isSound_84 : decode cL_isSound 84 = .ok (.aload_n 0, 1) := by decide +kernel
theorem dL_isSound_85 : decode cL_isSound 85 = .ok (.iload 6, 2) := by decide +kernel
theorem dL_isSound_87 : decode cL_isSound 87 = .ok (.iconst 1, 1) := by decide +kernel
theorem dL_isSound_88 : decode cL_isSound 88 = .ok (.invokevirtual 32, 3) := by decide +kernel
theorem dL_isSound_91 : decode cL_isSound 91 = .ok (.iadd, 1) := by decide +kernel
theorem dL_isSound_92 : decode cL_isSound 92 = .ok (.iadd, 1) := by decide +kernel
theorem dL_isSound_93 : decode cL_isSound 93 = .ok (.istore_n 3, 1) := by decide +kernel
theorem dL_isSound_94 : decode cL_isSound 94 = .ok (.iload 4, 2) := by decide +kernel
theorem dL_isSound_96 : decode cL_isSound 96 = .ok (.aload_n 0, 1) := by decide +kernel
theorem dL_isSound_97 : decode cL_isSound 97 = .ok (.iload 6, 2) := by decide +kernel
theorem dL_isSound_99 : decode cL_isSound 99 = .ok (.iconst 5, 1) := by decide +kernel
theorem dL_isSound_100 : decode cL_isSound 100 = .ok (.invokevirtual 32, 3) := by decide +kernel
theorem dL_isSound_103 : decode cL_isSound 103 = .ok (.iadd, 1) := by decide +kernel
theorem dL_isSound_104 : decode cL_isSound 104 = .ok (.istore 4, 2) := by decide +kernel
theorem dL_isSound_106 : decode cL_isSound 106 = .ok (.aload_n 0, 1) := by decide +kernel
theorem dL_isSound_107 : decode cL_isSound 107 = .ok (.iload 6, 2) := by decide +kernel
theorem dL_isSound_109 : decode cL_isSound 109 = .ok (.iconst 0, 1) := by decide +kernel
theorem dL_isSound_110 : decode cL_isSound 110 = .ok (.invokevirtual 32, 3) := by decide +kernel
theorem dL_isSound_113 : decode cL_isSound 113 = .ok (.ifCond .lt 136, 3) := by decide +kernel
theorem dL_isSound_116 : decode cL_isSound 116 = .ok (.aload_n 0, 1) := by decide +kernel
theorem dL_isSound_117 : decode cL_isSound 117 = .ok (.iload 6, 2) := by decide +kernel
theorem dL_isSound_119 : decode cL_isSound 119 = .ok (.iconst 1, 1) := by decide +kernel
theorem dL_isSound_120 : decode cL_isSound 120 = .ok (.invokevirtual 32, 3) := by decide +kernel
theorem dL_isSound_123 : decode cL_isSound 123 = .ok (.ifCond .lt 126, 3) := by decide +kernel
theorem dL_isSound_126 : decode cL_isSound 126 = .ok (.aload_n 0, 1) := by decide +kernel
theorem dL_isSound_127 : decode cL_isSound 127 = .ok (.iload 6, 2) := by decide +kernel
theorem dL_isSound_129 : decode cL_isSound 129 = .ok (.iconst 2, 1) := by decide +kernel
theorem dL_isSound_130 : decode cL_isSound 130 = .ok (.invokevirtual 32, 3) := by decide +kernel
theorem dL_isSound_133 : decode cL_isSound 133 = .ok (.ifCond .lt 116, 3) := by decide +kernel
theorem dL_isSound_136 : decode cL_isSound 136 = .ok (.aload_n 0, 1) := by decide +kernel
theorem dL_isSound_137 : decode cL_isSound 137 = .ok (.iload 6, 2) := by decide +kernel
theorem dL_isSound_139 : decode cL_isSound 139 = .ok (.iconst 2, 1) := by decide +kernel
theorem dL_isSound_140 : decode cL_isSound 140 = .ok (.invokevirtual 32, 3) := by decide +kernel
theorem dL_isSound_143 : decode cL_isSound 143 = .ok (.bipush 100, 2) := by decide +kernel
theorem dL_isSound_145 : decode cL_isSound 145 = .ok (.if_icmp .gt 104, 3) := by decide +kernel
theorem dL_isSound_148 : decode cL_isSound 148 = .ok (.iload 7, 2) := by decide +kernel
theorem dL_isSound_150 : decode cL_isSound 150 = .ok (.ifCond .lt 99, 3) := by decide +kernel
theorem dL_isSound_153 : decode cL_isSound 153 = .ok (.iload 7, 2) := by decide +kernel
theorem dL_isSound_155 : decode cL_isSound 155 = .ok (.iconst 3, 1) := by decide +kernel
theorem dL_isSound_156 : decode cL_isSound 156 = .ok (.if_icmp .ge 93, 3) := by decide +kernel
theorem dL_isSound_159 : decode cL_isSound 159 = .ok (.iload 7, 2) := by decide +kernel
theorem dL_isSound_161 : decode cL_isSound 161 = .ok (.iconst 2, 1) := by decide +kernel
theorem dL_isSound_162 : decode cL_isSound 162 = .ok (.if_icmp .lt 13, 3) := by decide +kernel
theorem dL_isSound_165 : decode cL_isSound 165 = .ok (.aload_n 0, 1) := by decide +kernel
theorem dL_isSound_166 : decode cL_isSound 166 = .ok (.iload 6, 2) := by decide +kernel
theorem dL_isSound_168 : decode cL_isSound 168 = .ok (.iconst 1, 1) := by decide +kernel
theorem dL_isSound_169 : decode cL_isSound 169 = .ok (.invokevirtual 32, 3) := by decide +kernel
theorem dL_isSound_172 : decode cL_isSound 172 = .ok (.ifCond .ne 77, 3) := by decide +kernel
theorem dL_isSound_175 : decode cL_isSound 175 = .ok (.aload_n 0, 1) := by decide +kernel
theorem dL_isSound_176 : decode cL_isSound 176 = .ok (.iload 6, 2) := by decide +kernel
theorem dL_isSound_178 : decode cL_isSound 178 = .ok (.invokevirtual 57, 3) := by decide +kernel
theorem dL_isSound_181 : decode cL_isSound 181 = .ok (.aload_n 0, 1) := by decide +kernel
theorem dL_isSound_182 : decode cL_isSound 182 = .ok (.iload 6, 2) := by decide +kernel
theorem dL_isSound_184 : decode cL_isSound 184 = .ok (.iconst 4, 1) := by decide +kernel
theorem dL_isSound_185 : decode cL_isSound 185 = .ok (.invokevirtual 32, 3) := by decide +kernel
theorem dL_isSound_188 : decode cL_isSound 188 = .ok (.if_icmp .ne 61, 3) := by decide +kernel
theorem dL_isSound_191 : decode cL_isSound 191 = .ok (.aload_n 0, 1) := by decide +kernel
theorem dL_isSound_192 : decode cL_isSound 192 = .ok (.iload 6, 2) := by decide +kernel
theorem dL_isSound_194 : decode cL_isSound 194 = .ok (.bipush 6, 2) := by decide +kernel
theorem dL_isSound_196 : decode cL_isSound 196 = .ok (.invokevirtual 32, 3) := by decide +kernel
theorem dL_isSound_199 : decode cL_isSound 199 = .ok (.iload 7, 2) := by decide +kernel
theorem dL_isSound_201 : decode cL_isSound 201 = .ok (.iconst 1, 1) := by decide +kernel
theorem dL_isSound_202 : decode cL_isSound 202 = .ok (.if_icmp .ne 10, 3) := by decide +kernel
theorem dL_isSound_205 : decode cL_isSound 205 = .ok (.aload_n 2, 1) := by decide +kernel
theorem dL_isSound_206 : decode cL_isSound 206 = .ok (.iload 6, 2) := by decide +kernel
theorem dL_isSound_208 : decode cL_isSound 208 = .ok (.iaload, 1) := by decide +kernel
theorem dL_isSound_209 : decode cL_isSound 209 = .ok (.goto 4, 3) := by decide +kernel
theorem dL_isSound_212 : decode cL_isSound 212 = .ok (.iconst (-1), 1) := by decide +kernel
theorem dL_isSound_213 : decode cL_isSound 213 = .ok (.if_icmp .ne 36, 3) := by decide +kernel
theorem dL_isSound_216 : decode cL_isSound 216 = .ok (.iload 7, 2) := by decide +kernel
theorem dL_isSound_218 : decode cL_isSound 218 = .ok (.iconst 1, 1) := by decide +kernel
theorem dL_isSound_219 : decode cL_isSound 219 = .ok (.if_icmp .ne 26, 3) := by decide +kernel
theorem dL_isSound_222 : decode cL_isSound 222 = .ok (.aload_n 2, 1) := by decide +kernel
theorem dL_isSound_223 : decode cL_isSound 223 = .ok (.iload 6, 2) := by decide +kernel
theorem dL_isSound_225 : decode cL_isSound 225 = .ok (.iaload, 1) := by decide +kernel
theorem dL_isSound_226 : decode cL_isSound 226 = .ok (.aload_n 1, 1) := by decide +kernel
theorem dL_isSound_227 : decode cL_isSound 227 = .ok (.iconst 2, 1) := by decide +kernel
theorem dL_isSound_228 : decode cL_isSound 228 = .ok (.iaload, 1) := by decide +kernel
theorem dL_isSound_229 : decode cL_isSound 229 = .ok (.if_icmp .le 20, 3) := by decide +kernel
theorem dL_isSound_232 : decode cL_isSound 232 = .ok (.aload_n 2, 1) := by decide +kernel
theorem dL_isSound_233 : decode cL_isSound 233 = .ok (.iload 6, 2) := by decide +kernel
theorem dL_isSound_235 : decode cL_isSound 235 = .ok (.iaload, 1) := by decide +kernel
theorem dL_isSound_236 : decode cL_isSound 236 = .ok (.aload_n 1, 1) := by decide +kernel
theorem dL_isSound_237 : decode cL_isSound 237 = .ok (.iconst 2, 1) := by decide +kernel
theorem dL_isSound_238 : decode cL_isSound 238 = .ok (.iaload, 1) := by decide +kernel
theorem dL_isSound_239 : decode cL_isSound 239 = .ok (.bipush 15, 2) := by decide +kernel
theorem dL_isSound_241 : decode cL_isSound 241 = .ok (.iadd, 1) := by decide +kernel
theorem dL_isSound_242 : decode cL_isSound 242 = .ok (.if_icmp .gt 7, 3) := by decide +kernel
theorem dL_isSound_245 : decode cL_isSound 245 = .ok (.iconst 1, 1) := by decide +kernel
theorem dL_isSound_246 : decode cL_isSound 246 = .ok (.goto 4, 3) := by decide +kernel
theorem dL_isSound_249 : decode cL_isSound 249 = .ok (.iconst 0, 1) := by decide +kernel
theorem dL_isSound_250 : decode cL_isSound 250 = .ok (.istore 5, 2) := by decide +kernel
theorem dL_isSound_252 : decode cL_isSound 252 = .ok (.iinc 6 1, 3) := by decide +kernel
theorem dL_isSound_255 : decode cL_isSound 255 = .ok (.goto (-201), 3) := by decide +kernel
theorem dL_isSound_258 : decode cL_isSound 258 = .ok (.iconst 0, 1) := by decide +kernel
theorem dL_isSound_259 : decode cL_isSound 259 = .ok (.istore 6, 2) := by decide +kernel
theorem dL_isSound_261 : decode cL_isSound 261 = .ok (.iload 6, 2) := by decide +kernel
theorem dL_isSound_263 : decode cL_isSound 263 = .ok (.aload_n 1, 1) := by decide +kernel
theorem dL_isSound_264 : decode cL_isSound 264 = .ok (.iconst 1, 1) := by decide +kernel
theorem dL_isSound_265 : decode cL_isSound 265 = .ok (.iaload, 1) := by decide +kernel
theorem dL_isSound_266 : decode cL_isSound 266 = .ok (.if_icmp .ge 59, 3) := by decide +kernel
theorem dL_isSound_269 : decode cL_isSound 269 = .ok (.iload 5, 2) := by decide +kernel
theorem dL_isSound_271 : decode cL_isSound 271 = .ok (.ifCond .eq 54, 3) := by decide +kernel
theorem dL_isSound_274 : decode cL_isSound 274 = .ok (.aload_n 0, 1) := by decide +kernel
theorem dL_isSound_275 : decode cL_isSound 275 = .ok (.iload 6, 2) := by decide +kernel
theorem dL_isSound_277 : decode cL_isSound 277 = .ok (.aload_n 1, 1) := by decide +kernel
theorem dL_isSound_278 : decode cL_isSound 278 = .ok (.invokestatic 60, 3) := by decide +kernel
theorem dL_isSound_281 : decode cL_isSound 281 = .ok (.istore 5, 2) := by decide +kernel
theorem dL_isSound_283 : decode cL_isSound 283 = .ok (.iload_n 3, 1) := by decide +kernel
theorem dL_isSound_284 : decode cL_isSound 284 = .ok (.aload_n 0, 1) := by decide +kernel
theorem dL_isSound_285 : decode cL_isSound 285 = .ok (.iload 6, 2) := by decide +kernel
theorem dL_isSound_287 : decode cL_isSound 287 = .ok (.iconst 0, 1) := by decide +kernel
theorem dL_isSound_288 : decode cL_isSound 288 = .ok (.invokevirtual 29, 3) := by decide +kernel
theorem dL_isSound_291 : decode cL_isSound 291 = .ok (.ifCond .ne 13, 3) := by decide +kernel
theorem dL_isSound_294 : decode cL_isSound 294 = .ok (.aload_n 0, 1) := by decide +kernel
theorem dL_isSound_295 : decode cL_isSound 295 = .ok (.iload 6, 2) := by decide +kernel
theorem dL_isSound_297 : decode cL_isSound 297 = .ok (.iconst 2, 1) := by decide +kernel
theorem dL_isSound_298 : decode cL_isSound 298 = .ok (.invokevirtual 29, 3) := by decide +kernel
theorem dL_isSound_301 : decode cL_isSound 301 = .ok (.goto 4, 3) := by decide +kernel
theorem dL_isSound_304 : decode cL_isSound 304 = .ok (.iconst 0, 1) := by decide +kernel
theorem dL_isSound_305 : decode cL_isSound 305 = .ok (.iadd, 1) := by decide +kernel
theorem dL_isSound_306 : decode cL_isSound 306 = .ok (.istore_n 3, 1) := by decide +kernel
theorem dL_isSound_307 : decode cL_isSound 307 = .ok (.iload 4, 2) := by decide +kernel
theorem dL_isSound_309 : decode cL_isSound 309 = .ok (.aload_n 0, 1) := by decide +kernel
theorem dL_isSound_310 : decode cL_isSound 310 = .ok (.iload 6, 2) := by decide +kernel
theorem dL_isSound_312 : decode cL_isSound 312 = .ok (.iconst 4, 1) := by decide +kernel
theorem dL_isSound_313 : decode cL_isSound 313 = .ok (.invokevirtual 29, 3) := by decide +kernel
theorem dL_isSound_316 : decode cL_isSound 316 = .ok (.isub, 1) := by decide +kernel
theorem dL_isSound_317 : decode cL_isSound 317 = .ok (.istore 4, 2) := by decide +kernel
theorem dL_isSound_319 : decode cL_isSound 319 = .ok (.iinc 6 1, 3) := by decide +kernel
theorem dL_isSound_322 : decode cL_isSound 322 = .ok (.goto (-61), 3) := by decide +kernel
theorem dL_isSound_325 : decode cL_isSound 325 = .ok (.iload 5, 2) := by decide +kernel
theorem dL_isSound_327 : decode cL_isSound 327 = .ok (.ifCond .eq 19, 3) := by decide +kernel
theorem dL_isSound_330 : decode cL_isSound 330 = .ok (.iload_n 3, 1) := by decide +kernel
theorem dL_isSound_331 : decode cL_isSound 331 = .ok (.aload_n 1, 1) := by decide +kernel
theorem dL_isSound_332 : decode cL_isSound 332 = .ok (.iconst 3, 1) := by decide +kernel
theorem dL_isSound_333 : decode cL_isSound 333 = .ok (.iaload, 1) := by decide +kernel
theorem dL_isSound_334 : decode cL_isSound 334 = .ok (.if_icmp .ne 12, 3) := by decide +kernel
theorem dL_isSound_337 : decode cL_isSound 337 = .ok (.iload 4, 2) := by decide +kernel
theorem dL_isSound_339 : decode cL_isSound 339 = .ok (.ifCond .ne 7, 3) := by decide +kernel
theorem dL_isSound_342 : decode cL_isSound 342 = .ok (.iconst 1, 1) := by decide +kernel
theorem dL_isSound_343 : decode cL_isSound 343 = .ok (.goto 4, 3) := by decide +kernel
theorem dL_isSound_346 : decode cL_isSound 346 = .ok (.iconst 0, 1) := by decide +kernel
theorem dL_isSound_347 : decode cL_isSound 347 = .ok (.ireturn, 1) := by decide +kernel
theorem dL_sends_0 : decode cL_sends 0 = .ok (.iload_n 1, 1) := by decide +kernel
theorem dL_sends_1 : decode cL_sends 1 = .ok (.aload_n 2, 1) := by decide +kernel
theorem dL_sends_2 : decode cL_sends 2 = .ok (.iconst 0, 1) := by decide +kernel
theorem dL_sends_3 : decode cL_sends 3 = .ok (.iaload, 1) := by decide +kernel
theorem dL_sends_4 : decode cL_sends 4 = .ok (.irem, 1) := by decide +kernel
theorem dL_sends_5 : decode cL_sends 5 = .ok (.istore 5, 2) := by decide +kernel
theorem dL_sends_7 : decode cL_sends 7 = .ok (.iload 5, 2) := by decide +kernel
theorem dL_sends_9 : decode cL_sends 9 = .ok (.iconst 1, 1) := by decide +kernel
theorem dL_sends_10 : decode cL_sends 10 = .ok (.iadd, 1) := by decide +kernel
theorem dL_sends_11 : decode cL_sends 11 = .ok (.iload_n 1, 1) := by decide +kernel
theorem dL_sends_12 : decode cL_sends 12 = .ok (.bipush 12, 2) := by decide +kernel
theorem dL_sends_14 : decode cL_sends 14 = .ok (.idiv, 1) := by decide +kernel
theorem dL_sends_15 : decode cL_sends 15 = .ok (.aload_n 2, 1) := by decide +kernel
theorem dL_sends_16 : decode cL_sends 16 = .ok (.iconst 0, 1) := by decide +kernel
theorem dL_sends_17 : decode cL_sends 17 = .ok (.iaload, 1) := by decide +kernel
theorem dL_sends_18 : decode cL_sends 18 = .ok (.iconst 1, 1) := by decide +kernel
theorem dL_sends_19 : decode cL_sends 19 = .ok (.isub, 1) := by decide +kernel
theorem dL_sends_20 : decode cL_sends 20 = .ok (.irem, 1) := by decide +kernel
theorem dL_sends_21 : decode cL_sends 21 = .ok (.iadd, 1) := by decide +kernel
theorem dL_sends_22 : decode cL_sends 22 = .ok (.aload_n 2, 1) := by decide +kernel
theorem dL_sends_23 : decode cL_sends 23 = .ok (.iconst 0, 1) := by decide +kernel
theorem dL_sends_24 : decode cL_sends 24 = .ok (.iaload, 1) := by decide +kernel
theorem dL_sends_25 : decode cL_sends 25 = .ok (.irem, 1) := by decide +kernel
theorem dL_sends_26 : decode cL_sends 26 = .ok (.istore 6, 2) := by decide +kernel
theorem dL_sends_28 : decode cL_sends 28 = .ok (.aload_n 0, 1) := by decide +kernel
theorem dL_sends_29 : decode cL_sends 29 = .ok (.iload 5, 2) := by decide +kernel
theorem dL_sends_31 : decode cL_sends 31 = .ok (.iload 6, 2) := by decide +kernel
theorem dL_sends_33 : decode cL_sends 33 = .ok (.invokevirtual 64, 3) := by decide +kernel
theorem dL_sends_36 : decode cL_sends 36 = .ok (.istore 7, 2) := by decide +kernel
theorem dL_sends_38 : decode cL_sends 38 = .ok (.aload_n 0, 1) := by decide +kernel
theorem dL_sends_39 : decode cL_sends 39 = .ok (.iload 5, 2) := by decide +kernel
theorem dL_sends_41 : decode cL_sends 41 = .ok (.iconst 0, 1) := by decide +kernel
theorem dL_sends_42 : decode cL_sends 42 = .ok (.invokevirtual 32, 3) := by decide +kernel
theorem dL_sends_45 : decode cL_sends 45 = .ok (.istore 8, 2) := by decide +kernel
theorem dL_sends_47 : decode cL_sends 47 = .ok (.sipush 9999, 3) := by decide +kernel
theorem dL_sends_50 : decode cL_sends 50 = .ok (.istore 9, 2) := by decide +kernel
theorem dL_sends_52 : decode cL_sends 52 = .ok (.iconst 0, 1) := by decide +kernel
theorem dL_sends_53 : decode cL_sends 53 = .ok (.istore 10, 2) := by decide +kernel
theorem dL_sends_55 : decode cL_sends 55 = .ok (.iload 10, 2) := by decide +kernel
theorem dL_sends_57 : decode cL_sends 57 = .ok (.aload_n 2, 1) := by decide +kernel
theorem dL_sends_58 : decode cL_sends 58 = .ok (.iconst 0, 1) := by decide +kernel
theorem dL_sends_59 : decode cL_sends 59 = .ok (.iaload, 1) := by decide +kernel
theorem dL_sends_60 : decode cL_sends 60 = .ok (.if_icmp .ge 129, 3) := by decide +kernel
theorem dL_sends_63 : decode cL_sends 63 = .ok (.iload 10, 2) := by decide +kernel
theorem dL_sends_65 : decode cL_sends 65 = .ok (.iload 5, 2) := by decide +kernel
theorem dL_sends_67 : decode cL_sends 67 = .ok (.if_icmp .eq 70, 3) := by decide +kernel
theorem dL_sends_70 : decode cL_sends 70 = .ok (.iload 10, 2) := by decide +kernel
theorem dL_sends_72 : decode cL_sends 72 = .ok (.iload 6, 2) := by decide +kernel
theorem dL_sends_74 : decode cL_sends 74 = .ok (.if_icmp .eq 63, 3) := by decide +kernel
theorem dL_sends_77 : decode cL_sends 77 = .ok (.aload 4, 2) := by decide +kernel
theorem dL_sends_79 : decode cL_sends 79 = .ok (.iload 10, 2) := by decide +kernel
theorem dL_sends_81 : decode cL_sends 81 = .ok (.iaload, 1) := by decide +kernel
theorem dL_sends_82 : decode cL_sends 82 = .ok (.iload 5, 2) := by decide +kernel
theorem dL_sends_84 : decode cL_sends 84 = .ok (.ishr, 1) := by decide +kernel
theorem dL_sends_85 : decode cL_sends 85 = .ok (.iconst 1, 1) := by decide +kernel
theorem dL_sends_86 : decode cL_sends 86 = .ok (.iand, 1) := by decide +kernel
theorem dL_sends_87 : decode cL_sends 87 = .ok (.iconst 1, 1) := by decide +kernel
theorem dL_sends_88 : decode cL_sends 88 = .ok (.if_icmp .ne 49, 3) := by decide +kernel
theorem dL_sends_91 : decode cL_sends 91 = .ok (.aload 4, 2) := by decide +kernel
theorem dL_sends_93 : decode cL_sends 93 = .ok (.iload 10, 2) := by decide +kernel
theorem dL_sends_95 : decode cL_sends 95 = .ok (.iaload, 1) := by decide +kernel
theorem dL_sends_96 : decode cL_sends 96 = .ok (.iload 6, 2) := by decide +kernel
theorem dL_sends_98 : decode cL_sends 98 = .ok (.ishr, 1) := by decide +kernel
theorem dL_sends_99 : decode cL_sends 99 = .ok (.iconst 1, 1) := by decide +kernel
theorem dL_sends_100 : decode cL_sends 100 = .ok (.iand, 1) := by decide +kernel
theorem dL_sends_101 : decode cL_sends 101 = .ok (.iconst 1, 1) := by decide +kernel
theorem dL_sends_102 : decode cL_sends 102 = .ok (.if_icmp .ne 35, 3) := by decide +kernel
theorem dL_sends_105 : decode cL_sends 105 = .ok (.aload_n 0, 1) := by decide +kernel
theorem dL_sends_106 : decode cL_sends 106 = .ok (.iload 10, 2) := by decide +kernel
theorem dL_sends_108 : decode cL_sends 108 = .ok (.iconst 3, 1) := by decide +kernel
theorem dL_sends_109 : decode cL_sends 109 = .ok (.invokevirtual 32, 3) := by decide +kernel
theorem dL_sends_112 : decode cL_sends 112 = .ok (.ifCond .ne 25, 3) := by decide +kernel
theorem dL_sends_115 : decode cL_sends 115 = .ok (.aload_n 0, 1) := by decide +kernel
theorem dL_sends_116 : decode cL_sends 116 = .ok (.iload 10, 2) := by decide +kernel
theorem dL_sends_118 : decode cL_sends 118 = .ok (.iconst 1, 1) := by decide +kernel
theorem dL_sends_119 : decode cL_sends 119 = .ok (.invokevirtual 32, 3) := by decide +kernel
theorem dL_sends_122 : decode cL_sends 122 = .ok (.iconst 2, 1) := by decide +kernel
theorem dL_sends_123 : decode cL_sends 123 = .ok (.aload_n 3, 1) := by decide +kernel
theorem dL_sends_124 : decode cL_sends 124 = .ok (.iconst 2, 1) := by decide +kernel
theorem dL_sends_125 : decode cL_sends 125 = .ok (.iload 10, 2) := by decide +kernel
theorem dL_sends_127 : decode cL_sends 127 = .ok (.imul, 1) := by decide +kernel
theorem dL_sends_128 : decode cL_sends 128 = .ok (.iaload, 1) := by decide +kernel
theorem dL_sends_129 : decode cL_sends 129 = .ok (.imul, 1) := by decide +kernel
theorem dL_sends_130 : decode cL_sends 130 = .ok (.if_icmp .lt 7, 3) := by decide +kernel
theorem dL_sends_133 : decode cL_sends 133 = .ok (.iconst 1, 1) := by decide +kernel
theorem dL_sends_134 : decode cL_sends 134 = .ok (.goto 4, 3) := by decide +kernel
theorem dL_sends_137 : decode cL_sends 137 = .ok (.iconst 0, 1) := by decide +kernel
theorem dL_sends_138 : decode cL_sends 138 = .ok (.istore 11, 2) := by decide +kernel
theorem dL_sends_140 : decode cL_sends 140 = .ok (.aload_n 3, 1) := by decide +kernel
theorem dL_sends_141 : decode cL_sends 141 = .ok (.iconst 2, 1) := by decide +kernel
theorem dL_sends_142 : decode cL_sends 142 = .ok (.iload 10, 2) := by decide +kernel
theorem dL_sends_144 : decode cL_sends 144 = .ok (.imul, 1) := by decide +kernel
theorem dL_sends_145 : decode cL_sends 145 = .ok (.iaload, 1) := by decide +kernel
theorem dL_sends_146 : decode cL_sends 146 = .ok (.bipush 100, 2) := by decide +kernel
theorem dL_sends_148 : decode cL_sends 148 = .ok (.aload_n 0, 1) := by decide +kernel
theorem dL_sends_149 : decode cL_sends 149 = .ok (.iload 10, 2) := by decide +kernel
theorem dL_sends_151 : decode cL_sends 151 = .ok (.iconst 2, 1) := by decide +kernel
theorem dL_sends_152 : decode cL_sends 152 = .ok (.invokevirtual 32, 3) := by decide +kernel
theorem dL_sends_155 : decode cL_sends 155 = .ok (.isub, 1) := by decide +kernel
theorem dL_sends_156 : decode cL_sends 156 = .ok (.bipush 10, 2) := by decide +kernel
theorem dL_sends_158 : decode cL_sends 158 = .ok (.idiv, 1) := by decide +kernel
theorem dL_sends_159 : decode cL_sends 159 = .ok (.iadd, 1) := by decide +kernel
theorem dL_sends_160 : decode cL_sends 160 = .ok (.istore 12, 2) := by decide +kernel
theorem dL_sends_162 : decode cL_sends 162 = .ok (.iload 11, 2) := by decide +kernel
theorem dL_sends_164 : decode cL_sends 164 = .ok (.ifCond .eq 15, 3) := by decide +kernel
theorem dL_sends_167 : decode cL_sends 167 = .ok (.iload 12, 2) := by decide +kernel
theorem dL_sends_169 : decode cL_sends 169 = .ok (.iload 9, 2) := by decide +kernel
theorem dL_sends_171 : decode cL_sends 171 = .ok (.if_icmp .ge 8, 3) := by decide +kernel
theorem dL_sends_174 : decode cL_sends 174 = .ok (.iload 12, 2) := by decide +kernel
theorem dL_sends_176 : decode cL_sends 176 = .ok (.goto 5, 3) := by decide +kernel
theorem dL_sends_179 : decode cL_sends 179 = .ok (.iload 9, 2) := by decide +kernel
theorem dL_sends_181 : decode cL_sends 181 = .ok (.istore 9, 2) := by decide +kernel
theorem dL_sends_183 : decode cL_sends 183 = .ok (.iinc 10 1, 3) := by decide +kernel
theorem dL_sends_186 : decode cL_sends 186 = .ok (.goto (-131), 3) := by decide +kernel
theorem dL_sends_189 : decode cL_sends 189 = .ok (.aload_n 0, 1) := by decide +kernel
theorem dL_sends_190 : decode cL_sends 190 = .ok (.iconst 0, 1) := by decide +kernel
theorem dL_sends_191 : decode cL_sends 191 = .ok (.iload 5, 2) := by decide +kernel
theorem dL_sends_193 : decode cL_sends 193 = .ok (.iload 6, 2) := by decide +kernel
theorem dL_sends_195 : decode cL_sends 195 = .ok (.invokestatic 51, 3) := by decide +kernel
theorem dL_sends_198 : decode cL_sends 198 = .ok (.istore 10, 2) := by decide +kernel
theorem dL_sends_200 : decode cL_sends 200 = .ok (.aload 4, 2) := by decide +kernel
theorem dL_sends_202 : decode cL_sends 202 = .ok (.iload 5, 2) := by decide +kernel
theorem dL_sends_204 : decode cL_sends 204 = .ok (.iaload, 1) := by decide +kernel
theorem dL_sends_205 : decode cL_sends 205 = .ok (.iload 6, 2) := by decide +kernel
theorem dL_sends_207 : decode cL_sends 207 = .ok (.ishr, 1) := by decide +kernel
theorem dL_sends_208 : decode cL_sends 208 = .ok (.iconst 1, 1) := by decide +kernel
theorem dL_sends_209 : decode cL_sends 209 = .ok (.iand, 1) := by decide +kernel
theorem dL_sends_210 : decode cL_sends 210 = .ok (.iconst 1, 1) := by decide +kernel
theorem dL_sends_211 : decode cL_sends 211 = .ok (.if_icmp .ne 10, 3) := by decide +kernel
theorem dL_sends_214 : decode cL_sends 214 = .ok (.iload 7, 2) := by decide +kernel
theorem dL_sends_216 : decode cL_sends 216 = .ok (.ifCond .eq 5, 3) := by decide +kernel
theorem dL_sends_219 : decode cL_sends 219 = .ok (.iconst 0, 1) := by decide +kernel
theorem dL_sends_220 : decode cL_sends 220 = .ok (.ireturn, 1) := by decide +kernel
theorem dL_sends_221 : decode cL_sends 221 = .ok (.iload 7, 2) := by decide +kernel
theorem dL_sends_223 : decode cL_sends 223 = .ok (.ifCond .lt 18, 3) := by decide +kernel
theorem dL_sends_226 : decode cL_sends 226 = .ok (.iload 8, 2) := by decide +kernel
theorem dL_sends_228 : decode cL_sends 228 = .ok (.iload 7, 2) := by decide +kernel
theorem dL_sends_230 : decode cL_sends 230 = .ok (.if_icmp .lt 11, 3) := by decide +kernel
theorem dL_sends_233 : decode cL_sends 233 = .ok (.aload_n 2, 1) := by decide +kernel
theorem dL_sends_234 : decode cL_sends 234 = .ok (.iconst 1, 1) := by decide +kernel
theorem dL_sends_235 : decode cL_sends 235 = .ok (.iaload, 1) := by decide +kernel
theorem dL_sends_236 : decode cL_sends 236 = .ok (.bipush 60, 2) := by decide +kernel
theorem dL_sends_238 : decode cL_sends 238 = .ok (.if_icmp .ne 29, 3) := by decide +kernel
theorem dL_sends_241 : decode cL_sends 241 = .ok (.iload 10, 2) := by decide +kernel
theorem dL_sends_243 : decode cL_sends 243 = .ok (.ldc 43, 2) := by decide +kernel
theorem dL_sends_245 : decode cL_sends 245 = .ok (.if_icmp .ne 20, 3) := by decide +kernel
theorem dL_sends_248 : decode cL_sends 248 = .ok (.iload 7, 2) := by decide +kernel
theorem dL_sends_250 : decode cL_sends 250 = .ok (.ifCond .ge 11, 3) := by decide +kernel
theorem dL_sends_253 : decode cL_sends 253 = .ok (.iload 9, 2) := by decide +kernel
theorem dL_sends_255 : decode cL_sends 255 = .ok (.sipush 9999, 3) := by decide +kernel
theorem dL_sends_258 : decode cL_sends 258 = .ok (.if_icmp .ne 7, 3) := by decide +kernel
theorem dL_sends_261 : decode cL_sends 261 = .ok (.iconst 1, 1) := by decide +kernel
theorem dL_sends_262 : decode cL_sends 262 = .ok (.goto 4, 3) := by decide +kernel
theorem dL_sends_265 : decode cL_sends 265 = .ok (.iconst 0, 1) := by decide +kernel
theorem dL_sends_266 : decode cL_sends 266 = .ok (.ireturn, 1) := by decide +kernel
theorem dL_sends_267 : decode cL_sends 267 = .ok (.aload_n 2, 1) := by decide +kernel
theorem dL_sends_268 : decode cL_sends 268 = .ok (.iconst 1, 1) := by decide +kernel
theorem dL_sends_269 : decode cL_sends 269 = .ok (.dup2, 1) := by decide +kernel
theorem dL_sends_270 : decode cL_sends 270 = .ok (.iaload, 1) := by decide +kernel
theorem dL_sends_271 : decode cL_sends 271 = .ok (.iconst 1, 1) := by decide +kernel
theorem dL_sends_272 : decode cL_sends 272 = .ok (.iadd, 1) := by decide +kernel
theorem dL_sends_273 : decode cL_sends 273 = .ok (.iastore, 1) := by decide +kernel
theorem dL_sends_274 : decode cL_sends 274 = .ok (.iconst 0, 1) := by decide +kernel
theorem dL_sends_275 : decode cL_sends 275 = .ok (.istore 11, 2) := by decide +kernel
theorem dL_sends_277 : decode cL_sends 277 = .ok (.iconst 0, 1) := by decide +kernel
theorem dL_sends_278 : decode cL_sends 278 = .ok (.istore 12, 2) := by decide +kernel
theorem dL_sends_280 : decode cL_sends 280 = .ok (.iconst 1, 1) := by decide +kernel
theorem dL_sends_281 : decode cL_sends 281 = .ok (.istore 13, 2) := by decide +kernel
theorem dL_sends_283 : decode cL_sends 283 = .ok (.aload_n 0, 1) := by decide +kernel
theorem dL_sends_284 : decode cL_sends 284 = .ok (.iload 10, 2) := by decide +kernel
theorem dL_sends_286 : decode cL_sends 286 = .ok (.iload 13, 2) := by decide +kernel
theorem dL_sends_288 : decode cL_sends 288 = .ok (.invokevirtual 44, 3) := by decide +kernel
theorem dL_sends_291 : decode cL_sends 291 = .ok (.iload 6, 2) := by decide +kernel
theorem dL_sends_293 : decode cL_sends 293 = .ok (.if_icmp .eq 113, 3) := by decide +kernel
theorem dL_sends_296 : decode cL_sends 296 = .ok (.iload 13, 2) := by decide +kernel
theorem dL_sends_298 : decode cL_sends 298 = .ok (.bipush 13, 2) := by decide +kernel
theorem dL_sends_300 : decode cL_sends 300 = .ok (.if_icmp .ge 106, 3) := by decide +kernel
theorem dL_sends_303 : decode cL_sends 303 = .ok (.aload_n 0, 1) := by decide +kernel
theorem dL_sends_304 : decode cL_sends 304 = .ok (.iload 10, 2) := by decide +kernel
theorem dL_sends_306 : decode cL_sends 306 = .ok (.iload 13, 2) := by decide +kernel
theorem dL_sends_308 : decode cL_sends 308 = .ok (.invokevirtual 44, 3) := by decide +kernel
theorem dL_sends_311 : decode cL_sends 311 = .ok (.istore 14, 2) := by decide +kernel
theorem dL_sends_313 : decode cL_sends 313 = .ok (.aload_n 0, 1) := by decide +kernel
theorem dL_sends_314 : decode cL_sends 314 = .ok (.iload 14, 2) := by decide +kernel
theorem dL_sends_316 : decode cL_sends 316 = .ok (.iconst 3, 1) := by decide +kernel
theorem dL_sends_317 : decode cL_sends 317 = .ok (.invokevirtual 32, 3) := by decide +kernel
theorem dL_sends_320 : decode cL_sends 320 = .ok (.ifCond .ne 42, 3) := by decide +kernel
theorem dL_sends_323 : decode cL_sends 323 = .ok (.aload_n 0, 1) := by decide +kernel
theorem dL_sends_324 : decode cL_sends 324 = .ok (.iload 14, 2) := by decide +kernel
theorem dL_sends_326 : decode cL_sends 326 = .ok (.iconst 1, 1) := by decide +kernel
theorem dL_sends_327 : decode cL_sends 327 = .ok (.invokevirtual 32, 3) := by decide +kernel
theorem dL_sends_330 : decode cL_sends 330 = .ok (.iconst 2, 1) := by decide +kernel
theorem dL_sends_331 : decode cL_sends 331 = .ok (.aload_n 3, 1) := by decide +kernel
theorem dL_sends_332 : decode cL_sends 332 = .ok (.iconst 2, 1) := by decide +kernel
theorem dL_sends_333 : decode cL_sends 333 = .ok (.iload 14, 2) := by decide +kernel
theorem dL_sends_335 : decode cL_sends 335 = .ok (.imul, 1) := by decide +kernel
theorem dL_sends_336 : decode cL_sends 336 = .ok (.iaload, 1) := by decide +kernel
theorem dL_sends_337 : decode cL_sends 337 = .ok (.imul, 1) := by decide +kernel
theorem dL_sends_338 : decode cL_sends 338 = .ok (.if_icmp .lt 24, 3) := by decide +kernel
theorem dL_sends_341 : decode cL_sends 341 = .ok (.aload 4, 2) := by decide +kernel
theorem dL_sends_343 : decode cL_sends 343 = .ok (.iload 14, 2) := by decide +kernel
theorem dL_sends_345 : decode cL_sends 345 = .ok (.iaload, 1) := by decide +kernel
theorem dL_sends_346 : decode cL_sends 346 = .ok (.aload_n 0, 1) := by decide +kernel
theorem dL_sends_347 : decode cL_sends 347 = .ok (.iload 10, 2) := by decide +kernel
theorem dL_sends_349 : decode cL_sends 349 = .ok (.iload 13, 2) := by decide +kernel
theorem dL_sends_351 : decode cL_sends 351 = .ok (.iconst 1, 1) := by decide +kernel
theorem dL_sends_352 : decode cL_sends 352 = .ok (.isub, 1) := by decide +kernel
theorem dL_sends_353 : decode cL_sends 353 = .ok (.invokevirtual 44, 3) := by decide +kernel
theorem dL_sends_356 : decode cL_sends 356 = .ok (.ishr, 1) := by decide +kernel
theorem dL_sends_357 : decode cL_sends 357 = .ok (.iconst 1, 1) := by decide +kernel
theorem dL_sends_358 : decode cL_sends 358 = .ok (.iand, 1) := by decide +kernel
theorem dL_sends_359 : decode cL_sends 359 = .ok (.ifCond .ne 5, 3) := by decide +kernel
theorem dL_sends_362 : decode cL_sends 362 = .ok (.iconst 0, 1) := by decide +kernel
theorem dL_sends_363 : decode cL_sends 363 = .ok (.ireturn, 1) := by decide +kernel
theorem dL_sends_364 : decode cL_sends 364 = .ok (.iload 11, 2) := by decide +kernel
theorem dL_sends_366 : decode cL_sends 366 = .ok (.aload_n 3, 1) := by decide +kernel
theorem dL_sends_367 : decode cL_sends 367 = .ok (.iconst 2, 1) := by decide +kernel
theorem dL_sends_368 : decode cL_sends 368 = .ok (.iload 14, 2) := by decide +kernel
theorem dL_sends_370 : decode cL_sends 370 = .ok (.imul, 1) := by decide +kernel
theorem dL_sends_371 : decode cL_sends 371 = .ok (.iaload, 1) := by decide +kernel
theorem dL_sends_372 : decode cL_sends 372 = .ok (.iadd, 1) := by decide +kernel
theorem dL_sends_373 : decode cL_sends 373 = .ok (.istore 11, 2) := by decide +kernel
theorem dL_sends_375 : decode cL_sends 375 = .ok (.iload 12, 2) := by decide +kernel
theorem dL_sends_377 : decode cL_sends 377 = .ok (.aload_n 3, 1) := by decide +kernel
theorem dL_sends_378 : decode cL_sends 378 = .ok (.iconst 2, 1) := by decide +kernel
theorem dL_sends_379 : decode cL_sends 379 = .ok (.iload 14, 2) := by decide +kernel
theorem dL_sends_381 : decode cL_sends 381 = .ok (.imul, 1) := by decide +kernel
theorem dL_sends_382 : decode cL_sends 382 = .ok (.iaload, 1) := by decide +kernel
theorem dL_sends_383 : decode cL_sends 383 = .ok (.bipush 100, 2) := by decide +kernel
theorem dL_sends_385 : decode cL_sends 385 = .ok (.aload_n 0, 1) := by decide +kernel
theorem dL_sends_386 : decode cL_sends 386 = .ok (.iload 14, 2) := by decide +kernel
theorem dL_sends_388 : decode cL_sends 388 = .ok (.iconst 2, 1) := by decide +kernel
theorem dL_sends_389 : decode cL_sends 389 = .ok (.invokevirtual 32, 3) := by decide +kernel
theorem dL_sends_392 : decode cL_sends 392 = .ok (.isub, 1) := by decide +kernel
theorem dL_sends_393 : decode cL_sends 393 = .ok (.bipush 10, 2) := by decide +kernel
theorem dL_sends_395 : decode cL_sends 395 = .ok (.idiv, 1) := by decide +kernel
theorem dL_sends_396 : decode cL_sends 396 = .ok (.iadd, 1) := by decide +kernel
theorem dL_sends_397 : decode cL_sends 397 = .ok (.iadd, 1) := by decide +kernel
theorem dL_sends_398 : decode cL_sends 398 = .ok (.istore 12, 2) := by decide +kernel
theorem dL_sends_400 : decode cL_sends 400 = .ok (.iinc 13 1, 3) := by decide +kernel
theorem dL_sends_403 : decode cL_sends 403 = .ok (.goto (-120), 3) := by decide +kernel
theorem dL_sends_406 : decode cL_sends 406 = .ok (.iload 10, 2) := by decide +kernel
theorem dL_sends_408 : decode cL_sends 408 = .ok (.aload_n 2, 1) := by decide +kernel
theorem dL_sends_409 : decode cL_sends 409 = .ok (.iconst 1, 1) := by decide +kernel
theorem dL_sends_410 : decode cL_sends 410 = .ok (.iaload, 1) := by decide +kernel
theorem dL_sends_411 : decode cL_sends 411 = .ok (.iconst 1, 1) := by decide +kernel
theorem dL_sends_412 : decode cL_sends 412 = .ok (.isub, 1) := by decide +kernel
theorem dL_sends_413 : decode cL_sends 413 = .ok (.if_icmp .ne 104, 3) := by decide +kernel
theorem dL_sends_416 : decode cL_sends 416 = .ok (.iload 11, 2) := by decide +kernel
theorem dL_sends_418 : decode cL_sends 418 = .ok (.iload 7, 2) := by decide +kernel
theorem dL_sends_420 : decode cL_sends 420 = .ok (.if_icmp .ne 97, 3) := by decide +kernel
theorem dL_sends_423 : decode cL_sends 423 = .ok (.iload 12, 2) := by decide +kernel
theorem dL_sends_425 : decode cL_sends 425 = .ok (.iload 9, 2) := by decide +kernel
theorem dL_sends_427 : decode cL_sends 427 = .ok (.if_icmp .gt 90, 3) := by decide +kernel
theorem dL_sends_430 : decode cL_sends 430 = .ok (.aload 4, 2) := by decide +kernel
theorem dL_sends_432 : decode cL_sends 432 = .ok (.iload 6, 2) := by decide +kernel
theorem dL_sends_434 : decode cL_sends 434 = .ok (.iaload, 1) := by decide +kernel
theorem dL_sends_435 : decode cL_sends 435 = .ok (.aload_n 0, 1) := by decide +kernel
theorem dL_sends_436 : decode cL_sends 436 = .ok (.iload 10, 2) := by decide +kernel
theorem dL_sends_438 : decode cL_sends 438 = .ok (.iload 13, 2) := by decide +kernel
theorem dL_sends_440 : decode cL_sends 440 = .ok (.iconst 1, 1) := by decide +kernel
theorem dL_sends_441 : decode cL_sends 441 = .ok (.isub, 1) := by decide +kernel
theorem dL_sends_442 : decode cL_sends 442 = .ok (.invokevirtual 44, 3) := by decide +kernel
theorem dL_sends_445 : decode cL_sends 445 = .ok (.ishr, 1) := by decide +kernel
theorem dL_sends_446 : decode cL_sends 446 = .ok (.iconst 1, 1) := by decide +kernel
theorem dL_sends_447 : decode cL_sends 447 = .ok (.iand, 1) := by decide +kernel
theorem dL_sends_448 : decode cL_sends 448 = .ok (.iconst 1, 1) := by decide +kernel
theorem dL_sends_449 : decode cL_sends 449 = .ok (.if_icmp .ne 68, 3) := by decide +kernel
theorem dL_sends_452 : decode cL_sends 452 = .ok (.aload_n 0, 1) := by decide +kernel
theorem dL_sends_453 : decode cL_sends 453 = .ok (.iload 10, 2) := by decide +kernel
theorem dL_sends_455 : decode cL_sends 455 = .ok (.iconst 0, 1) := by decide +kernel
theorem dL_sends_456 : decode cL_sends 456 = .ok (.invokevirtual 44, 3) := by decide +kernel
theorem dL_sends_459 : decode cL_sends 459 = .ok (.iload 5, 2) := by decide +kernel
theorem dL_sends_461 : decode cL_sends 461 = .ok (.if_icmp .ne 56, 3) := by decide +kernel
theorem dL_sends_464 : decode cL_sends 464 = .ok (.aload_n 0, 1) := by decide +kernel
theorem dL_sends_465 : decode cL_sends 465 = .ok (.iload 10, 2) := by decide +kernel
theorem dL_sends_467 : decode cL_sends 467 = .ok (.iconst 0, 1) := by decide +kernel
theorem dL_sends_468 : decode cL_sends 468 = .ok (.invokevirtual 29, 3) := by decide +kernel
theorem dL_sends_471 : decode cL_sends 471 = .ok (.ifCond .ne 46, 3) := by decide +kernel
theorem dL_sends_474 : decode cL_sends 474 = .ok (.aload_n 0, 1) := by decide +kernel
theorem dL_sends_475 : decode cL_sends 475 = .ok (.iload 10, 2) := by decide +kernel
theorem dL_sends_477 : decode cL_sends 477 = .ok (.iconst 1, 1) := by decide +kernel
theorem dL_sends_478 : decode cL_sends 478 = .ok (.invokevirtual 29, 3) := by decide +kernel
theorem dL_sends_481 : decode cL_sends 481 = .ok (.iload 5, 2) := by decide +kernel
theorem dL_sends_483 : decode cL_sends 483 = .ok (.if_icmp .ne 34, 3) := by decide +kernel
theorem dL_sends_486 : decode cL_sends 486 = .ok (.aload_n 0, 1) := by decide +kernel
theorem dL_sends_487 : decode cL_sends 487 = .ok (.iload 10, 2) := by decide +kernel
theorem dL_sends_489 : decode cL_sends 489 = .ok (.iconst 2, 1) := by decide +kernel
theorem dL_sends_490 : decode cL_sends 490 = .ok (.invokevirtual 29, 3) := by decide +kernel
theorem dL_sends_493 : decode cL_sends 493 = .ok (.iload 7, 2) := by decide +kernel
theorem dL_sends_495 : decode cL_sends 495 = .ok (.if_icmp .ne 22, 3) := by decide +kernel
theorem dL_sends_498 : decode cL_sends 498 = .ok (.aload_n 0, 1) := by decide +kernel
theorem dL_sends_499 : decode cL_sends 499 = .ok (.iload 5, 2) := by decide +kernel
theorem dL_sends_501 : decode cL_sends 501 = .ok (.iconst 0, 1) := by decide +kernel
theorem dL_sends_502 : decode cL_sends 502 = .ok (.invokevirtual 32, 3) := by decide +kernel
theorem dL_sends_505 : decode cL_sends 505 = .ok (.iload 8, 2) := by decide +kernel
theorem dL_sends_507 : decode cL_sends 507 = .ok (.iload 7, 2) := by decide +kernel
theorem dL_sends_509 : decode cL_sends 509 = .ok (.isub, 1) := by decide +kernel
theorem dL_sends_510 : decode cL_sends 510 = .ok (.if_icmp .ne 7, 3) := by decide +kernel
theorem dL_sends_513 : decode cL_sends 513 = .ok (.iconst 1, 1) := by decide +kernel
theorem dL_sends_514 : decode cL_sends 514 = .ok (.goto 4, 3) := by decide +kernel
theorem dL_sends_517 : decode cL_sends 517 = .ok (.iconst 0, 1) := by decide +kernel
theorem dL_sends_518 : decode cL_sends 518 = .ok (.ireturn, 1) := by decide +kernel
theorem dL_ticks_0 : decode cL_ticks 0 = .ok (.bipush 60, 2) := by decide +kernel
theorem dL_ticks_2 : decode cL_ticks 2 = .ok (.newarray .int, 2) := by decide +kernel
theorem dL_ticks_4 : decode cL_ticks 4 = .ok (.astore_n 3, 1) := by decide +kernel
theorem dL_ticks_5 : decode cL_ticks 5 = .ok (.iconst 1, 1) := by decide +kernel
theorem dL_ticks_6 : decode cL_ticks 6 = .ok (.istore 4, 2) := by decide +kernel
theorem dL_ticks_8 : decode cL_ticks 8 = .ok (.iconst 0, 1) := by decide +kernel
theorem dL_ticks_9 : decode cL_ticks 9 = .ok (.istore 5, 2) := by decide +kernel
theorem dL_ticks_11 : decode cL_ticks 11 = .ok (.iload 5, 2) := by decide +kernel
theorem dL_ticks_13 : decode cL_ticks 13 = .ok (.aload_n 1, 1) := by decide +kernel
theorem dL_ticks_14 : decode cL_ticks 14 = .ok (.iconst 1, 1) := by decide +kernel
theorem dL_ticks_15 : decode cL_ticks 15 = .ok (.iaload, 1) := by decide +kernel
theorem dL_ticks_16 : decode cL_ticks 16 = .ok (.if_icmp .ge 34, 3) := by decide +kernel
theorem dL_ticks_19 : decode cL_ticks 19 = .ok (.aload_n 3, 1) := by decide +kernel
theorem dL_ticks_20 : decode cL_ticks 20 = .ok (.iload 5, 2) := by decide +kernel
theorem dL_ticks_22 : decode cL_ticks 22 = .ok (.aload_n 0, 1) := by decide +kernel
theorem dL_ticks_23 : decode cL_ticks 23 = .ok (.iload 5, 2) := by decide +kernel
theorem dL_ticks_25 : decode cL_ticks 25 = .ok (.iconst 0, 1) := by decide +kernel
theorem dL_ticks_26 : decode cL_ticks 26 = .ok (.invokevirtual 29, 3) := by decide +kernel
theorem dL_ticks_29 : decode cL_ticks 29 = .ok (.ifCond .ne 13, 3) := by decide +kernel
theorem dL_ticks_32 : decode cL_ticks 32 = .ok (.aload_n 0, 1) := by decide +kernel
theorem dL_ticks_33 : decode cL_ticks 33 = .ok (.iload 5, 2) := by decide +kernel
theorem dL_ticks_35 : decode cL_ticks 35 = .ok (.iconst 4, 1) := by decide +kernel
theorem dL_ticks_36 : decode cL_ticks 36 = .ok (.invokevirtual 29, 3) := by decide +kernel
theorem dL_ticks_39 : decode cL_ticks 39 = .ok (.goto 4, 3) := by decide +kernel
theorem dL_ticks_42 : decode cL_ticks 42 = .ok (.iconst (-1), 1) := by decide +kernel
theorem dL_ticks_43 : decode cL_ticks 43 = .ok (.iastore, 1) := by decide +kernel
theorem dL_ticks_44 : decode cL_ticks 44 = .ok (.iinc 5 1, 3) := by decide +kernel
theorem dL_ticks_47 : decode cL_ticks 47 = .ok (.goto (-36), 3) := by decide +kernel
theorem dL_ticks_50 : decode cL_ticks 50 = .ok (.aload_n 1, 1) := by decide +kernel
theorem dL_ticks_51 : decode cL_ticks 51 = .ok (.iconst 2, 1) := by decide +kernel
theorem dL_ticks_52 : decode cL_ticks 52 = .ok (.dup2, 1) := by decide +kernel
theorem dL_ticks_53 : decode cL_ticks 53 = .ok (.iaload, 1) := by decide +kernel
theorem dL_ticks_54 : decode cL_ticks 54 = .ok (.iconst 1, 1) := by decide +kernel
theorem dL_ticks_55 : decode cL_ticks 55 = .ok (.iadd, 1) := by decide +kernel
theorem dL_ticks_56 : decode cL_ticks 56 = .ok (.iastore, 1) := by decide +kernel
theorem dL_ticks_57 : decode cL_ticks 57 = .ok (.aload_n 0, 1) := by decide +kernel
theorem dL_ticks_58 : decode cL_ticks 58 = .ok (.iconst 1, 1) := by decide +kernel
theorem dL_ticks_59 : decode cL_ticks 59 = .ok (.invokevirtual 67, 3) := by decide +kernel
theorem dL_ticks_62 : decode cL_ticks 62 = .ok (.aload_n 1, 1) := by decide +kernel
theorem dL_ticks_63 : decode cL_ticks 63 = .ok (.iconst 2, 1) := by decide +kernel
theorem dL_ticks_64 : decode cL_ticks 64 = .ok (.iaload, 1) := by decide +kernel
theorem dL_ticks_65 : decode cL_ticks 65 = .ok (.if_icmp .ne 7, 3) := by decide +kernel
theorem dL_ticks_68 : decode cL_ticks 68 = .ok (.iconst 1, 1) := by decide +kernel
theorem dL_ticks_69 : decode cL_ticks 69 = .ok (.goto 4, 3) := by decide +kernel
theorem dL_ticks_72 : decode cL_ticks 72 = .ok (.iconst 0, 1) := by decide +kernel
theorem dL_ticks_73 : decode cL_ticks 73 = .ok (.istore 4, 2) := by decide +kernel
theorem dL_ticks_75 : decode cL_ticks 75 = .ok (.iconst 0, 1) := by decide +kernel
theorem dL_ticks_76 : decode cL_ticks 76 = .ok (.istore 5, 2) := by decide +kernel
theorem dL_ticks_78 : decode cL_ticks 78 = .ok (.iload 5, 2) := by decide +kernel
theorem dL_ticks_80 : decode cL_ticks 80 = .ok (.aload_n 1, 1) := by decide +kernel
theorem dL_ticks_81 : decode cL_ticks 81 = .ok (.iconst 1, 1) := by decide +kernel
theorem dL_ticks_82 : decode cL_ticks 82 = .ok (.iaload, 1) := by decide +kernel
theorem dL_ticks_83 : decode cL_ticks 83 = .ok (.if_icmp .ge 107, 3) := by decide +kernel
theorem dL_ticks_86 : decode cL_ticks 86 = .ok (.iload 4, 2) := by decide +kernel
theorem dL_ticks_88 : decode cL_ticks 88 = .ok (.ifCond .eq 102, 3) := by decide +kernel
theorem dL_ticks_91 : decode cL_ticks 91 = .ok (.aload_n 3, 1) := by decide +kernel
theorem dL_ticks_92 : decode cL_ticks 92 = .ok (.iload 5, 2) := by decide +kernel
theorem dL_ticks_94 : decode cL_ticks 94 = .ok (.iaload, 1) := by decide +kernel
theorem dL_ticks_95 : decode cL_ticks 95 = .ok (.ifCond .ge 21, 3) := by decide +kernel
theorem dL_ticks_98 : decode cL_ticks 98 = .ok (.aload_n 0, 1) := by decide +kernel
theorem dL_ticks_99 : decode cL_ticks 99 = .ok (.iload 5, 2) := by decide +kernel
theorem dL_ticks_101 : decode cL_ticks 101 = .ok (.iconst 0, 1) := by decide +kernel
theorem dL_ticks_102 : decode cL_ticks 102 = .ok (.invokevirtual 29, 3) := by decide +kernel
theorem dL_ticks_105 : decode cL_ticks 105 = .ok (.ifCond .le 7, 3) := by decide +kernel
theorem dL_ticks_108 : decode cL_ticks 108 = .ok (.iconst 1, 1) := by decide +kernel
theorem dL_ticks_109 : decode cL_ticks 109 = .ok (.goto 73, 3) := by decide +kernel
theorem dL_ticks_112 : decode cL_ticks 112 = .ok (.iconst 0, 1) := by decide +kernel
theorem dL_ticks_113 : decode cL_ticks 113 = .ok (.goto 69, 3) := by decide +kernel
theorem dL_ticks_116 : decode cL_ticks 116 = .ok (.aload_n 0, 1) := by decide +kernel
theorem dL_ticks_117 : decode cL_ticks 117 = .ok (.iload 5, 2) := by decide +kernel
theorem dL_ticks_119 : decode cL_ticks 119 = .ok (.iconst 1, 1) := by decide +kernel
theorem dL_ticks_120 : decode cL_ticks 120 = .ok (.invokevirtual 29, 3) := by decide +kernel
theorem dL_ticks_123 : decode cL_ticks 123 = .ok (.aload_n 0, 1) := by decide +kernel
theorem dL_ticks_124 : decode cL_ticks 124 = .ok (.iload 5, 2) := by decide +kernel
theorem dL_ticks_126 : decode cL_ticks 126 = .ok (.aload_n 3, 1) := by decide +kernel
theorem dL_ticks_127 : decode cL_ticks 127 = .ok (.iload 5, 2) := by decide +kernel
theorem dL_ticks_129 : decode cL_ticks 129 = .ok (.iaload, 1) := by decide +kernel
theorem dL_ticks_130 : decode cL_ticks 130 = .ok (.iconst 1, 1) := by decide +kernel
theorem dL_ticks_131 : decode cL_ticks 131 = .ok (.iadd, 1) := by decide +kernel
theorem dL_ticks_132 : decode cL_ticks 132 = .ok (.invokevirtual 44, 3) := by decide +kernel
theorem dL_ticks_135 : decode cL_ticks 135 = .ok (.if_icmp .ne 46, 3) := by decide +kernel
theorem dL_ticks_138 : decode cL_ticks 138 = .ok (.aload_n 0, 1) := by decide +kernel
theorem dL_ticks_139 : decode cL_ticks 139 = .ok (.iload 5, 2) := by decide +kernel
theorem dL_ticks_141 : decode cL_ticks 141 = .ok (.iconst 0, 1) := by decide +kernel
theorem dL_ticks_142 : decode cL_ticks 142 = .ok (.invokevirtual 29, 3) := by decide +kernel
theorem dL_ticks_145 : decode cL_ticks 145 = .ok (.ifCond .ne 7, 3) := by decide +kernel
theorem dL_ticks_148 : decode cL_ticks 148 = .ok (.iconst 1, 1) := by decide +kernel
theorem dL_ticks_149 : decode cL_ticks 149 = .ok (.goto 4, 3) := by decide +kernel
theorem dL_ticks_152 : decode cL_ticks 152 = .ok (.iconst 0, 1) := by decide +kernel
theorem dL_ticks_153 : decode cL_ticks 153 = .ok (.aload_n 0, 1) := by decide +kernel
theorem dL_ticks_154 : decode cL_ticks 154 = .ok (.iload 5, 2) := by decide +kernel
theorem dL_ticks_156 : decode cL_ticks 156 = .ok (.iconst 4, 1) := by decide +kernel
theorem dL_ticks_157 : decode cL_ticks 157 = .ok (.invokevirtual 29, 3) := by decide +kernel
theorem dL_ticks_160 : decode cL_ticks 160 = .ok (.aload_n 3, 1) := by decide +kernel
theorem dL_ticks_161 : decode cL_ticks 161 = .ok (.iload 5, 2) := by decide +kernel
theorem dL_ticks_163 : decode cL_ticks 163 = .ok (.iaload, 1) := by decide +kernel
theorem dL_ticks_164 : decode cL_ticks 164 = .ok (.iconst 1, 1) := by decide +kernel
theorem dL_ticks_165 : decode cL_ticks 165 = .ok (.iadd, 1) := by decide +kernel
theorem dL_ticks_166 : decode cL_ticks 166 = .ok (.if_icmp .ne 7, 3) := by decide +kernel
theorem dL_ticks_169 : decode cL_ticks 169 = .ok (.iconst 1, 1) := by decide +kernel
theorem dL_ticks_170 : decode cL_ticks 170 = .ok (.goto 4, 3) := by decide +kernel
theorem dL_ticks_173 : decode cL_ticks 173 = .ok (.iconst 0, 1) := by decide +kernel
theorem dL_ticks_174 : decode cL_ticks 174 = .ok (.if_icmp .ne 7, 3) := by decide +kernel
theorem dL_ticks_177 : decode cL_ticks 177 = .ok (.iconst 1, 1) := by decide +kernel
theorem dL_ticks_178 : decode cL_ticks 178 = .ok (.goto 4, 3) := by decide +kernel
theorem dL_ticks_181 : decode cL_ticks 181 = .ok (.iconst 0, 1) := by decide +kernel
theorem dL_ticks_182 : decode cL_ticks 182 = .ok (.istore 4, 2) := by decide +kernel
theorem dL_ticks_184 : decode cL_ticks 184 = .ok (.iinc 5 1, 3) := by decide +kernel
theorem dL_ticks_187 : decode cL_ticks 187 = .ok (.goto (-109), 3) := by decide +kernel
theorem dL_ticks_190 : decode cL_ticks 190 = .ok (.iconst 0, 1) := by decide +kernel
theorem dL_ticks_191 : decode cL_ticks 191 = .ok (.istore 5, 2) := by decide +kernel
theorem dL_ticks_193 : decode cL_ticks 193 = .ok (.iconst 0, 1) := by decide +kernel
theorem dL_ticks_194 : decode cL_ticks 194 = .ok (.istore 6, 2) := by decide +kernel
theorem dL_ticks_196 : decode cL_ticks 196 = .ok (.iload 6, 2) := by decide +kernel
theorem dL_ticks_198 : decode cL_ticks 198 = .ok (.aload_n 1, 1) := by decide +kernel
theorem dL_ticks_199 : decode cL_ticks 199 = .ok (.iconst 0, 1) := by decide +kernel
theorem dL_ticks_200 : decode cL_ticks 200 = .ok (.iaload, 1) := by decide +kernel
theorem dL_ticks_201 : decode cL_ticks 201 = .ok (.if_icmp .ge 94, 3) := by decide +kernel
theorem dL_ticks_204 : decode cL_ticks 204 = .ok (.iload 4, 2) := by decide +kernel
theorem dL_ticks_206 : decode cL_ticks 206 = .ok (.ifCond .eq 89, 3) := by decide +kernel
theorem dL_ticks_209 : decode cL_ticks 209 = .ok (.aload_n 2, 1) := by decide +kernel
theorem dL_ticks_210 : decode cL_ticks 210 = .ok (.iload 6, 2) := by decide +kernel
theorem dL_ticks_212 : decode cL_ticks 212 = .ok (.iaload, 1) := by decide +kernel
theorem dL_ticks_213 : decode cL_ticks 213 = .ok (.aload_n 1, 1) := by decide +kernel
theorem dL_ticks_214 : decode cL_ticks 214 = .ok (.iconst 2, 1) := by decide +kernel
theorem dL_ticks_215 : decode cL_ticks 215 = .ok (.iaload, 1) := by decide +kernel
theorem dL_ticks_216 : decode cL_ticks 216 = .ok (.if_icmp .ne 24, 3) := by decide +kernel
theorem dL_ticks_219 : decode cL_ticks 219 = .ok (.aload_n 0, 1) := by decide +kernel
theorem dL_ticks_220 : decode cL_ticks 220 = .ok (.iload 6, 2) := by decide +kernel
theorem dL_ticks_222 : decode cL_ticks 222 = .ok (.iconst 3, 1) := by decide +kernel
theorem dL_ticks_223 : decode cL_ticks 223 = .ok (.invokevirtual 32, 3) := by decide +kernel
theorem dL_ticks_226 : decode cL_ticks 226 = .ok (.iconst 2, 1) := by decide +kernel
theorem dL_ticks_227 : decode cL_ticks 227 = .ok (.if_icmp .ne 17, 3) := by decide +kernel
theorem dL_ticks_230 : decode cL_ticks 230 = .ok (.aload_n 0, 1) := by decide +kernel
theorem dL_ticks_231 : decode cL_ticks 231 = .ok (.iload 6, 2) := by decide +kernel
theorem dL_ticks_233 : decode cL_ticks 233 = .ok (.iconst 1, 1) := by decide +kernel
theorem dL_ticks_234 : decode cL_ticks 234 = .ok (.invokevirtual 32, 3) := by decide +kernel
theorem dL_ticks_237 : decode cL_ticks 237 = .ok (.ifCond .ne 7, 3) := by decide +kernel
theorem dL_ticks_240 : decode cL_ticks 240 = .ok (.iconst 1, 1) := by decide +kernel
theorem dL_ticks_241 : decode cL_ticks 241 = .ok (.goto 4, 3) := by decide +kernel
theorem dL_ticks_244 : decode cL_ticks 244 = .ok (.iconst 0, 1) := by decide +kernel
theorem dL_ticks_245 : decode cL_ticks 245 = .ok (.istore 4, 2) := by decide +kernel
theorem dL_ticks_247 : decode cL_ticks 247 = .ok (.aload_n 2, 1) := by decide +kernel
theorem dL_ticks_248 : decode cL_ticks 248 = .ok (.iload 6, 2) := by decide +kernel
theorem dL_ticks_250 : decode cL_ticks 250 = .ok (.aload_n 2, 1) := by decide +kernel
theorem dL_ticks_251 : decode cL_ticks 251 = .ok (.iload 6, 2) := by decide +kernel
theorem dL_ticks_253 : decode cL_ticks 253 = .ok (.iaload, 1) := by decide +kernel
theorem dL_ticks_254 : decode cL_ticks 254 = .ok (.aload_n 1, 1) := by decide +kernel
theorem dL_ticks_255 : decode cL_ticks 255 = .ok (.iconst 2, 1) := by decide +kernel
theorem dL_ticks_256 : decode cL_ticks 256 = .ok (.iaload, 1) := by decide +kernel
theorem dL_ticks_257 : decode cL_ticks 257 = .ok (.if_icmp .ne 7, 3) := by decide +kernel
theorem dL_ticks_260 : decode cL_ticks 260 = .ok (.iconst 0, 1) := by decide +kernel
theorem dL_ticks_261 : decode cL_ticks 261 = .ok (.goto 7, 3) := by decide +kernel
theorem dL_ticks_264 : decode cL_ticks 264 = .ok (.aload_n 2, 1) := by decide +kernel
theorem dL_ticks_265 : decode cL_ticks 265 = .ok (.iload 6, 2) := by decide +kernel
theorem dL_ticks_267 : decode cL_ticks 267 = .ok (.iaload, 1) := by decide +kernel
theorem dL_ticks_268 : decode cL_ticks 268 = .ok (.iastore, 1) := by decide +kernel
theorem dL_ticks_269 : decode cL_ticks 269 = .ok (.iload 5, 2) := by decide +kernel
theorem dL_ticks_271 : decode cL_ticks 271 = .ok (.aload_n 0, 1) := by decide +kernel
theorem dL_ticks_272 : decode cL_ticks 272 = .ok (.iload 6, 2) := by decide +kernel
theorem dL_ticks_274 : decode cL_ticks 274 = .ok (.iconst 3, 1) := by decide +kernel
theorem dL_ticks_275 : decode cL_ticks 275 = .ok (.invokevirtual 32, 3) := by decide +kernel
theorem dL_ticks_278 : decode cL_ticks 278 = .ok (.ifCond .ne 7, 3) := by decide +kernel
theorem dL_ticks_281 : decode cL_ticks 281 = .ok (.iconst 1, 1) := by decide +kernel
theorem dL_ticks_282 : decode cL_ticks 282 = .ok (.goto 4, 3) := by decide +kernel
theorem dL_ticks_285 : decode cL_ticks 285 = .ok (.iconst 0, 1) := by decide +kernel
theorem dL_ticks_286 : decode cL_ticks 286 = .ok (.iadd, 1) := by decide +kernel
theorem dL_ticks_287 : decode cL_ticks 287 = .ok (.istore 5, 2) := by decide +kernel
theorem dL_ticks_289 : decode cL_ticks 289 = .ok (.iinc 6 1, 3) := by decide +kernel
theorem dL_ticks_292 : decode cL_ticks 292 = .ok (.goto (-96), 3) := by decide +kernel
theorem dL_ticks_295 : decode cL_ticks 295 = .ok (.iload 5, 2) := by decide +kernel
theorem dL_ticks_297 : decode cL_ticks 297 = .ok (.ifCond .ne 7, 3) := by decide +kernel
theorem dL_ticks_300 : decode cL_ticks 300 = .ok (.iconst (-1), 1) := by decide +kernel
theorem dL_ticks_301 : decode cL_ticks 301 = .ok (.goto 9, 3) := by decide +kernel
theorem dL_ticks_304 : decode cL_ticks 304 = .ok (.aload_n 1, 1) := by decide +kernel
theorem dL_ticks_305 : decode cL_ticks 305 = .ok (.iconst 2, 1) := by decide +kernel
theorem dL_ticks_306 : decode cL_ticks 306 = .ok (.iaload, 1) := by decide +kernel
theorem dL_ticks_307 : decode cL_ticks 307 = .ok (.iload 5, 2) := by decide +kernel
theorem dL_ticks_309 : decode cL_ticks 309 = .ok (.irem, 1) := by decide +kernel
theorem dL_ticks_310 : decode cL_ticks 310 = .ok (.istore 6, 2) := by decide +kernel
theorem dL_ticks_312 : decode cL_ticks 312 = .ok (.iconst (-1), 1) := by decide +kernel
theorem dL_ticks_313 : decode cL_ticks 313 = .ok (.istore 7, 2) := by decide +kernel
theorem dL_ticks_315 : decode cL_ticks 315 = .ok (.iconst 0, 1) := by decide +kernel
theorem dL_ticks_316 : decode cL_ticks 316 = .ok (.istore 8, 2) := by decide +kernel
theorem dL_ticks_318 : decode cL_ticks 318 = .ok (.iload 8, 2) := by decide +kernel
theorem dL_ticks_320 : decode cL_ticks 320 = .ok (.aload_n 1, 1) := by decide +kernel
theorem dL_ticks_321 : decode cL_ticks 321 = .ok (.iconst 0, 1) := by decide +kernel
theorem dL_ticks_322 : decode cL_ticks 322 = .ok (.iaload, 1) := by decide +kernel
theorem dL_ticks_323 : decode cL_ticks 323 = .ok (.if_icmp .ge 36, 3) := by decide +kernel
theorem dL_ticks_326 : decode cL_ticks 326 = .ok (.aload_n 0, 1) := by decide +kernel
theorem dL_ticks_327 : decode cL_ticks 327 = .ok (.iload 8, 2) := by decide +kernel
theorem dL_ticks_329 : decode cL_ticks 329 = .ok (.iconst 3, 1) := by decide +kernel
theorem dL_ticks_330 : decode cL_ticks 330 = .ok (.invokevirtual 32, 3) := by decide +kernel
theorem dL_ticks_333 : decode cL_ticks 333 = .ok (.ifCond .ne 20, 3) := by decide +kernel
theorem dL_ticks_336 : decode cL_ticks 336 = .ok (.iload 6, 2) := by decide +kernel
theorem dL_ticks_338 : decode cL_ticks 338 = .ok (.ifCond .ne 8, 3) := by decide +kernel
theorem dL_ticks_341 : decode cL_ticks 341 = .ok (.iload 8, 2) := by decide +kernel
theorem dL_ticks_343 : decode cL_ticks 343 = .ok (.goto 5, 3) := by decide +kernel
theorem dL_ticks_346 : decode cL_ticks 346 = .ok (.iload 7, 2) := by decide +kernel
theorem dL_ticks_348 : decode cL_ticks 348 = .ok (.istore 7, 2) := by decide +kernel
theorem dL_ticks_350 : decode cL_ticks 350 = .ok (.iinc 6 (-1), 3) := by decide +kernel
theorem dL_ticks_353 : decode cL_ticks 353 = .ok (.iinc 8 1, 3) := by decide +kernel
theorem dL_ticks_356 : decode cL_ticks 356 = .ok (.goto (-38), 3) := by decide +kernel
theorem dL_ticks_359 : decode cL_ticks 359 = .ok (.iload 4, 2) := by decide +kernel
theorem dL_ticks_361 : decode cL_ticks 361 = .ok (.ifCond .eq 16, 3) := by decide +kernel
theorem dL_ticks_364 : decode cL_ticks 364 = .ok (.aload_n 0, 1) := by decide +kernel
theorem dL_ticks_365 : decode cL_ticks 365 = .ok (.invokevirtual 70, 3) := by decide +kernel
theorem dL_ticks_368 : decode cL_ticks 368 = .ok (.iload 7, 2) := by decide +kernel
theorem dL_ticks_370 : decode cL_ticks 370 = .ok (.if_icmp .ne 7, 3) := by decide +kernel
theorem dL_ticks_373 : decode cL_ticks 373 = .ok (.iconst 1, 1) := by decide +kernel
theorem dL_ticks_374 : decode cL_ticks 374 = .ok (.goto 4, 3) := by decide +kernel
theorem dL_ticks_377 : decode cL_ticks 377 = .ok (.iconst 0, 1) := by decide +kernel
theorem dL_ticks_378 : decode cL_ticks 378 = .ok (.ireturn, 1) := by decide +kernel
theorem dL_proves_0 : decode cL_proves 0 = .ok (.iload_n 1, 1) := by decide +kernel
theorem dL_proves_1 : decode cL_proves 1 = .ok (.aload_n 2, 1) := by decide +kernel
theorem dL_proves_2 : decode cL_proves 2 = .ok (.iconst 0, 1) := by decide +kernel
theorem dL_proves_3 : decode cL_proves 3 = .ok (.iaload, 1) := by decide +kernel
theorem dL_proves_4 : decode cL_proves 4 = .ok (.irem, 1) := by decide +kernel
theorem dL_proves_5 : decode cL_proves 5 = .ok (.istore_n 3, 1) := by decide +kernel
theorem dL_proves_6 : decode cL_proves 6 = .ok (.aload_n 2, 1) := by decide +kernel
theorem dL_proves_7 : decode cL_proves 7 = .ok (.iconst 2, 1) := by decide +kernel
theorem dL_proves_8 : decode cL_proves 8 = .ok (.iaload, 1) := by decide +kernel
theorem dL_proves_9 : decode cL_proves 9 = .ok (.bipush 13, 2) := by decide +kernel
theorem dL_proves_11 : decode cL_proves 11 = .ok (.if_icmp .ge 16, 3) := by decide +kernel
theorem dL_proves_14 : decode cL_proves 14 = .ok (.iload_n 1, 1) := by decide +kernel
theorem dL_proves_15 : decode cL_proves 15 = .ok (.bipush 12, 2) := by decide +kernel
theorem dL_proves_17 : decode cL_proves 17 = .ok (.idiv, 1) := by decide +kernel
theorem dL_proves_18 : decode cL_proves 18 = .ok (.aload_n 2, 1) := by decide +kernel
theorem dL_proves_19 : decode cL_proves 19 = .ok (.iconst 2, 1) := by decide +kernel
theorem dL_proves_20 : decode cL_proves 20 = .ok (.iaload, 1) := by decide +kernel
theorem dL_proves_21 : decode cL_proves 21 = .ok (.iconst 1, 1) := by decide +kernel
theorem dL_proves_22 : decode cL_proves 22 = .ok (.iadd, 1) := by decide +kernel
theorem dL_proves_23 : decode cL_proves 23 = .ok (.irem, 1) := by decide +kernel
theorem dL_proves_24 : decode cL_proves 24 = .ok (.goto 14, 3) := by decide +kernel
theorem dL_proves_27 : decode cL_proves 27 = .ok (.aload_n 2, 1) := by decide +kernel
theorem dL_proves_28 : decode cL_proves 28 = .ok (.iconst 2, 1) := by decide +kernel
theorem dL_proves_29 : decode cL_proves 29 = .ok (.iaload, 1) := by decide +kernel
theorem dL_proves_30 : decode cL_proves 30 = .ok (.iload_n 1, 1) := by decide +kernel
theorem dL_proves_31 : decode cL_proves 31 = .ok (.bipush 12, 2) := by decide +kernel
theorem dL_proves_33 : decode cL_proves 33 = .ok (.idiv, 1) := by decide +kernel
theorem dL_proves_34 : decode cL_proves 34 = .ok (.bipush 13, 2) := by decide +kernel
theorem dL_proves_36 : decode cL_proves 36 = .ok (.irem, 1) := by decide +kernel
theorem dL_proves_37 : decode cL_proves 37 = .ok (.isub, 1) := by decide +kernel
theorem dL_proves_38 : decode cL_proves 38 = .ok (.istore 4, 2) := by decide +kernel
theorem dL_proves_40 : decode cL_proves 40 = .ok (.aload_n 0, 1) := by decide +kernel
theorem dL_proves_41 : decode cL_proves 41 = .ok (.iload_n 3, 1) := by decide +kernel
theorem dL_proves_42 : decode cL_proves 42 = .ok (.iconst 0, 1) := by decide +kernel
theorem dL_proves_43 : decode cL_proves 43 = .ok (.invokevirtual 32, 3) := by decide +kernel
theorem dL_proves_46 : decode cL_proves 46 = .ok (.istore 5, 2) := by decide +kernel
theorem dL_proves_48 : decode cL_proves 48 = .ok (.aload_n 0, 1) := by decide +kernel
theorem dL_proves_49 : decode cL_proves 49 = .ok (.iload_n 3, 1) := by decide +kernel
theorem dL_proves_50 : decode cL_proves 50 = .ok (.iconst 2, 1) := by decide +kernel
theorem dL_proves_51 : decode cL_proves 51 = .ok (.invokevirtual 32, 3) := by decide +kernel
theorem dL_proves_54 : decode cL_proves 54 = .ok (.istore 6, 2) := by decide +kernel
theorem dL_proves_56 : decode cL_proves 56 = .ok (.aload_n 0, 1) := by decide +kernel
theorem dL_proves_57 : decode cL_proves 57 = .ok (.invokevirtual 47, 3) := by decide +kernel
theorem dL_proves_60 : decode cL_proves 60 = .ok (.istore 7, 2) := by decide +kernel
theorem dL_proves_62 : decode cL_proves 62 = .ok (.iconst 0, 1) := by decide +kernel
theorem dL_proves_63 : decode cL_proves 63 = .ok (.istore 8, 2) := by decide +kernel
theorem dL_proves_65 : decode cL_proves 65 = .ok (.aload_n 0, 1) := by decide +kernel
theorem dL_proves_66 : decode cL_proves 66 = .ok (.iconst 4, 1) := by decide +kernel
theorem dL_proves_67 : decode cL_proves 67 = .ok (.iload_n 3, 1) := by decide +kernel
theorem dL_proves_68 : decode cL_proves 68 = .ok (.iload 4, 2) := by decide +kernel
theorem dL_proves_70 : decode cL_proves 70 = .ok (.invokestatic 51, 3) := by decide +kernel
theorem dL_proves_73 : decode cL_proves 73 = .ok (.istore 9, 2) := by decide +kernel
theorem dL_proves_75 : decode cL_proves 75 = .ok (.iconst 0, 1) := by decide +kernel
theorem dL_proves_76 : decode cL_proves 76 = .ok (.istore 10, 2) := by decide +kernel
theorem dL_proves_78 : decode cL_proves 78 = .ok (.iload 10, 2) := by decide +kernel
theorem dL_proves_80 : decode cL_proves 80 = .ok (.aload_n 2, 1) := by decide +kernel
theorem dL_proves_81 : decode cL_proves 81 = .ok (.iconst 0, 1) := by decide +kernel
theorem dL_proves_82 : decode cL_proves 82 = .ok (.iaload, 1) := by decide +kernel
theorem dL_proves_83 : decode cL_proves 83 = .ok (.if_icmp .ge 21, 3) := by decide +kernel
theorem dL_proves_86 : decode cL_proves 86 = .ok (.iload 8, 2) := by decide +kernel
theorem dL_proves_88 : decode cL_proves 88 = .ok (.aload_n 0, 1) := by decide +kernel
theorem dL_proves_89 : decode cL_proves 89 = .ok (.iload 10, 2) := by decide +kernel
theorem dL_proves_91 : decode cL_proves 91 = .ok (.iconst 2, 1) := by decide +kernel
theorem dL_proves_92 : decode cL_proves 92 = .ok (.invokevirtual 32, 3) := by decide +kernel
theorem dL_proves_95 : decode cL_proves 95 = .ok (.iadd, 1) := by decide +kernel
theorem dL_proves_96 : decode cL_proves 96 = .ok (.istore 8, 2) := by decide +kernel
theorem dL_proves_98 : decode cL_proves 98 = .ok (.iinc 10 1, 3) := by decide +kernel
theorem dL_proves_101 : decode cL_proves 101 = .ok (.goto (-23), 3) := by decide +kernel
theorem dL_proves_104 : decode cL_proves 104 = .ok (.iload 9, 2) := by decide +kernel
theorem dL_proves_106 : decode cL_proves 106 = .ok (.ldc 43, 2) := by decide +kernel
theorem dL_proves_108 : decode cL_proves 108 = .ok (.if_icmp .ne 29, 3) := by decide +kernel
theorem dL_proves_111 : decode cL_proves 111 = .ok (.aload_n 0, 1) := by decide +kernel
theorem dL_proves_112 : decode cL_proves 112 = .ok (.iload_n 3, 1) := by decide +kernel
theorem dL_proves_113 : decode cL_proves 113 = .ok (.iconst 0, 1) := by decide +kernel
theorem dL_proves_114 : decode cL_proves 114 = .ok (.invokevirtual 32, 3) := by decide +kernel
theorem dL_proves_117 : decode cL_proves 117 = .ok (.iload 5, 2) := by decide +kernel
theorem dL_proves_119 : decode cL_proves 119 = .ok (.if_icmp .ne 16, 3) := by decide +kernel
theorem dL_proves_122 : decode cL_proves 122 = .ok (.aload_n 0, 1) := by decide +kernel
theorem dL_proves_123 : decode cL_proves 123 = .ok (.invokevirtual 47, 3) := by decide +kernel
theorem dL_proves_126 : decode cL_proves 126 = .ok (.iload 7, 2) := by decide +kernel
theorem dL_proves_128 : decode cL_proves 128 = .ok (.if_icmp .ne 7, 3) := by decide +kernel
theorem dL_proves_131 : decode cL_proves 131 = .ok (.iconst 1, 1) := by decide +kernel
theorem dL_proves_132 : decode cL_proves 132 = .ok (.goto 4, 3) := by decide +kernel
theorem dL_proves_135 : decode cL_proves 135 = .ok (.iconst 0, 1) := by decide +kernel
theorem dL_proves_136 : decode cL_proves 136 = .ok (.ireturn, 1) := by decide +kernel
theorem dL_proves_137 : decode cL_proves 137 = .ok (.iload 4, 2) := by decide +kernel
theorem dL_proves_139 : decode cL_proves 139 = .ok (.aload_n 2, 1) := by decide +kernel
theorem dL_proves_140 : decode cL_proves 140 = .ok (.iconst 2, 1) := by decide +kernel
theorem dL_proves_141 : decode cL_proves 141 = .ok (.iaload, 1) := by decide +kernel
theorem dL_proves_142 : decode cL_proves 142 = .ok (.if_icmp .ge 82, 3) := by decide +kernel
theorem dL_proves_145 : decode cL_proves 145 = .ok (.iload 4, 2) := by decide +kernel
theorem dL_proves_147 : decode cL_proves 147 = .ok (.aload_n 2, 1) := by decide +kernel
theorem dL_proves_148 : decode cL_proves 148 = .ok (.iconst 2, 1) := by decide +kernel
theorem dL_proves_149 : decode cL_proves 149 = .ok (.iaload, 1) := by decide +kernel
theorem dL_proves_150 : decode cL_proves 150 = .ok (.bipush 10, 2) := by decide +kernel
theorem dL_proves_152 : decode cL_proves 152 = .ok (.isub, 1) := by decide +kernel
theorem dL_proves_153 : decode cL_proves 153 = .ok (.if_icmp .lt 71, 3) := by decide +kernel
theorem dL_proves_156 : decode cL_proves 156 = .ok (.iload 9, 2) := by decide +kernel
theorem dL_proves_158 : decode cL_proves 158 = .ok (.ifCond .lt 66, 3) := by decide +kernel
theorem dL_proves_161 : decode cL_proves 161 = .ok (.iload 9, 2) := by decide +kernel
theorem dL_proves_163 : decode cL_proves 163 = .ok (.bipush 10, 2) := by decide +kernel
theorem dL_proves_165 : decode cL_proves 165 = .ok (.if_icmp .gt 59, 3) := by decide +kernel
theorem dL_proves_168 : decode cL_proves 168 = .ok (.aload_n 0, 1) := by decide +kernel
theorem dL_proves_169 : decode cL_proves 169 = .ok (.iload_n 3, 1) := by decide +kernel
theorem dL_proves_170 : decode cL_proves 170 = .ok (.iconst 0, 1) := by decide +kernel
theorem dL_proves_171 : decode cL_proves 171 = .ok (.invokevirtual 32, 3) := by decide +kernel
theorem dL_proves_174 : decode cL_proves 174 = .ok (.iload 5, 2) := by decide +kernel
theorem dL_proves_176 : decode cL_proves 176 = .ok (.iload 9, 2) := by decide +kernel
theorem dL_proves_178 : decode cL_proves 178 = .ok (.iadd, 1) := by decide +kernel
theorem dL_proves_179 : decode cL_proves 179 = .ok (.if_icmp .ne 45, 3) := by decide +kernel
theorem dL_proves_182 : decode cL_proves 182 = .ok (.aload_n 0, 1) := by decide +kernel
theorem dL_proves_183 : decode cL_proves 183 = .ok (.iload_n 3, 1) := by decide +kernel
theorem dL_proves_184 : decode cL_proves 184 = .ok (.iconst 2, 1) := by decide +kernel
theorem dL_proves_185 : decode cL_proves 185 = .ok (.invokevirtual 32, 3) := by decide +kernel
theorem dL_proves_188 : decode cL_proves 188 = .ok (.iload 6, 2) := by decide +kernel
theorem dL_proves_190 : decode cL_proves 190 = .ok (.if_icmp .ne 34, 3) := by decide +kernel
theorem dL_proves_193 : decode cL_proves 193 = .ok (.aload_n 0, 1) := by decide +kernel
theorem dL_proves_194 : decode cL_proves 194 = .ok (.invokevirtual 47, 3) := by decide +kernel
theorem dL_proves_197 : decode cL_proves 197 = .ok (.iload 7, 2) := by decide +kernel
theorem dL_proves_199 : decode cL_proves 199 = .ok (.if_icmp .ne 25, 3) := by decide +kernel
theorem dL_proves_202 : decode cL_proves 202 = .ok (.iload 8, 2) := by decide +kernel
theorem dL_proves_204 : decode cL_proves 204 = .ok (.ifCond .lt 20, 3) := by decide +kernel
theorem dL_proves_207 : decode cL_proves 207 = .ok (.aload_n 0, 1) := by decide +kernel
theorem dL_proves_208 : decode cL_proves 208 = .ok (.iconst 4, 1) := by decide +kernel
theorem dL_proves_209 : decode cL_proves 209 = .ok (.iload_n 3, 1) := by decide +kernel
theorem dL_proves_210 : decode cL_proves 210 = .ok (.iload 4, 2) := by decide +kernel
theorem dL_proves_212 : decode cL_proves 212 = .ok (.invokestatic 51, 3) := by decide +kernel
theorem dL_proves_215 : decode cL_proves 215 = .ok (.ldc 43, 2) := by decide +kernel
theorem dL_proves_217 : decode cL_proves 217 = .ok (.if_icmp .ne 7, 3) := by decide +kernel
theorem dL_proves_220 : decode cL_proves 220 = .ok (.iconst 1, 1) := by decide +kernel
theorem dL_proves_221 : decode cL_proves 221 = .ok (.goto 4, 3) := by decide +kernel
theorem dL_proves_224 : decode cL_proves 224 = .ok (.iconst 0, 1) := by decide +kernel
theorem dL_proves_225 : decode cL_proves 225 = .ok (.ireturn, 1) := by decide +kernel
theorem dL_nodes_0 : decode cL_nodes 0 = .ok (.iload_n 1, 1) := by decide +kernel
theorem dL_nodes_1 : decode cL_nodes 1 = .ok (.aload_n 3, 1) := by decide +kernel
theorem dL_nodes_2 : decode cL_nodes 2 = .ok (.iconst 0, 1) := by decide +kernel
theorem dL_nodes_3 : decode cL_nodes 3 = .ok (.iaload, 1) := by decide +kernel
theorem dL_nodes_4 : decode cL_nodes 4 = .ok (.irem, 1) := by decide +kernel
theorem dL_nodes_5 : decode cL_nodes 5 = .ok (.istore 7, 2) := by decide +kernel
theorem dL_nodes_7 : decode cL_nodes 7 = .ok (.aload_n 0, 1) := by decide +kernel
theorem dL_nodes_8 : decode cL_nodes 8 = .ok (.iload 7, 2) := by decide +kernel
theorem dL_nodes_10 : decode cL_nodes 10 = .ok (.iconst 3, 1) := by decide +kernel
theorem dL_nodes_11 : decode cL_nodes 11 = .ok (.invokevirtual 32, 3) := by decide +kernel
theorem dL_nodes_14 : decode cL_nodes 14 = .ok (.istore 8, 2) := by decide +kernel
theorem dL_nodes_16 : decode cL_nodes 16 = .ok (.aload_n 0, 1) := by decide +kernel
theorem dL_nodes_17 : decode cL_nodes 17 = .ok (.iload 7, 2) := by decide +kernel
theorem dL_nodes_19 : decode cL_nodes 19 = .ok (.iconst 0, 1) := by decide +kernel
theorem dL_nodes_20 : decode cL_nodes 20 = .ok (.invokevirtual 32, 3) := by decide +kernel
theorem dL_nodes_23 : decode cL_nodes 23 = .ok (.istore 9, 2) := by decide +kernel
theorem dL_nodes_25 : decode cL_nodes 25 = .ok (.aload_n 0, 1) := by decide +kernel
theorem dL_nodes_26 : decode cL_nodes 26 = .ok (.iload 7, 2) := by decide +kernel
theorem dL_nodes_28 : decode cL_nodes 28 = .ok (.iconst 1, 1) := by decide +kernel
theorem dL_nodes_29 : decode cL_nodes 29 = .ok (.invokevirtual 32, 3) := by decide +kernel
theorem dL_nodes_32 : decode cL_nodes 32 = .ok (.istore 10, 2) := by decide +kernel
theorem dL_nodes_34 : decode cL_nodes 34 = .ok (.iload_n 1, 1) := by decide +kernel
theorem dL_nodes_35 : decode cL_nodes 35 = .ok (.bipush 12, 2) := by decide +kernel
theorem dL_nodes_37 : decode cL_nodes 37 = .ok (.idiv, 1) := by decide +kernel
theorem dL_nodes_38 : decode cL_nodes 38 = .ok (.bipush 6, 2) := by decide +kernel
theorem dL_nodes_40 : decode cL_nodes 40 = .ok (.irem, 1) := by decide +kernel
theorem dL_nodes_41 : decode cL_nodes 41 = .ok (.istore 11, 2) := by decide +kernel
theorem dL_nodes_43 : decode cL_nodes 43 = .ok (.iload 11, 2) := by decide +kernel
theorem dL_nodes_45 : decode cL_nodes 45 = .ok (.ifCond .ne 63, 3) := by decide +kernel
theorem dL_nodes_48 : decode cL_nodes 48 = .ok (.aload_n 0, 1) := by decide +kernel
theorem dL_nodes_49 : decode cL_nodes 49 = .ok (.iconst 2, 1) := by decide +kernel
theorem dL_nodes_50 : decode cL_nodes 50 = .ok (.iload 7, 2) := by decide +kernel
theorem dL_nodes_52 : decode cL_nodes 52 = .ok (.iconst 0, 1) := by decide +kernel
theorem dL_nodes_53 : decode cL_nodes 53 = .ok (.invokestatic 51, 3) := by decide +kernel
theorem dL_nodes_56 : decode cL_nodes 56 = .ok (.istore 12, 2) := by decide +kernel
theorem dL_nodes_58 : decode cL_nodes 58 = .ok (.aload 6, 2) := by decide +kernel
theorem dL_nodes_60 : decode cL_nodes 60 = .ok (.iload 7, 2) := by decide +kernel
theorem dL_nodes_62 : decode cL_nodes 62 = .ok (.iload 8, 2) := by decide +kernel
theorem dL_nodes_64 : decode cL_nodes 64 = .ok (.ifCond .ne 12, 3) := by decide +kernel
theorem dL_nodes_67 : decode cL_nodes 67 = .ok (.aload_n 3, 1) := by decide +kernel
theorem dL_nodes_68 : decode cL_nodes 68 = .ok (.iconst 2, 1) := by decide +kernel
theorem dL_nodes_69 : decode cL_nodes 69 = .ok (.iaload, 1) := by decide +kernel
theorem dL_nodes_70 : decode cL_nodes 70 = .ok (.bipush 15, 2) := by decide +kernel
theorem dL_nodes_72 : decode cL_nodes 72 = .ok (.iadd, 1) := by decide +kernel
theorem dL_nodes_73 : decode cL_nodes 73 = .ok (.goto 8, 3) := by decide +kernel
theorem dL_nodes_76 : decode cL_nodes 76 = .ok (.aload 6, 2) := by decide +kernel
theorem dL_nodes_78 : decode cL_nodes 78 = .ok (.iload 7, 2) := by decide +kernel
theorem dL_nodes_80 : decode cL_nodes 80 = .ok (.iaload, 1) := by decide +kernel
theorem dL_nodes_81 : decode cL_nodes 81 = .ok (.iastore, 1) := by decide +kernel
theorem dL_nodes_82 : decode cL_nodes 82 = .ok (.iload 12, 2) := by decide +kernel
theorem dL_nodes_84 : decode cL_nodes 84 = .ok (.iload 8, 2) := by decide +kernel
theorem dL_nodes_86 : decode cL_nodes 86 = .ok (.ifCond .ne 11, 3) := by decide +kernel
theorem dL_nodes_89 : decode cL_nodes 89 = .ok (.aload 6, 2) := by decide +kernel
theorem dL_nodes_91 : decode cL_nodes 91 = .ok (.iload 7, 2) := by decide +kernel
theorem dL_nodes_93 : decode cL_nodes 93 = .ok (.iaload, 1) := by decide +kernel
theorem dL_nodes_94 : decode cL_nodes 94 = .ok (.goto 5, 3) := by decide +kernel
theorem dL_nodes_97 : decode cL_nodes 97 = .ok (.ldc 43, 2) := by decide +kernel
theorem dL_nodes_99 : decode cL_nodes 99 = .ok (.if_icmp .ne 7, 3) := by decide +kernel
theorem dL_nodes_102 : decode cL_nodes 102 = .ok (.iconst 1, 1) := by decide +kernel
theorem dL_nodes_103 : decode cL_nodes 103 = .ok (.goto 4, 3) := by decide +kernel
theorem dL_nodes_106 : decode cL_nodes 106 = .ok (.iconst 0, 1) := by decide +kernel
theorem dL_nodes_107 : decode cL_nodes 107 = .ok (.ireturn, 1) := by decide +kernel
theorem dL_nodes_108 : decode cL_nodes 108 = .ok (.iload 11, 2) := by decide +kernel
theorem dL_nodes_110 : decode cL_nodes 110 = .ok (.iconst 1, 1) := by decide +kernel
theorem dL_nodes_111 : decode cL_nodes 111 = .ok (.if_icmp .ne 116, 3) := by decide +kernel
theorem dL_nodes_114 : decode cL_nodes 114 = .ok (.iload_n 2, 1) := by decide +kernel
theorem dL_nodes_115 : decode cL_nodes 115 = .ok (.bipush 40, 2) := by decide +kernel
theorem dL_nodes_117 : decode cL_nodes 117 = .ok (.irem, 1) := by decide +kernel
theorem dL_nodes_118 : decode cL_nodes 118 = .ok (.istore 12, 2) := by decide +kernel
theorem dL_nodes_120 : decode cL_nodes 120 = .ok (.aload_n 0, 1) := by decide +kernel
theorem dL_nodes_121 : decode cL_nodes 121 = .ok (.iconst 3, 1) := by decide +kernel
theorem dL_nodes_122 : decode cL_nodes 122 = .ok (.iload 7, 2) := by decide +kernel
theorem dL_nodes_124 : decode cL_nodes 124 = .ok (.iload 12, 2) := by decide +kernel
theorem dL_nodes_126 : decode cL_nodes 126 = .ok (.invokestatic 51, 3) := by decide +kernel
theorem dL_nodes_129 : decode cL_nodes 129 = .ok (.istore 13, 2) := by decide +kernel
theorem dL_nodes_131 : decode cL_nodes 131 = .ok (.iload 8, 2) := by decide +kernel
theorem dL_nodes_133 : decode cL_nodes 133 = .ok (.ifCond .le 25, 3) := by decide +kernel
theorem dL_nodes_136 : decode cL_nodes 136 = .ok (.iload 9, 2) := by decide +kernel
theorem dL_nodes_138 : decode cL_nodes 138 = .ok (.iload 12, 2) := by decide +kernel
theorem dL_nodes_140 : decode cL_nodes 140 = .ok (.if_icmp .lt 18, 3) := by decide +kernel
theorem dL_nodes_143 : decode cL_nodes 143 = .ok (.iload 8, 2) := by decide +kernel
theorem dL_nodes_145 : decode cL_nodes 145 = .ok (.iconst 1, 1) := by decide +kernel
theorem dL_nodes_146 : decode cL_nodes 146 = .ok (.if_icmp .eq 8, 3) := by decide +kernel
theorem dL_nodes_149 : decode cL_nodes 149 = .ok (.iload 12, 2) := by decide +kernel
theorem dL_nodes_151 : decode cL_nodes 151 = .ok (.ifCond .le 7, 3) := by decide +kernel
theorem dL_nodes_154 : decode cL_nodes 154 = .ok (.iconst 1, 1) := by decide +kernel
theorem dL_nodes_155 : decode cL_nodes 155 = .ok (.goto 4, 3) := by decide +kernel
theorem dL_nodes_158 : decode cL_nodes 158 = .ok (.iconst 0, 1) := by decide +kernel
theorem dL_nodes_159 : decode cL_nodes 159 = .ok (.istore 14, 2) := by decide +kernel
theorem dL_nodes_161 : decode cL_nodes 161 = .ok (.aload 6, 2) := by decide +kernel
theorem dL_nodes_163 : decode cL_nodes 163 = .ok (.iload 7, 2) := by decide +kernel
theorem dL_nodes_165 : decode cL_nodes 165 = .ok (.iload 14, 2) := by decide +kernel
theorem dL_nodes_167 : decode cL_nodes 167 = .ok (.ifCond .eq 7, 3) := by decide +kernel
theorem dL_nodes_170 : decode cL_nodes 170 = .ok (.iconst 0, 1) := by decide +kernel
theorem dL_nodes_171 : decode cL_nodes 171 = .ok (.goto 8, 3) := by decide +kernel
theorem dL_nodes_174 : decode cL_nodes 174 = .ok (.aload 6, 2) := by decide +kernel
theorem dL_nodes_176 : decode cL_nodes 176 = .ok (.iload 7, 2) := by decide +kernel
theorem dL_nodes_178 : decode cL_nodes 178 = .ok (.iaload, 1) := by decide +kernel
theorem dL_nodes_179 : decode cL_nodes 179 = .ok (.iastore, 1) := by decide +kernel
theorem dL_nodes_180 : decode cL_nodes 180 = .ok (.iload 13, 2) := by decide +kernel
theorem dL_nodes_182 : decode cL_nodes 182 = .ok (.iload 14, 2) := by decide +kernel
theorem dL_nodes_184 : decode cL_nodes 184 = .ok (.ifCond .eq 11, 3) := by decide +kernel
theorem dL_nodes_187 : decode cL_nodes 187 = .ok (.iload 10, 2) := by decide +kernel
theorem dL_nodes_189 : decode cL_nodes 189 = .ok (.iload 12, 2) := by decide +kernel
theorem dL_nodes_191 : decode cL_nodes 191 = .ok (.iadd, 1) := by decide +kernel
theorem dL_nodes_192 : decode cL_nodes 192 = .ok (.goto 5, 3) := by decide +kernel
theorem dL_nodes_195 : decode cL_nodes 195 = .ok (.ldc 43, 2) := by decide +kernel
theorem dL_nodes_197 : decode cL_nodes 197 = .ok (.if_icmp .ne 28, 3) := by decide +kernel
theorem dL_nodes_200 : decode cL_nodes 200 = .ok (.aload_n 0, 1) := by decide +kernel
theorem dL_nodes_201 : decode cL_nodes 201 = .ok (.iload 7, 2) := by decide +kernel
theorem dL_nodes_203 : decode cL_nodes 203 = .ok (.iconst 3, 1) := by decide +kernel
theorem dL_nodes_204 : decode cL_nodes 204 = .ok (.invokevirtual 32, 3) := by decide +kernel
theorem dL_nodes_207 : decode cL_nodes 207 = .ok (.iload 14, 2) := by decide +kernel
theorem dL_nodes_209 : decode cL_nodes 209 = .ok (.ifCond .eq 7, 3) := by decide +kernel
theorem dL_nodes_212 : decode cL_nodes 212 = .ok (.iconst 0, 1) := by decide +kernel
theorem dL_nodes_213 : decode cL_nodes 213 = .ok (.goto 5, 3) := by decide +kernel
theorem dL_nodes_216 : decode cL_nodes 216 = .ok (.iload 8, 2) := by decide +kernel
theorem dL_nodes_218 : decode cL_nodes 218 = .ok (.if_icmp .ne 7, 3) := by decide +kernel
theorem dL_nodes_221 : decode cL_nodes 221 = .ok (.iconst 1, 1) := by decide +kernel
theorem dL_nodes_222 : decode cL_nodes 222 = .ok (.goto 4, 3) := by decide +kernel
theorem dL_nodes_225 : decode cL_nodes 225 = .ok (.iconst 0, 1) := by decide +kernel
theorem dL_nodes_226 : decode cL_nodes 226 = .ok (.ireturn, 1) := by decide +kernel
theorem dL_nodes_227 : decode cL_nodes 227 = .ok (.iload 11, 2) := by decide +kernel
theorem dL_nodes_229 : decode cL_nodes 229 = .ok (.iconst 2, 1) := by decide +kernel
theorem dL_nodes_230 : decode cL_nodes 230 = .ok (.if_icmp .ne 93, 3) := by decide +kernel
theorem dL_nodes_233 : decode cL_nodes 233 = .ok (.iconst 1, 1) := by decide +kernel
theorem dL_nodes_234 : decode cL_nodes 234 = .ok (.iload_n 2, 1) := by decide +kernel
theorem dL_nodes_235 : decode cL_nodes 235 = .ok (.bipush 60, 2) := by decide +kernel
theorem dL_nodes_237 : decode cL_nodes 237 = .ok (.irem, 1) := by decide +kernel
theorem dL_nodes_238 : decode cL_nodes 238 = .ok (.iadd, 1) := by decide +kernel
theorem dL_nodes_239 : decode cL_nodes 239 = .ok (.istore 12, 2) := by decide +kernel
theorem dL_nodes_241 : decode cL_nodes 241 = .ok (.aload_n 0, 1) := by decide +kernel
theorem dL_nodes_242 : decode cL_nodes 242 = .ok (.iconst 1, 1) := by decide +kernel
theorem dL_nodes_243 : decode cL_nodes 243 = .ok (.iload 7, 2) := by decide +kernel
theorem dL_nodes_245 : decode cL_nodes 245 = .ok (.iload 12, 2) := by decide +kernel
theorem dL_nodes_247 : decode cL_nodes 247 = .ok (.invokestatic 51, 3) := by decide +kernel
theorem dL_nodes_250 : decode cL_nodes 250 = .ok (.istore 13, 2) := by decide +kernel
theorem dL_nodes_252 : decode cL_nodes 252 = .ok (.iload 8, 2) := by decide +kernel
theorem dL_nodes_254 : decode cL_nodes 254 = .ok (.iconst 2, 1) := by decide +kernel
theorem dL_nodes_255 : decode cL_nodes 255 = .ok (.if_icmp .ge 14, 3) := by decide +kernel
theorem dL_nodes_258 : decode cL_nodes 258 = .ok (.iload 9, 2) := by decide +kernel
theorem dL_nodes_260 : decode cL_nodes 260 = .ok (.iload 12, 2) := by decide +kernel
theorem dL_nodes_262 : decode cL_nodes 262 = .ok (.if_icmp .lt 7, 3) := by decide +kernel
theorem dL_nodes_265 : decode cL_nodes 265 = .ok (.iconst 1, 1) := by decide +kernel
theorem dL_nodes_266 : decode cL_nodes 266 = .ok (.goto 4, 3) := by decide +kernel
theorem dL_nodes_269 : decode cL_nodes 269 = .ok (.iconst 0, 1) := by decide +kernel
theorem dL_nodes_270 : decode cL_nodes 270 = .ok (.istore 14, 2) := by decide +kernel
theorem dL_nodes_272 : decode cL_nodes 272 = .ok (.iload 13, 2) := by decide +kernel
theorem dL_nodes_274 : decode cL_nodes 274 = .ok (.iload 14, 2) := by decide +kernel
theorem dL_nodes_276 : decode cL_nodes 276 = .ok (.ifCond .eq 11, 3) := by decide +kernel
theorem dL_nodes_279 : decode cL_nodes 279 = .ok (.iload 10, 2) := by decide +kernel
theorem dL_nodes_281 : decode cL_nodes 281 = .ok (.iload 12, 2) := by decide +kernel
theorem dL_nodes_283 : decode cL_nodes 283 = .ok (.iadd, 1) := by decide +kernel
theorem dL_nodes_284 : decode cL_nodes 284 = .ok (.goto 5, 3) := by decide +kernel
theorem dL_nodes_287 : decode cL_nodes 287 = .ok (.ldc 43, 2) := by decide +kernel
theorem dL_nodes_289 : decode cL_nodes 289 = .ok (.if_icmp .ne 32, 3) := by decide +kernel
theorem dL_nodes_292 : decode cL_nodes 292 = .ok (.aload_n 0, 1) := by decide +kernel
theorem dL_nodes_293 : decode cL_nodes 293 = .ok (.iload 7, 2) := by decide +kernel
theorem dL_nodes_295 : decode cL_nodes 295 = .ok (.iconst 0, 1) := by decide +kernel
theorem dL_nodes_296 : decode cL_nodes 296 = .ok (.invokevirtual 32, 3) := by decide +kernel
theorem dL_nodes_299 : decode cL_nodes 299 = .ok (.iload 14, 2) := by decide +kernel
theorem dL_nodes_301 : decode cL_nodes 301 = .ok (.ifCond .eq 11, 3) := by decide +kernel
theorem dL_nodes_304 : decode cL_nodes 304 = .ok (.iload 9, 2) := by decide +kernel
theorem dL_nodes_306 : decode cL_nodes 306 = .ok (.iload 12, 2) := by decide +kernel
theorem dL_nodes_308 : decode cL_nodes 308 = .ok (.isub, 1) := by decide +kernel
theorem dL_nodes_309 : decode cL_nodes 309 = .ok (.goto 5, 3) := by decide +kernel
theorem dL_nodes_312 : decode cL_nodes 312 = .ok (.iload 9, 2) := by decide +kernel
theorem dL_nodes_314 : decode cL_nodes 314 = .ok (.if_icmp .ne 7, 3) := by decide +kernel
theorem dL_nodes_317 : decode cL_nodes 317 = .ok (.iconst 1, 1) := by decide +kernel
theorem dL_nodes_318 : decode cL_nodes 318 = .ok (.goto 4, 3) := by decide +kernel
theorem dL_nodes_321 : decode cL_nodes 321 = .ok (.iconst 0, 1) := by decide +kernel
theorem dL_nodes_322 : decode cL_nodes 322 = .ok (.ireturn, 1) := by decide +kernel
theorem dL_nodes_323 : decode cL_nodes 323 = .ok (.iload 11, 2) := by decide +kernel
theorem dL_nodes_325 : decode cL_nodes 325 = .ok (.iconst 3, 1) := by decide +kernel
theorem dL_nodes_326 : decode cL_nodes 326 = .ok (.if_icmp .ne 44, 3) := by decide +kernel
theorem dL_nodes_329 : decode cL_nodes 329 = .ok (.aload 4, 2) := by decide +kernel
theorem dL_nodes_331 : decode cL_nodes 331 = .ok (.iconst 2, 1) := by decide +kernel
theorem dL_nodes_332 : decode cL_nodes 332 = .ok (.iload 7, 2) := by decide +kernel
theorem dL_nodes_334 : decode cL_nodes 334 = .ok (.imul, 1) := by decide +kernel
theorem dL_nodes_335 : decode cL_nodes 335 = .ok (.iaload, 1) := by decide +kernel
theorem dL_nodes_336 : decode cL_nodes 336 = .ok (.istore 12, 2) := by decide +kernel
theorem dL_nodes_338 : decode cL_nodes 338 = .ok (.aload 4, 2) := by decide +kernel
theorem dL_nodes_340 : decode cL_nodes 340 = .ok (.iconst 2, 1) := by decide +kernel
theorem dL_nodes_341 : decode cL_nodes 341 = .ok (.iload 7, 2) := by decide +kernel
theorem dL_nodes_343 : decode cL_nodes 343 = .ok (.imul, 1) := by decide +kernel
theorem dL_nodes_344 : decode cL_nodes 344 = .ok (.iload_n 2, 1) := by decide +kernel
theorem dL_nodes_345 : decode cL_nodes 345 = .ok (.bipush 51, 2) := by decide +kernel
theorem dL_nodes_347 : decode cL_nodes 347 = .ok (.irem, 1) := by decide +kernel
theorem dL_nodes_348 : decode cL_nodes 348 = .ok (.iastore, 1) := by decide +kernel
theorem dL_nodes_349 : decode cL_nodes 349 = .ok (.aload_n 0, 1) := by decide +kernel
theorem dL_nodes_350 : decode cL_nodes 350 = .ok (.iload 7, 2) := by decide +kernel
theorem dL_nodes_352 : decode cL_nodes 352 = .ok (.iload_n 2, 1) := by decide +kernel
theorem dL_nodes_353 : decode cL_nodes 353 = .ok (.bipush 51, 2) := by decide +kernel
theorem dL_nodes_355 : decode cL_nodes 355 = .ok (.irem, 1) := by decide +kernel
theorem dL_nodes_356 : decode cL_nodes 356 = .ok (.invokevirtual 73, 3) := by decide +kernel
theorem dL_nodes_359 : decode cL_nodes 359 = .ok (.iload 12, 2) := by decide +kernel
theorem dL_nodes_361 : decode cL_nodes 361 = .ok (.if_icmp .ne 7, 3) := by decide +kernel
theorem dL_nodes_364 : decode cL_nodes 364 = .ok (.iconst 1, 1) := by decide +kernel
theorem dL_nodes_365 : decode cL_nodes 365 = .ok (.goto 4, 3) := by decide +kernel
theorem dL_nodes_368 : decode cL_nodes 368 = .ok (.iconst 0, 1) := by decide +kernel
theorem dL_nodes_369 : decode cL_nodes 369 = .ok (.ireturn, 1) := by decide +kernel
theorem dL_nodes_370 : decode cL_nodes 370 = .ok (.iload 11, 2) := by decide +kernel
theorem dL_nodes_372 : decode cL_nodes 372 = .ok (.iconst 4, 1) := by decide +kernel
theorem dL_nodes_373 : decode cL_nodes 373 = .ok (.if_icmp .ne 149, 3) := by decide +kernel
theorem dL_nodes_376 : decode cL_nodes 376 = .ok (.iload 7, 2) := by decide +kernel
theorem dL_nodes_378 : decode cL_nodes 378 = .ok (.iconst 1, 1) := by decide +kernel
theorem dL_nodes_379 : decode cL_nodes 379 = .ok (.iadd, 1) := by decide +kernel
theorem dL_nodes_380 : decode cL_nodes 380 = .ok (.iload_n 2, 1) := by decide +kernel
theorem dL_nodes_381 : decode cL_nodes 381 = .ok (.aload_n 3, 1) := by decide +kernel
theorem dL_nodes_382 : decode cL_nodes 382 = .ok (.iconst 0, 1) := by decide +kernel
theorem dL_nodes_383 : decode cL_nodes 383 = .ok (.iaload, 1) := by decide +kernel
theorem dL_nodes_384 : decode cL_nodes 384 = .ok (.iconst 1, 1) := by decide +kernel
theorem dL_nodes_385 : decode cL_nodes 385 = .ok (.isub, 1) := by decide +kernel
theorem dL_nodes_386 : decode cL_nodes 386 = .ok (.irem, 1) := by decide +kernel
theorem dL_nodes_387 : decode cL_nodes 387 = .ok (.iadd, 1) := by decide +kernel
theorem dL_nodes_388 : decode cL_nodes 388 = .ok (.aload_n 3, 1) := by decide +kernel
theorem dL_nodes_389 : decode cL_nodes 389 = .ok (.iconst 0, 1) := by decide +kernel
theorem dL_nodes_390 : decode cL_nodes 390 = .ok (.iaload, 1) := by decide +kernel
theorem dL_nodes_391 : decode cL_nodes 391 = .ok (.irem, 1) := by decide +kernel
theorem dL_nodes_392 : decode cL_nodes 392 = .ok (.istore 12, 2) := by decide +kernel
theorem dL_nodes_394 : decode cL_nodes 394 = .ok (.aload 5, 2) := by decide +kernel
theorem dL_nodes_396 : decode cL_nodes 396 = .ok (.iload 7, 2) := by decide +kernel
theorem dL_nodes_398 : decode cL_nodes 398 = .ok (.iaload, 1) := by decide +kernel
theorem dL_nodes_399 : decode cL_nodes 399 = .ok (.iload 12, 2) := by decide +kernel
theorem dL_nodes_401 : decode cL_nodes 401 = .ok (.ishr, 1) := by decide +kernel
theorem dL_nodes_402 : decode cL_nodes 402 = .ok (.iconst 1, 1) := by decide +kernel
theorem dL_nodes_403 : decode cL_nodes 403 = .ok (.iand, 1) := by decide +kernel
theorem dL_nodes_404 : decode cL_nodes 404 = .ok (.iconst 1, 1) := by decide +kernel
theorem dL_nodes_405 : decode cL_nodes 405 = .ok (.if_icmp .ne 7, 3) := by decide +kernel
theorem dL_nodes_408 : decode cL_nodes 408 = .ok (.iconst 1, 1) := by decide +kernel
theorem dL_nodes_409 : decode cL_nodes 409 = .ok (.goto 4, 3) := by decide +kernel
theorem dL_nodes_412 : decode cL_nodes 412 = .ok (.iconst 0, 1) := by decide +kernel
theorem dL_nodes_413 : decode cL_nodes 413 = .ok (.istore 13, 2) := by decide +kernel
theorem dL_nodes_415 : decode cL_nodes 415 = .ok (.iload_n 2, 1) := by decide +kernel
theorem dL_nodes_416 : decode cL_nodes 416 = .ok (.bipush 12, 2) := by decide +kernel
theorem dL_nodes_418 : decode cL_nodes 418 = .ok (.idiv, 1) := by decide +kernel
theorem dL_nodes_419 : decode cL_nodes 419 = .ok (.iconst 4, 1) := by decide +kernel
theorem dL_nodes_420 : decode cL_nodes 420 = .ok (.irem, 1) := by decide +kernel
theorem dL_nodes_421 : decode cL_nodes 421 = .ok (.ifCond .le 7, 3) := by decide +kernel
theorem dL_nodes_424 : decode cL_nodes 424 = .ok (.iconst 1, 1) := by decide +kernel
theorem dL_nodes_425 : decode cL_nodes 425 = .ok (.goto 4, 3) := by decide +kernel
theorem dL_nodes_428 : decode cL_nodes 428 = .ok (.iconst 0, 1) := by decide +kernel
theorem dL_nodes_429 : decode cL_nodes 429 = .ok (.istore 14, 2) := by decide +kernel
theorem dL_nodes_431 : decode cL_nodes 431 = .ok (.aload 5, 2) := by decide +kernel
theorem dL_nodes_433 : decode cL_nodes 433 = .ok (.iload 7, 2) := by decide +kernel
theorem dL_nodes_435 : decode cL_nodes 435 = .ok (.iload 14, 2) := by decide +kernel
theorem dL_nodes_437 : decode cL_nodes 437 = .ok (.ifCond .eq 16, 3) := by decide +kernel
theorem dL_nodes_440 : decode cL_nodes 440 = .ok (.aload 5, 2) := by decide +kernel
theorem dL_nodes_442 : decode cL_nodes 442 = .ok (.iload 7, 2) := by decide +kernel
theorem dL_nodes_444 : decode cL_nodes 444 = .ok (.iaload, 1) := by decide +kernel
theorem dL_nodes_445 : decode cL_nodes 445 = .ok (.iconst 1, 1) := by decide +kernel
theorem dL_nodes_446 : decode cL_nodes 446 = .ok (.iload 12, 2) := by decide +kernel
theorem dL_nodes_448 : decode cL_nodes 448 = .ok (.ishl, 1) := by decide +kernel
theorem dL_nodes_449 : decode cL_nodes 449 = .ok (.ior, 1) := by decide +kernel
theorem dL_nodes_450 : decode cL_nodes 450 = .ok (.goto 15, 3) := by decide +kernel
theorem dL_nodes_453 : decode cL_nodes 453 = .ok (.aload 5, 2) := by decide +kernel
theorem dL_nodes_455 : decode cL_nodes 455 = .ok (.iload 7, 2) := by decide +kernel
theorem dL_nodes_457 : decode cL_nodes 457 = .ok (.iaload, 1) := by decide +kernel
theorem dL_nodes_458 : decode cL_nodes 458 = .ok (.iconst 1, 1) := by decide +kernel
theorem dL_nodes_459 : decode cL_nodes 459 = .ok (.iload 12, 2) := by decide +kernel
theorem dL_nodes_461 : decode cL_nodes 461 = .ok (.ishl, 1) := by decide +kernel
theorem dL_nodes_462 : decode cL_nodes 462 = .ok (.iconst (-1), 1) := by decide +kernel
theorem dL_nodes_463 : decode cL_nodes 463 = .ok (.ixor, 1) := by decide +kernel
theorem dL_nodes_464 : decode cL_nodes 464 = .ok (.iand, 1) := by decide +kernel
theorem dL_nodes_465 : decode cL_nodes 465 = .ok (.iastore, 1) := by decide +kernel
theorem dL_nodes_466 : decode cL_nodes 466 = .ok (.aload 5, 2) := by decide +kernel
theorem dL_nodes_468 : decode cL_nodes 468 = .ok (.iload 12, 2) := by decide +kernel
theorem dL_nodes_470 : decode cL_nodes 470 = .ok (.iload 14, 2) := by decide +kernel
theorem dL_nodes_472 : decode cL_nodes 472 = .ok (.ifCond .eq 16, 3) := by decide +kernel
theorem dL_nodes_475 : decode cL_nodes 475 = .ok (.aload 5, 2) := by decide +kernel
theorem dL_nodes_477 : decode cL_nodes 477 = .ok (.iload 12, 2) := by decide +kernel
theorem dL_nodes_479 : decode cL_nodes 479 = .ok (.iaload, 1) := by decide +kernel
theorem dL_nodes_480 : decode cL_nodes 480 = .ok (.iconst 1, 1) := by decide +kernel
theorem dL_nodes_481 : decode cL_nodes 481 = .ok (.iload 7, 2) := by decide +kernel
theorem dL_nodes_483 : decode cL_nodes 483 = .ok (.ishl, 1) := by decide +kernel
theorem dL_nodes_484 : decode cL_nodes 484 = .ok (.ior, 1) := by decide +kernel
theorem dL_nodes_485 : decode cL_nodes 485 = .ok (.goto 15, 3) := by decide +kernel
theorem dL_nodes_488 : decode cL_nodes 488 = .ok (.aload 5, 2) := by decide +kernel
theorem dL_nodes_490 : decode cL_nodes 490 = .ok (.iload 12, 2) := by decide +kernel
theorem dL_nodes_492 : decode cL_nodes 492 = .ok (.iaload, 1) := by decide +kernel
theorem dL_nodes_493 : decode cL_nodes 493 = .ok (.iconst 1, 1) := by decide +kernel
theorem dL_nodes_494 : decode cL_nodes 494 = .ok (.iload 7, 2) := by decide +kernel
theorem dL_nodes_496 : decode cL_nodes 496 = .ok (.ishl, 1) := by decide +kernel
theorem dL_nodes_497 : decode cL_nodes 497 = .ok (.iconst (-1), 1) := by decide +kernel
theorem dL_nodes_498 : decode cL_nodes 498 = .ok (.ixor, 1) := by decide +kernel
theorem dL_nodes_499 : decode cL_nodes 499 = .ok (.iand, 1) := by decide +kernel
theorem dL_nodes_500 : decode cL_nodes 500 = .ok (.iastore, 1) := by decide +kernel
theorem dL_nodes_501 : decode cL_nodes 501 = .ok (.aload_n 0, 1) := by decide +kernel
theorem dL_nodes_502 : decode cL_nodes 502 = .ok (.iload 7, 2) := by decide +kernel
theorem dL_nodes_504 : decode cL_nodes 504 = .ok (.iload 12, 2) := by decide +kernel
theorem dL_nodes_506 : decode cL_nodes 506 = .ok (.iload 14, 2) := by decide +kernel
theorem dL_nodes_508 : decode cL_nodes 508 = .ok (.invokevirtual 76, 3) := by decide +kernel
theorem dL_nodes_511 : decode cL_nodes 511 = .ok (.iload 13, 2) := by decide +kernel
theorem dL_nodes_513 : decode cL_nodes 513 = .ok (.if_icmp .ne 7, 3) := by decide +kernel
theorem dL_nodes_516 : decode cL_nodes 516 = .ok (.iconst 1, 1) := by decide +kernel
theorem dL_nodes_517 : decode cL_nodes 517 = .ok (.goto 4, 3) := by decide +kernel
theorem dL_nodes_520 : decode cL_nodes 520 = .ok (.iconst 0, 1) := by decide +kernel
theorem dL_nodes_521 : decode cL_nodes 521 = .ok (.ireturn, 1) := by decide +kernel
theorem dL_nodes_522 : decode cL_nodes 522 = .ok (.aload_n 0, 1) := by decide +kernel
theorem dL_nodes_523 : decode cL_nodes 523 = .ok (.iload 7, 2) := by decide +kernel
theorem dL_nodes_525 : decode cL_nodes 525 = .ok (.iload_n 2, 1) := by decide +kernel
theorem dL_nodes_526 : decode cL_nodes 526 = .ok (.iconst 3, 1) := by decide +kernel
theorem dL_nodes_527 : decode cL_nodes 527 = .ok (.irem, 1) := by decide +kernel
theorem dL_nodes_528 : decode cL_nodes 528 = .ok (.invokevirtual 80, 3) := by decide +kernel
theorem dL_nodes_531 : decode cL_nodes 531 = .ok (.ifCond .lt 24, 3) := by decide +kernel
theorem dL_nodes_534 : decode cL_nodes 534 = .ok (.aload_n 0, 1) := by decide +kernel
theorem dL_nodes_535 : decode cL_nodes 535 = .ok (.iload 7, 2) := by decide +kernel
theorem dL_nodes_537 : decode cL_nodes 537 = .ok (.iload_n 2, 1) := by decide +kernel
theorem dL_nodes_538 : decode cL_nodes 538 = .ok (.iconst 3, 1) := by decide +kernel
theorem dL_nodes_539 : decode cL_nodes 539 = .ok (.idiv, 1) := by decide +kernel
theorem dL_nodes_540 : decode cL_nodes 540 = .ok (.iconst 3, 1) := by decide +kernel
theorem dL_nodes_541 : decode cL_nodes 541 = .ok (.irem, 1) := by decide +kernel
theorem dL_nodes_542 : decode cL_nodes 542 = .ok (.invokevirtual 80, 3) := by decide +kernel
theorem dL_nodes_545 : decode cL_nodes 545 = .ok (.iload_n 2, 1) := by decide +kernel
theorem dL_nodes_546 : decode cL_nodes 546 = .ok (.iconst 3, 1) := by decide +kernel
theorem dL_nodes_547 : decode cL_nodes 547 = .ok (.irem, 1) := by decide +kernel
theorem dL_nodes_548 : decode cL_nodes 548 = .ok (.if_icmp .ne 7, 3) := by decide +kernel
theorem dL_nodes_551 : decode cL_nodes 551 = .ok (.iconst 1, 1) := by decide +kernel
theorem dL_nodes_552 : decode cL_nodes 552 = .ok (.goto 4, 3) := by decide +kernel
theorem dL_nodes_555 : decode cL_nodes 555 = .ok (.iconst 0, 1) := by decide +kernel
theorem dL_nodes_556 : decode cL_nodes 556 = .ok (.ireturn, 1) := by decide +kernel
theorem dL_network_0 : decode cL_network 0 = .ok (.new 11, 3) := by decide +kernel
theorem dL_network_3 : decode cL_network 3 = .ok (.dup, 1) := by decide +kernel
theorem dL_network_4 : decode cL_network 4 = .ok (.invokespecial 83, 3) := by decide +kernel
theorem dL_network_7 : decode cL_network 7 = .ok (.astore_n 2, 1) := by decide +kernel
theorem dL_network_8 : decode cL_network 8 = .ok (.iconst 4, 1) := by decide +kernel
theorem dL_network_9 : decode cL_network 9 = .ok (.newarray .int, 2) := by decide +kernel
theorem dL_network_11 : decode cL_network 11 = .ok (.astore_n 3, 1) := by decide +kernel
theorem dL_network_12 : decode cL_network 12 = .ok (.bipush 24, 2) := by decide +kernel
theorem dL_network_14 : decode cL_network 14 = .ok (.newarray .int, 2) := by decide +kernel
theorem dL_network_16 : decode cL_network 16 = .ok (.astore 4, 2) := by decide +kernel
theorem dL_network_18 : decode cL_network 18 = .ok (.bipush 12, 2) := by decide +kernel
theorem dL_network_20 : decode cL_network 20 = .ok (.newarray .int, 2) := by decide +kernel
theorem dL_network_22 : decode cL_network 22 = .ok (.astore 5, 2) := by decide +kernel
theorem dL_network_24 : decode cL_network 24 = .ok (.bipush 12, 2) := by decide +kernel
theorem dL_network_26 : decode cL_network 26 = .ok (.newarray .int, 2) := by decide +kernel
theorem dL_network_28 : decode cL_network 28 = .ok (.astore 6, 2) := by decide +kernel
theorem dL_network_30 : decode cL_network 30 = .ok (.aload_n 2, 1) := by decide +kernel
theorem dL_network_31 : decode cL_network 31 = .ok (.invokevirtual 70, 3) := by decide +kernel
theorem dL_network_34 : decode cL_network 34 = .ok (.iconst (-1), 1) := by decide +kernel
theorem dL_network_35 : decode cL_network 35 = .ok (.if_icmp .ne 14, 3) := by decide +kernel
theorem dL_network_38 : decode cL_network 38 = .ok (.aload_n 2, 1) := by decide +kernel
theorem dL_network_39 : decode cL_network 39 = .ok (.invokevirtual 47, 3) := by decide +kernel
theorem dL_network_42 : decode cL_network 42 = .ok (.ifCond .ne 7, 3) := by decide +kernel
theorem dL_network_45 : decode cL_network 45 = .ok (.iconst 1, 1) := by decide +kernel
theorem dL_network_46 : decode cL_network 46 = .ok (.goto 4, 3) := by decide +kernel
theorem dL_network_49 : decode cL_network 49 = .ok (.iconst 0, 1) := by decide +kernel
theorem dL_network_50 : decode cL_network 50 = .ok (.istore 7, 2) := by decide +kernel
theorem dL_network_52 : decode cL_network 52 = .ok (.iconst 0, 1) := by decide +kernel
theorem dL_network_53 : decode cL_network 53 = .ok (.istore 8, 2) := by decide +kernel
theorem dL_network_55 : decode cL_network 55 = .ok (.iload 8, 2) := by decide +kernel
theorem dL_network_57 : decode cL_network 57 = .ok (.bipush 7, 2) := by decide +kernel
theorem dL_network_59 : decode cL_network 59 = .ok (.if_icmp .ge 109, 3) := by decide +kernel
theorem dL_network_62 : decode cL_network 62 = .ok (.iload 7, 2) := by decide +kernel
theorem dL_network_64 : decode cL_network 64 = .ok (.ifCond .eq 104, 3) := by decide +kernel
theorem dL_network_67 : decode cL_network 67 = .ok (.aload_n 0, 1) := by decide +kernel
theorem dL_network_68 : decode cL_network 68 = .ok (.iload_n 1, 1) := by decide +kernel
theorem dL_network_69 : decode cL_network 69 = .ok (.iload 8, 2) := by decide +kernel
theorem dL_network_71 : decode cL_network 71 = .ok (.iadd, 1) := by decide +kernel
theorem dL_network_72 : decode cL_network 72 = .ok (.ldc 84, 2) := by decide +kernel
theorem dL_network_74 : decode cL_network 74 = .ok (.invokestatic 85, 3) := by decide +kernel
theorem dL_network_77 : decode cL_network 77 = .ok (.istore 9, 2) := by decide +kernel
theorem dL_network_79 : decode cL_network 79 = .ok (.aload 4, 2) := by decide +kernel
theorem dL_network_81 : decode cL_network 81 = .ok (.iconst 2, 1) := by decide +kernel
theorem dL_network_82 : decode cL_network 82 = .ok (.iload 8, 2) := by decide +kernel
theorem dL_network_84 : decode cL_network 84 = .ok (.imul, 1) := by decide +kernel
theorem dL_network_85 : decode cL_network 85 = .ok (.iload 9, 2) := by decide +kernel
theorem dL_network_87 : decode cL_network 87 = .ok (.bipush 20, 2) := by decide +kernel
theorem dL_network_89 : decode cL_network 89 = .ok (.irem, 1) := by decide +kernel
theorem dL_network_90 : decode cL_network 90 = .ok (.iastore, 1) := by decide +kernel
theorem dL_network_91 : decode cL_network 91 = .ok (.aload_n 3, 1) := by decide +kernel
theorem dL_network_92 : decode cL_network 92 = .ok (.iconst 3, 1) := by decide +kernel
theorem dL_network_93 : decode cL_network 93 = .ok (.dup2, 1) := by decide +kernel
theorem dL_network_94 : decode cL_network 94 = .ok (.iaload, 1) := by decide +kernel
theorem dL_network_95 : decode cL_network 95 = .ok (.iload 9, 2) := by decide +kernel
theorem dL_network_97 : decode cL_network 97 = .ok (.bipush 20, 2) := by decide +kernel
theorem dL_network_99 : decode cL_network 99 = .ok (.idiv, 1) := by decide +kernel
theorem dL_network_100 : decode cL_network 100 = .ok (.sipush 300, 3) := by decide +kernel
theorem dL_network_103 : decode cL_network 103 = .ok (.irem, 1) := by decide +kernel
theorem dL_network_104 : decode cL_network 104 = .ok (.iload 9, 2) := by decide +kernel
theorem dL_network_106 : decode cL_network 106 = .ok (.sipush 6000, 3) := by decide +kernel
theorem dL_network_109 : decode cL_network 109 = .ok (.idiv, 1) := by decide +kernel
theorem dL_network_110 : decode cL_network 110 = .ok (.bipush 100, 2) := by decide +kernel
theorem dL_network_112 : decode cL_network 112 = .ok (.irem, 1) := by decide +kernel
theorem dL_network_113 : decode cL_network 113 = .ok (.iadd, 1) := by decide +kernel
theorem dL_network_114 : decode cL_network 114 = .ok (.iadd, 1) := by decide +kernel
theorem dL_network_115 : decode cL_network 115 = .ok (.iastore, 1) := by decide +kernel
theorem dL_network_116 : decode cL_network 116 = .ok (.aload_n 2, 1) := by decide +kernel
theorem dL_network_117 : decode cL_network 117 = .ok (.iload 9, 2) := by decide +kernel
theorem dL_network_119 : decode cL_network 119 = .ok (.bipush 20, 2) := by decide +kernel
theorem dL_network_121 : decode cL_network 121 = .ok (.idiv, 1) := by decide +kernel
theorem dL_network_122 : decode cL_network 122 = .ok (.sipush 300, 3) := by decide +kernel
theorem dL_network_125 : decode cL_network 125 = .ok (.irem, 1) := by decide +kernel
theorem dL_network_126 : decode cL_network 126 = .ok (.iload 9, 2) := by decide +kernel
theorem dL_network_128 : decode cL_network 128 = .ok (.sipush 6000, 3) := by decide +kernel
theorem dL_network_131 : decode cL_network 131 = .ok (.idiv, 1) := by decide +kernel
theorem dL_network_132 : decode cL_network 132 = .ok (.bipush 100, 2) := by decide +kernel
theorem dL_network_134 : decode cL_network 134 = .ok (.irem, 1) := by decide +kernel
theorem dL_network_135 : decode cL_network 135 = .ok (.iload 9, 2) := by decide +kernel
theorem dL_network_137 : decode cL_network 137 = .ok (.bipush 20, 2) := by decide +kernel
theorem dL_network_139 : decode cL_network 139 = .ok (.irem, 1) := by decide +kernel
theorem dL_network_140 : decode cL_network 140 = .ok (.invokevirtual 89, 3) := by decide +kernel
theorem dL_network_143 : decode cL_network 143 = .ok (.iload 8, 2) := by decide +kernel
theorem dL_network_145 : decode cL_network 145 = .ok (.if_icmp .ne 7, 3) := by decide +kernel
theorem dL_network_148 : decode cL_network 148 = .ok (.iconst 1, 1) := by decide +kernel
theorem dL_network_149 : decode cL_network 149 = .ok (.goto 4, 3) := by decide +kernel
theorem dL_network_152 : decode cL_network 152 = .ok (.iconst 0, 1) := by decide +kernel
theorem dL_network_153 : decode cL_network 153 = .ok (.istore 7, 2) := by decide +kernel
theorem dL_network_155 : decode cL_network 155 = .ok (.aload_n 3, 1) := by decide +kernel
theorem dL_network_156 : decode cL_network 156 = .ok (.iconst 0, 1) := by decide +kernel
theorem dL_network_157 : decode cL_network 157 = .ok (.dup2, 1) := by decide +kernel
theorem dL_network_158 : decode cL_network 158 = .ok (.iaload, 1) := by decide +kernel
theorem dL_network_159 : decode cL_network 159 = .ok (.iconst 1, 1) := by decide +kernel
theorem dL_network_160 : decode cL_network 160 = .ok (.iadd, 1) := by decide +kernel
theorem dL_network_161 : decode cL_network 161 = .ok (.iastore, 1) := by decide +kernel
theorem dL_network_162 : decode cL_network 162 = .ok (.iinc 8 1, 3) := by decide +kernel
theorem dL_network_165 : decode cL_network 165 = .ok (.goto (-110), 3) := by decide +kernel
theorem dL_network_168 : decode cL_network 168 = .ok (.iconst 0, 1) := by decide +kernel
theorem dL_network_169 : decode cL_network 169 = .ok (.istore 8, 2) := by decide +kernel
theorem dL_network_171 : decode cL_network 171 = .ok (.iload 8, 2) := by decide +kernel
theorem dL_network_173 : decode cL_network 173 = .ok (.bipush 7, 2) := by decide +kernel
theorem dL_network_175 : decode cL_network 175 = .ok (.if_icmp .ge 66, 3) := by decide +kernel
theorem dL_network_178 : decode cL_network 178 = .ok (.iload 7, 2) := by decide +kernel
theorem dL_network_180 : decode cL_network 180 = .ok (.ifCond .eq 61, 3) := by decide +kernel
theorem dL_network_183 : decode cL_network 183 = .ok (.iload 8, 2) := by decide +kernel
theorem dL_network_185 : decode cL_network 185 = .ok (.iconst 1, 1) := by decide +kernel
theorem dL_network_186 : decode cL_network 186 = .ok (.iadd, 1) := by decide +kernel
theorem dL_network_187 : decode cL_network 187 = .ok (.bipush 7, 2) := by decide +kernel
theorem dL_network_189 : decode cL_network 189 = .ok (.irem, 1) := by decide +kernel
theorem dL_network_190 : decode cL_network 190 = .ok (.istore 9, 2) := by decide +kernel
theorem dL_network_192 : decode cL_network 192 = .ok (.aload 5, 2) := by decide +kernel
theorem dL_network_194 : decode cL_network 194 = .ok (.iload 8, 2) := by decide +kernel
theorem dL_network_196 : decode cL_network 196 = .ok (.dup2, 1) := by decide +kernel
theorem dL_network_197 : decode cL_network 197 = .ok (.iaload, 1) := by decide +kernel
theorem dL_network_198 : decode cL_network 198 = .ok (.iconst 1, 1) := by decide +kernel
theorem dL_network_199 : decode cL_network 199 = .ok (.iload 9, 2) := by decide +kernel
theorem dL_network_201 : decode cL_network 201 = .ok (.ishl, 1) := by decide +kernel
theorem dL_network_202 : decode cL_network 202 = .ok (.ior, 1) := by decide +kernel
theorem dL_network_203 : decode cL_network 203 = .ok (.iastore, 1) := by decide +kernel
theorem dL_network_204 : decode cL_network 204 = .ok (.aload 5, 2) := by decide +kernel
theorem dL_network_206 : decode cL_network 206 = .ok (.iload 9, 2) := by decide +kernel
theorem dL_network_208 : decode cL_network 208 = .ok (.dup2, 1) := by decide +kernel
theorem dL_network_209 : decode cL_network 209 = .ok (.iaload, 1) := by decide +kernel
theorem dL_network_210 : decode cL_network 210 = .ok (.iconst 1, 1) := by decide +kernel
theorem dL_network_211 : decode cL_network 211 = .ok (.iload 8, 2) := by decide +kernel
theorem dL_network_213 : decode cL_network 213 = .ok (.ishl, 1) := by decide +kernel
theorem dL_network_214 : decode cL_network 214 = .ok (.ior, 1) := by decide +kernel
theorem dL_network_215 : decode cL_network 215 = .ok (.iastore, 1) := by decide +kernel
theorem dL_network_216 : decode cL_network 216 = .ok (.aload_n 2, 1) := by decide +kernel
theorem dL_network_217 : decode cL_network 217 = .ok (.iload 8, 2) := by decide +kernel
theorem dL_network_219 : decode cL_network 219 = .ok (.iload 9, 2) := by decide +kernel
theorem dL_network_221 : decode cL_network 221 = .ok (.iconst 1, 1) := by decide +kernel
theorem dL_network_222 : decode cL_network 222 = .ok (.invokevirtual 76, 3) := by decide +kernel
theorem dL_network_225 : decode cL_network 225 = .ok (.ifCond .ne 7, 3) := by decide +kernel
theorem dL_network_228 : decode cL_network 228 = .ok (.iconst 1, 1) := by decide +kernel
theorem dL_network_229 : decode cL_network 229 = .ok (.goto 4, 3) := by decide +kernel
theorem dL_network_232 : decode cL_network 232 = .ok (.iconst 0, 1) := by decide +kernel
theorem dL_network_233 : decode cL_network 233 = .ok (.istore 7, 2) := by decide +kernel
theorem dL_network_235 : decode cL_network 235 = .ok (.iinc 8 1, 3) := by decide +kernel
theorem dL_network_238 : decode cL_network 238 = .ok (.goto (-67), 3) := by decide +kernel
theorem dL_network_241 : decode cL_network 241 = .ok (.iconst 0, 1) := by decide +kernel
theorem dL_network_242 : decode cL_network 242 = .ok (.istore 8, 2) := by decide +kernel
theorem dL_network_244 : decode cL_network 244 = .ok (.iload 8, 2) := by decide +kernel
theorem dL_network_246 : decode cL_network 246 = .ok (.bipush 90, 2) := by decide +kernel
theorem dL_network_248 : decode cL_network 248 = .ok (.if_icmp .ge 239, 3) := by decide +kernel
theorem dL_network_251 : decode cL_network 251 = .ok (.iload 7, 2) := by decide +kernel
theorem dL_network_253 : decode cL_network 253 = .ok (.ifCond .eq 234, 3) := by decide +kernel
theorem dL_network_256 : decode cL_network 256 = .ok (.aload_n 0, 1) := by decide +kernel
theorem dL_network_257 : decode cL_network 257 = .ok (.iload_n 1, 1) := by decide +kernel
theorem dL_network_258 : decode cL_network 258 = .ok (.bipush 7, 2) := by decide +kernel
theorem dL_network_260 : decode cL_network 260 = .ok (.iadd, 1) := by decide +kernel
theorem dL_network_261 : decode cL_network 261 = .ok (.iconst 2, 1) := by decide +kernel
theorem dL_network_262 : decode cL_network 262 = .ok (.iload 8, 2) := by decide +kernel
theorem dL_network_264 : decode cL_network 264 = .ok (.imul, 1) := by decide +kernel
theorem dL_network_265 : decode cL_network 265 = .ok (.iadd, 1) := by decide +kernel
theorem dL_network_266 : decode cL_network 266 = .ok (.ldc 84, 2) := by decide +kernel
theorem dL_network_268 : decode cL_network 268 = .ok (.invokestatic 85, 3) := by decide +kernel
theorem dL_network_271 : decode cL_network 271 = .ok (.istore 9, 2) := by decide +kernel
theorem dL_network_273 : decode cL_network 273 = .ok (.aload_n 0, 1) := by decide +kernel
theorem dL_network_274 : decode cL_network 274 = .ok (.iload_n 1, 1) := by decide +kernel
theorem dL_network_275 : decode cL_network 275 = .ok (.bipush 8, 2) := by decide +kernel
theorem dL_network_277 : decode cL_network 277 = .ok (.iadd, 1) := by decide +kernel
theorem dL_network_278 : decode cL_network 278 = .ok (.iconst 2, 1) := by decide +kernel
theorem dL_network_279 : decode cL_network 279 = .ok (.iload 8, 2) := by decide +kernel
theorem dL_network_281 : decode cL_network 281 = .ok (.imul, 1) := by decide +kernel
theorem dL_network_282 : decode cL_network 282 = .ok (.iadd, 1) := by decide +kernel
theorem dL_network_283 : decode cL_network 283 = .ok (.ldc 84, 2) := by decide +kernel
theorem dL_network_285 : decode cL_network 285 = .ok (.invokestatic 85, 3) := by decide +kernel
theorem dL_network_288 : decode cL_network 288 = .ok (.istore 10, 2) := by decide +kernel
theorem dL_network_290 : decode cL_network 290 = .ok (.iload 9, 2) := by decide +kernel
theorem dL_network_292 : decode cL_network 292 = .ok (.bipush 12, 2) := by decide +kernel
theorem dL_network_294 : decode cL_network 294 = .ok (.irem, 1) := by decide +kernel
theorem dL_network_295 : decode cL_network 295 = .ok (.istore 11, 2) := by decide +kernel
theorem dL_network_297 : decode cL_network 297 = .ok (.iload 9, 2) := by decide +kernel
theorem dL_network_299 : decode cL_network 299 = .ok (.bipush 12, 2) := by decide +kernel
theorem dL_network_301 : decode cL_network 301 = .ok (.idiv, 1) := by decide +kernel
theorem dL_network_302 : decode cL_network 302 = .ok (.istore 12, 2) := by decide +kernel
theorem dL_network_304 : decode cL_network 304 = .ok (.iload 11, 2) := by decide +kernel
theorem dL_network_306 : decode cL_network 306 = .ok (.iconst 4, 1) := by decide +kernel
theorem dL_network_307 : decode cL_network 307 = .ok (.if_icmp .ge 19, 3) := by decide +kernel
theorem dL_network_310 : decode cL_network 310 = .ok (.aload_n 2, 1) := by decide +kernel
theorem dL_network_311 : decode cL_network 311 = .ok (.iload 12, 2) := by decide +kernel
theorem dL_network_313 : decode cL_network 313 = .ok (.aload_n 3, 1) := by decide +kernel
theorem dL_network_314 : decode cL_network 314 = .ok (.aload 4, 2) := by decide +kernel
theorem dL_network_316 : decode cL_network 316 = .ok (.aload 5, 2) := by decide +kernel
theorem dL_network_318 : decode cL_network 318 = .ok (.invokestatic 93, 3) := by decide +kernel
theorem dL_network_321 : decode cL_network 321 = .ok (.istore 7, 2) := by decide +kernel
theorem dL_network_323 : decode cL_network 323 = .ok (.goto 126, 3) := by decide +kernel
theorem dL_network_326 : decode cL_network 326 = .ok (.iload 11, 2) := by decide +kernel
theorem dL_network_328 : decode cL_network 328 = .ok (.bipush 8, 2) := by decide +kernel
theorem dL_network_330 : decode cL_network 330 = .ok (.if_icmp .ge 83, 3) := by decide +kernel
theorem dL_network_333 : decode cL_network 333 = .ok (.aload_n 2, 1) := by decide +kernel
theorem dL_network_334 : decode cL_network 334 = .ok (.iload 12, 2) := by decide +kernel
theorem dL_network_336 : decode cL_network 336 = .ok (.aload_n 3, 1) := by decide +kernel
theorem dL_network_337 : decode cL_network 337 = .ok (.iconst 0, 1) := by decide +kernel
theorem dL_network_338 : decode cL_network 338 = .ok (.iaload, 1) := by decide +kernel
theorem dL_network_339 : decode cL_network 339 = .ok (.irem, 1) := by decide +kernel
theorem dL_network_340 : decode cL_network 340 = .ok (.invokevirtual 97, 3) := by decide +kernel
theorem dL_network_343 : decode cL_network 343 = .ok (.istore 13, 2) := by decide +kernel
theorem dL_network_345 : decode cL_network 345 = .ok (.iload 13, 2) := by decide +kernel
theorem dL_network_347 : decode cL_network 347 = .ok (.aload_n 2, 1) := by decide +kernel
theorem dL_network_348 : decode cL_network 348 = .ok (.invokevirtual 70, 3) := by decide +kernel
theorem dL_network_351 : decode cL_network 351 = .ok (.iload 12, 2) := by decide +kernel
theorem dL_network_353 : decode cL_network 353 = .ok (.aload_n 3, 1) := by decide +kernel
theorem dL_network_354 : decode cL_network 354 = .ok (.iconst 0, 1) := by decide +kernel
theorem dL_network_355 : decode cL_network 355 = .ok (.iaload, 1) := by decide +kernel
theorem dL_network_356 : decode cL_network 356 = .ok (.irem, 1) := by decide +kernel
theorem dL_network_357 : decode cL_network 357 = .ok (.if_icmp .ne 7, 3) := by decide +kernel
theorem dL_network_360 : decode cL_network 360 = .ok (.iconst 1, 1) := by decide +kernel
theorem dL_network_361 : decode cL_network 361 = .ok (.goto 4, 3) := by decide +kernel
theorem dL_network_364 : decode cL_network 364 = .ok (.iconst 0, 1) := by decide +kernel
theorem dL_network_365 : decode cL_network 365 = .ok (.if_icmp .ne 42, 3) := by decide +kernel
theorem dL_network_368 : decode cL_network 368 = .ok (.iload 10, 2) := by decide +kernel
theorem dL_network_370 : decode cL_network 370 = .ok (.iconst 3, 1) := by decide +kernel
theorem dL_network_371 : decode cL_network 371 = .ok (.irem, 1) := by decide +kernel
theorem dL_network_372 : decode cL_network 372 = .ok (.ifCond .eq 21, 3) := by decide +kernel
theorem dL_network_375 : decode cL_network 375 = .ok (.aload_n 2, 1) := by decide +kernel
theorem dL_network_376 : decode cL_network 376 = .ok (.invokevirtual 70, 3) := by decide +kernel
theorem dL_network_379 : decode cL_network 379 = .ok (.ifCond .lt 14, 3) := by decide +kernel
theorem dL_network_382 : decode cL_network 382 = .ok (.aload_n 2, 1) := by decide +kernel
theorem dL_network_383 : decode cL_network 383 = .ok (.aload_n 2, 1) := by decide +kernel
theorem dL_network_384 : decode cL_network 384 = .ok (.invokevirtual 70, 3) := by decide +kernel
theorem dL_network_387 : decode cL_network 387 = .ok (.invokevirtual 97, 3) := by decide +kernel
theorem dL_network_390 : decode cL_network 390 = .ok (.ifCond .eq 17, 3) := by decide +kernel
theorem dL_network_393 : decode cL_network 393 = .ok (.aload_n 2, 1) := by decide +kernel
theorem dL_network_394 : decode cL_network 394 = .ok (.aload_n 3, 1) := by decide +kernel
theorem dL_network_395 : decode cL_network 395 = .ok (.aload 6, 2) := by decide +kernel
theorem dL_network_397 : decode cL_network 397 = .ok (.invokestatic 101, 3) := by decide +kernel
theorem dL_network_400 : decode cL_network 400 = .ok (.ifCond .eq 7, 3) := by decide +kernel
theorem dL_network_403 : decode cL_network 403 = .ok (.iconst 1, 1) := by decide +kernel
theorem dL_network_404 : decode cL_network 404 = .ok (.goto 4, 3) := by decide +kernel
theorem dL_network_407 : decode cL_network 407 = .ok (.iconst 0, 1) := by decide +kernel
theorem dL_network_408 : decode cL_network 408 = .ok (.istore 7, 2) := by decide +kernel
theorem dL_network_410 : decode cL_network 410 = .ok (.goto 39, 3) := by decide +kernel
theorem dL_network_413 : decode cL_network 413 = .ok (.iload 11, 2) := by decide +kernel
theorem dL_network_415 : decode cL_network 415 = .ok (.bipush 8, 2) := by decide +kernel
theorem dL_network_417 : decode cL_network 417 = .ok (.if_icmp .ne 15, 3) := by decide +kernel
theorem dL_network_420 : decode cL_network 420 = .ok (.aload_n 2, 1) := by decide +kernel
theorem dL_network_421 : decode cL_network 421 = .ok (.iload 12, 2) := by decide +kernel
theorem dL_network_423 : decode cL_network 423 = .ok (.aload_n 3, 1) := by decide +kernel
theorem dL_network_424 : decode cL_network 424 = .ok (.invokestatic 105, 3) := by decide +kernel
theorem dL_network_427 : decode cL_network 427 = .ok (.istore 7, 2) := by decide +kernel
theorem dL_network_429 : decode cL_network 429 = .ok (.goto 20, 3) := by decide +kernel
theorem dL_network_432 : decode cL_network 432 = .ok (.aload_n 2, 1) := by decide +kernel
theorem dL_network_433 : decode cL_network 433 = .ok (.iload 12, 2) := by decide +kernel
theorem dL_network_435 : decode cL_network 435 = .ok (.iload 10, 2) := by decide +kernel
theorem dL_network_437 : decode cL_network 437 = .ok (.aload_n 3, 1) := by decide +kernel
theorem dL_network_438 : decode cL_network 438 = .ok (.aload 4, 2) := by decide +kernel
theorem dL_network_440 : decode cL_network 440 = .ok (.aload 5, 2) := by decide +kernel
theorem dL_network_442 : decode cL_network 442 = .ok (.aload 6, 2) := by decide +kernel
theorem dL_network_444 : decode cL_network 444 = .ok (.invokestatic 108, 3) := by decide +kernel
theorem dL_network_447 : decode cL_network 447 = .ok (.istore 7, 2) := by decide +kernel
theorem dL_network_449 : decode cL_network 449 = .ok (.iload 7, 2) := by decide +kernel
theorem dL_network_451 : decode cL_network 451 = .ok (.ifCond .eq 27, 3) := by decide +kernel
theorem dL_network_454 : decode cL_network 454 = .ok (.iload 8, 2) := by decide +kernel
theorem dL_network_456 : decode cL_network 456 = .ok (.bipush 9, 2) := by decide +kernel
theorem dL_network_458 : decode cL_network 458 = .ok (.irem, 1) := by decide +kernel
theorem dL_network_459 : decode cL_network 459 = .ok (.bipush 8, 2) := by decide +kernel
theorem dL_network_461 : decode cL_network 461 = .ok (.if_icmp .lt 13, 3) := by decide +kernel
theorem dL_network_464 : decode cL_network 464 = .ok (.aload_n 2, 1) := by decide +kernel
theorem dL_network_465 : decode cL_network 465 = .ok (.aload_n 3, 1) := by decide +kernel
theorem dL_network_466 : decode cL_network 466 = .ok (.aload 6, 2) := by decide +kernel
theorem dL_network_468 : decode cL_network 468 = .ok (.invokestatic 112, 3) := by decide +kernel
theorem dL_network_471 : decode cL_network 471 = .ok (.ifCond .eq 7, 3) := by decide +kernel
theorem dL_network_474 : decode cL_network 474 = .ok (.iconst 1, 1) := by decide +kernel
theorem dL_network_475 : decode cL_network 475 = .ok (.goto 4, 3) := by decide +kernel
theorem dL_network_478 : decode cL_network 478 = .ok (.iconst 0, 1) := by decide +kernel
theorem dL_network_479 : decode cL_network 479 = .ok (.istore 7, 2) := by decide +kernel
theorem dL_network_481 : decode cL_network 481 = .ok (.iinc 8 1, 3) := by decide +kernel
theorem dL_network_484 : decode cL_network 484 = .ok (.goto (-240), 3) := by decide +kernel
theorem dL_network_487 : decode cL_network 487 = .ok (.iload 7, 2) := by decide +kernel
theorem dL_network_489 : decode cL_network 489 = .ok (.ifCond .eq 17, 3) := by decide +kernel
theorem dL_network_492 : decode cL_network 492 = .ok (.aload_n 2, 1) := by decide +kernel
theorem dL_network_493 : decode cL_network 493 = .ok (.aload_n 3, 1) := by decide +kernel
theorem dL_network_494 : decode cL_network 494 = .ok (.aload 6, 2) := by decide +kernel
theorem dL_network_496 : decode cL_network 496 = .ok (.invokestatic 112, 3) := by decide +kernel
theorem dL_network_499 : decode cL_network 499 = .ok (.ifCond .eq 7, 3) := by decide +kernel
theorem dL_network_502 : decode cL_network 502 = .ok (.iconst 1, 1) := by decide +kernel
theorem dL_network_503 : decode cL_network 503 = .ok (.goto 4, 3) := by decide +kernel
theorem dL_network_506 : decode cL_network 506 = .ok (.iconst 0, 1) := by decide +kernel
theorem dL_network_507 : decode cL_network 507 = .ok (.ireturn, 1) := by decide +kernel
theorem dL_law_0 : decode cL_law 0 = .ok (.aload_n 0, 1) := by decide +kernel
theorem dL_law_1 : decode cL_law 1 = .ok (.iconst 0, 1) := by decide +kernel
theorem dL_law_2 : decode cL_law 2 = .ok (.invokestatic 115, 3) := by decide +kernel
theorem dL_law_5 : decode cL_law 5 = .ok (.ifCond .eq 27, 3) := by decide +kernel
theorem dL_law_8 : decode cL_law 8 = .ok (.aload_n 0, 1) := by decide +kernel
theorem dL_law_9 : decode cL_law 9 = .ok (.sipush 187, 3) := by decide +kernel
theorem dL_law_12 : decode cL_law 12 = .ok (.invokestatic 115, 3) := by decide +kernel
theorem dL_law_15 : decode cL_law 15 = .ok (.ifCond .eq 17, 3) := by decide +kernel
theorem dL_law_18 : decode cL_law 18 = .ok (.aload_n 0, 1) := by decide +kernel
theorem dL_law_19 : decode cL_law 19 = .ok (.sipush 374, 3) := by decide +kernel
theorem dL_law_22 : decode cL_law 22 = .ok (.invokestatic 115, 3) := by decide +kernel
theorem dL_law_25 : decode cL_law 25 = .ok (.ifCond .eq 7, 3) := by decide +kernel
theorem dL_law_28 : decode cL_law 28 = .ok (.iconst 1, 1) := by decide +kernel
theorem dL_law_29 : decode cL_law 29 = .ok (.goto 4, 3) := by decide +kernel
theorem dL_law_32 : decode cL_law 32 = .ok (.iconst 0, 1) := by decide +kernel
theorem dL_law_33 : decode cL_law 33 = .ok (.ireturn, 1) := by decide +kernel
