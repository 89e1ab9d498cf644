theorem d_M_leads_0 : decode b_M_leads 0 = .ok (.iload_n 2, 1) := by decide +kernel
theorem d_M_leads_1 : decode b_M_leads 1 = .ok (.iconst 1, 1) := by decide +kernel
theorem d_M_leads_2 : decode b_M_leads 2 = .ok (.if_icmp .lt 19, 3) := by decide +kernel
theorem d_M_leads_5 : decode b_M_leads 5 = .ok (.iload_n 2, 1) := by decide +kernel
theorem d_M_leads_6 : decode b_M_leads 6 = .ok (.ldc 125, 2) := by decide +kernel
theorem d_M_leads_8 : decode b_M_leads 8 = .ok (.if_icmp .gt 13, 3) := by decide +kernel
theorem d_M_leads_11 : decode b_M_leads 11 = .ok (.iload_n 1, 1) := by decide +kernel
theorem d_M_leads_12 : decode b_M_leads 12 = .ok (.iconst 1, 1) := by decide +kernel
theorem d_M_leads_13 : decode b_M_leads 13 = .ok (.if_icmp .lt 8, 3) := by decide +kernel
theorem d_M_leads_16 : decode b_M_leads 16 = .ok (.iload_n 1, 1) := by decide +kernel
theorem d_M_leads_17 : decode b_M_leads 17 = .ok (.iload_n 2, 1) := by decide +kernel
theorem d_M_leads_18 : decode b_M_leads 18 = .ok (.if_icmp .le 5, 3) := by decide +kernel
theorem d_M_leads_21 : decode b_M_leads 21 = .ok (.iconst 0, 1) := by decide +kernel
theorem d_M_leads_22 : decode b_M_leads 22 = .ok (.ireturn, 1) := by decide +kernel
theorem d_M_leads_23 : decode b_M_leads 23 = .ok (.iload_n 1, 1) := by decide +kernel
theorem d_M_leads_24 : decode b_M_leads 24 = .ok (.iload_n 2, 1) := by decide +kernel
theorem d_M_leads_25 : decode b_M_leads 25 = .ok (.if_icmp .ne 23, 3) := by decide +kernel
theorem d_M_leads_28 : decode b_M_leads 28 = .ok (.aload_n 0, 1) := by decide +kernel
theorem d_M_leads_29 : decode b_M_leads 29 = .ok (.getfield 122, 3) := by decide +kernel
theorem d_M_leads_32 : decode b_M_leads 32 = .ok (.ifCond .ne 14, 3) := by decide +kernel
theorem d_M_leads_35 : decode b_M_leads 35 = .ok (.lload_n 3, 1) := by decide +kernel
theorem d_M_leads_36 : decode b_M_leads 36 = .ok (.lload 5, 2) := by decide +kernel
theorem d_M_leads_38 : decode b_M_leads 38 = .ok (.lcmp, 1) := by decide +kernel
theorem d_M_leads_39 : decode b_M_leads 39 = .ok (.ifCond .ne 7, 3) := by decide +kernel
theorem d_M_leads_42 : decode b_M_leads 42 = .ok (.iconst 1, 1) := by decide +kernel
theorem d_M_leads_43 : decode b_M_leads 43 = .ok (.goto 4, 3) := by decide +kernel
theorem d_M_leads_46 : decode b_M_leads 46 = .ok (.iconst 0, 1) := by decide +kernel
theorem d_M_leads_47 : decode b_M_leads 47 = .ok (.ireturn, 1) := by decide +kernel
theorem d_M_leads_48 : decode b_M_leads 48 = .ok (.aload_n 0, 1) := by decide +kernel
theorem d_M_leads_49 : decode b_M_leads 49 = .ok (.iload_n 1, 1) := by decide +kernel
theorem d_M_leads_50 : decode b_M_leads 50 = .ok (.lload_n 3, 1) := by decide +kernel
theorem d_M_leads_51 : decode b_M_leads 51 = .ok (.invokevirtual 132, 3) := by decide +kernel
theorem d_M_leads_54 : decode b_M_leads 54 = .ok (.aload_n 0, 1) := by decide +kernel
theorem d_M_leads_55 : decode b_M_leads 55 = .ok (.getfield 129, 3) := by decide +kernel
theorem d_M_leads_58 : decode b_M_leads 58 = .ok (.ifCond .ne 5, 3) := by decide +kernel
theorem d_M_leads_61 : decode b_M_leads 61 = .ok (.iconst 0, 1) := by decide +kernel
theorem d_M_leads_62 : decode b_M_leads 62 = .ok (.ireturn, 1) := by decide +kernel
theorem d_M_leads_63 : decode b_M_leads 63 = .ok (.iload_n 1, 1) := by decide +kernel
theorem d_M_leads_64 : decode b_M_leads 64 = .ok (.iconst 1, 1) := by decide +kernel
theorem d_M_leads_65 : decode b_M_leads 65 = .ok (.isub, 1) := by decide +kernel
theorem d_M_leads_66 : decode b_M_leads 66 = .ok (.istore 7, 2) := by decide +kernel
theorem d_M_leads_68 : decode b_M_leads 68 = .ok (.iload_n 2, 1) := by decide +kernel
theorem d_M_leads_69 : decode b_M_leads 69 = .ok (.iconst 1, 1) := by decide +kernel
theorem d_M_leads_70 : decode b_M_leads 70 = .ok (.isub, 1) := by decide +kernel
theorem d_M_leads_71 : decode b_M_leads 71 = .ok (.istore 8, 2) := by decide +kernel
theorem d_M_leads_73 : decode b_M_leads 73 = .ok (.iload 7, 2) := by decide +kernel
theorem d_M_leads_75 : decode b_M_leads 75 = .ok (.iconst 1, 1) := by decide +kernel
theorem d_M_leads_76 : decode b_M_leads 76 = .ok (.iand, 1) := by decide +kernel
theorem d_M_leads_77 : decode b_M_leads 77 = .ok (.iconst 1, 1) := by decide +kernel
theorem d_M_leads_78 : decode b_M_leads 78 = .ok (.if_icmp .ne 18, 3) := by decide +kernel
theorem d_M_leads_81 : decode b_M_leads 81 = .ok (.iload 7, 2) := by decide +kernel
theorem d_M_leads_83 : decode b_M_leads 83 = .ok (.iconst 1, 1) := by decide +kernel
theorem d_M_leads_84 : decode b_M_leads 84 = .ok (.ishr, 1) := by decide +kernel
theorem d_M_leads_85 : decode b_M_leads 85 = .ok (.istore 7, 2) := by decide +kernel
theorem d_M_leads_87 : decode b_M_leads 87 = .ok (.iload 8, 2) := by decide +kernel
theorem d_M_leads_89 : decode b_M_leads 89 = .ok (.iconst 1, 1) := by decide +kernel
theorem d_M_leads_90 : decode b_M_leads 90 = .ok (.ishr, 1) := by decide +kernel
theorem d_M_leads_91 : decode b_M_leads 91 = .ok (.istore 8, 2) := by decide +kernel
theorem d_M_leads_93 : decode b_M_leads 93 = .ok (.goto (-20), 3) := by decide +kernel
theorem d_M_leads_96 : decode b_M_leads 96 = .ok (.aload_n 0, 1) := by decide +kernel
theorem d_M_leads_97 : decode b_M_leads 97 = .ok (.getfield 36, 3) := by decide +kernel
theorem d_M_leads_100 : decode b_M_leads 100 = .ok (.iconst 0, 1) := by decide +kernel
theorem d_M_leads_101 : decode b_M_leads 101 = .ok (.laload, 1) := by decide +kernel
theorem d_M_leads_102 : decode b_M_leads 102 = .ok (.lstore 9, 2) := by decide +kernel
theorem d_M_leads_104 : decode b_M_leads 104 = .ok (.aload_n 0, 1) := by decide +kernel
theorem d_M_leads_105 : decode b_M_leads 105 = .ok (.getfield 36, 3) := by decide +kernel
theorem d_M_leads_108 : decode b_M_leads 108 = .ok (.iconst 0, 1) := by decide +kernel
theorem d_M_leads_109 : decode b_M_leads 109 = .ok (.laload, 1) := by decide +kernel
theorem d_M_leads_110 : decode b_M_leads 110 = .ok (.lstore 11, 2) := by decide +kernel
theorem d_M_leads_112 : decode b_M_leads 112 = .ok (.iconst 1, 1) := by decide +kernel
theorem d_M_leads_113 : decode b_M_leads 113 = .ok (.istore 13, 2) := by decide +kernel
theorem d_M_leads_115 : decode b_M_leads 115 = .ok (.iload 13, 2) := by decide +kernel
theorem d_M_leads_117 : decode b_M_leads 117 = .ok (.aload_n 0, 1) := by decide +kernel
theorem d_M_leads_118 : decode b_M_leads 118 = .ok (.getfield 129, 3) := by decide +kernel
theorem d_M_leads_121 : decode b_M_leads 121 = .ok (.if_icmp .ge 109, 3) := by decide +kernel
theorem d_M_leads_124 : decode b_M_leads 124 = .ok (.iload 8, 2) := by decide +kernel
theorem d_M_leads_126 : decode b_M_leads 126 = .ok (.ifCond .ne 5, 3) := by decide +kernel
theorem d_M_leads_129 : decode b_M_leads 129 = .ok (.iconst 0, 1) := by decide +kernel
theorem d_M_leads_130 : decode b_M_leads 130 = .ok (.ireturn, 1) := by decide +kernel
theorem d_M_leads_131 : decode b_M_leads 131 = .ok (.iload 7, 2) := by decide +kernel
theorem d_M_leads_133 : decode b_M_leads 133 = .ok (.iconst 1, 1) := by decide +kernel
theorem d_M_leads_134 : decode b_M_leads 134 = .ok (.iand, 1) := by decide +kernel
theorem d_M_leads_135 : decode b_M_leads 135 = .ok (.iconst 1, 1) := by decide +kernel
theorem d_M_leads_136 : decode b_M_leads 136 = .ok (.if_icmp .eq 10, 3) := by decide +kernel
theorem d_M_leads_139 : decode b_M_leads 139 = .ok (.iload 7, 2) := by decide +kernel
theorem d_M_leads_141 : decode b_M_leads 141 = .ok (.iload 8, 2) := by decide +kernel
theorem d_M_leads_143 : decode b_M_leads 143 = .ok (.if_icmp .ne 55, 3) := by decide +kernel
theorem d_M_leads_146 : decode b_M_leads 146 = .ok (.aload_n 0, 1) := by decide +kernel
theorem d_M_leads_147 : decode b_M_leads 147 = .ok (.getfield 36, 3) := by decide +kernel
theorem d_M_leads_150 : decode b_M_leads 150 = .ok (.iload 13, 2) := by decide +kernel
theorem d_M_leads_152 : decode b_M_leads 152 = .ok (.laload, 1) := by decide +kernel
theorem d_M_leads_153 : decode b_M_leads 153 = .ok (.lload 9, 2) := by decide +kernel
theorem d_M_leads_155 : decode b_M_leads 155 = .ok (.invokestatic 62, 3) := by decide +kernel
theorem d_M_leads_158 : decode b_M_leads 158 = .ok (.lstore 9, 2) := by decide +kernel
theorem d_M_leads_160 : decode b_M_leads 160 = .ok (.aload_n 0, 1) := by decide +kernel
theorem d_M_leads_161 : decode b_M_leads 161 = .ok (.getfield 36, 3) := by decide +kernel
theorem d_M_leads_164 : decode b_M_leads 164 = .ok (.iload 13, 2) := by decide +kernel
theorem d_M_leads_166 : decode b_M_leads 166 = .ok (.laload, 1) := by decide +kernel
theorem d_M_leads_167 : decode b_M_leads 167 = .ok (.lload 11, 2) := by decide +kernel
theorem d_M_leads_169 : decode b_M_leads 169 = .ok (.invokestatic 62, 3) := by decide +kernel
theorem d_M_leads_172 : decode b_M_leads 172 = .ok (.lstore 11, 2) := by decide +kernel
theorem d_M_leads_174 : decode b_M_leads 174 = .ok (.iload 7, 2) := by decide +kernel
theorem d_M_leads_176 : decode b_M_leads 176 = .ok (.invokestatic 126, 3) := by decide +kernel
theorem d_M_leads_179 : decode b_M_leads 179 = .ok (.istore 14, 2) := by decide +kernel
theorem d_M_leads_181 : decode b_M_leads 181 = .ok (.iload 7, 2) := by decide +kernel
theorem d_M_leads_183 : decode b_M_leads 183 = .ok (.iload 14, 2) := by decide +kernel
theorem d_M_leads_185 : decode b_M_leads 185 = .ok (.ishr, 1) := by decide +kernel
theorem d_M_leads_186 : decode b_M_leads 186 = .ok (.istore 7, 2) := by decide +kernel
theorem d_M_leads_188 : decode b_M_leads 188 = .ok (.iload 8, 2) := by decide +kernel
theorem d_M_leads_190 : decode b_M_leads 190 = .ok (.iload 14, 2) := by decide +kernel
theorem d_M_leads_192 : decode b_M_leads 192 = .ok (.ishr, 1) := by decide +kernel
theorem d_M_leads_193 : decode b_M_leads 193 = .ok (.istore 8, 2) := by decide +kernel
theorem d_M_leads_195 : decode b_M_leads 195 = .ok (.goto 17, 3) := by decide +kernel
theorem d_M_leads_198 : decode b_M_leads 198 = .ok (.lload 11, 2) := by decide +kernel
theorem d_M_leads_200 : decode b_M_leads 200 = .ok (.aload_n 0, 1) := by decide +kernel
theorem d_M_leads_201 : decode b_M_leads 201 = .ok (.getfield 36, 3) := by decide +kernel
theorem d_M_leads_204 : decode b_M_leads 204 = .ok (.iload 13, 2) := by decide +kernel
theorem d_M_leads_206 : decode b_M_leads 206 = .ok (.laload, 1) := by decide +kernel
theorem d_M_leads_207 : decode b_M_leads 207 = .ok (.invokestatic 62, 3) := by decide +kernel
theorem d_M_leads_210 : decode b_M_leads 210 = .ok (.lstore 11, 2) := by decide +kernel
theorem d_M_leads_212 : decode b_M_leads 212 = .ok (.iload 7, 2) := by decide +kernel
theorem d_M_leads_214 : decode b_M_leads 214 = .ok (.iconst 1, 1) := by decide +kernel
theorem d_M_leads_215 : decode b_M_leads 215 = .ok (.ishr, 1) := by decide +kernel
theorem d_M_leads_216 : decode b_M_leads 216 = .ok (.istore 7, 2) := by decide +kernel
theorem d_M_leads_218 : decode b_M_leads 218 = .ok (.iload 8, 2) := by decide +kernel
theorem d_M_leads_220 : decode b_M_leads 220 = .ok (.iconst 1, 1) := by decide +kernel
theorem d_M_leads_221 : decode b_M_leads 221 = .ok (.ishr, 1) := by decide +kernel
theorem d_M_leads_222 : decode b_M_leads 222 = .ok (.istore 8, 2) := by decide +kernel
theorem d_M_leads_224 : decode b_M_leads 224 = .ok (.iinc 13 1, 3) := by decide +kernel
theorem d_M_leads_227 : decode b_M_leads 227 = .ok (.goto (-112), 3) := by decide +kernel
theorem d_M_leads_230 : decode b_M_leads 230 = .ok (.iload 8, 2) := by decide +kernel
theorem d_M_leads_232 : decode b_M_leads 232 = .ok (.ifCond .ne 22, 3) := by decide +kernel
theorem d_M_leads_235 : decode b_M_leads 235 = .ok (.lload 9, 2) := by decide +kernel
theorem d_M_leads_237 : decode b_M_leads 237 = .ok (.lload_n 3, 1) := by decide +kernel
theorem d_M_leads_238 : decode b_M_leads 238 = .ok (.lcmp, 1) := by decide +kernel
theorem d_M_leads_239 : decode b_M_leads 239 = .ok (.ifCond .ne 15, 3) := by decide +kernel
theorem d_M_leads_242 : decode b_M_leads 242 = .ok (.lload 11, 2) := by decide +kernel
theorem d_M_leads_244 : decode b_M_leads 244 = .ok (.lload 5, 2) := by decide +kernel
theorem d_M_leads_246 : decode b_M_leads 246 = .ok (.lcmp, 1) := by decide +kernel
theorem d_M_leads_247 : decode b_M_leads 247 = .ok (.ifCond .ne 7, 3) := by decide +kernel
theorem d_M_leads_250 : decode b_M_leads 250 = .ok (.iconst 1, 1) := by decide +kernel
theorem d_M_leads_251 : decode b_M_leads 251 = .ok (.goto 4, 3) := by decide +kernel
theorem d_M_leads_254 : decode b_M_leads 254 = .ok (.iconst 0, 1) := by decide +kernel
theorem d_M_leads_255 : decode b_M_leads 255 = .ok (.ireturn, 1) := by decide +kernel
theorem d_M_extend_0 : decode b_M_extend 0 = .ok (.aload_n 0, 1) := by decide +kernel
theorem d_M_extend_1 : decode b_M_extend 1 = .ok (.getfield 69, 3) := by decide +kernel
theorem d_M_extend_4 : decode b_M_extend 4 = .ok (.ifCond .eq 6, 3) := by decide +kernel
theorem d_M_extend_7 : decode b_M_extend 7 = .ok (.bipush (-2), 2) := by decide +kernel
theorem d_M_extend_9 : decode b_M_extend 9 = .ok (.ireturn, 1) := by decide +kernel
theorem d_M_extend_10 : decode b_M_extend 10 = .ok (.iload_n 2, 1) := by decide +kernel
theorem d_M_extend_11 : decode b_M_extend 11 = .ok (.iconst 1, 1) := by decide +kernel
theorem d_M_extend_12 : decode b_M_extend 12 = .ok (.if_icmp .lt 21, 3) := by decide +kernel
theorem d_M_extend_15 : decode b_M_extend 15 = .ok (.iload_n 2, 1) := by decide +kernel
theorem d_M_extend_16 : decode b_M_extend 16 = .ok (.aload_n 0, 1) := by decide +kernel
theorem d_M_extend_17 : decode b_M_extend 17 = .ok (.invokevirtual 94, 3) := by decide +kernel
theorem d_M_extend_20 : decode b_M_extend 20 = .ok (.if_icmp .gt 13, 3) := by decide +kernel
theorem d_M_extend_23 : decode b_M_extend 23 = .ok (.iload_n 1, 1) := by decide +kernel
theorem d_M_extend_24 : decode b_M_extend 24 = .ok (.iconst 1, 1) := by decide +kernel
theorem d_M_extend_25 : decode b_M_extend 25 = .ok (.if_icmp .lt 8, 3) := by decide +kernel
theorem d_M_extend_28 : decode b_M_extend 28 = .ok (.iload_n 1, 1) := by decide +kernel
theorem d_M_extend_29 : decode b_M_extend 29 = .ok (.iload_n 2, 1) := by decide +kernel
theorem d_M_extend_30 : decode b_M_extend 30 = .ok (.if_icmp .le 5, 3) := by decide +kernel
theorem d_M_extend_33 : decode b_M_extend 33 = .ok (.iconst (-1), 1) := by decide +kernel
theorem d_M_extend_34 : decode b_M_extend 34 = .ok (.ireturn, 1) := by decide +kernel
theorem d_M_extend_35 : decode b_M_extend 35 = .ok (.aload_n 0, 1) := by decide +kernel
theorem d_M_extend_36 : decode b_M_extend 36 = .ok (.iconst 0, 1) := by decide +kernel
theorem d_M_extend_37 : decode b_M_extend 37 = .ok (.putfield 108, 3) := by decide +kernel
theorem d_M_extend_40 : decode b_M_extend 40 = .ok (.iconst 0, 1) := by decide +kernel
theorem d_M_extend_41 : decode b_M_extend 41 = .ok (.istore_n 3, 1) := by decide +kernel
theorem d_M_extend_42 : decode b_M_extend 42 = .ok (.iload_n 2, 1) := by decide +kernel
theorem d_M_extend_43 : decode b_M_extend 43 = .ok (.istore 4, 2) := by decide +kernel
theorem d_M_extend_45 : decode b_M_extend 45 = .ok (.iload_n 1, 1) := by decide +kernel
theorem d_M_extend_46 : decode b_M_extend 46 = .ok (.istore 5, 2) := by decide +kernel
theorem d_M_extend_48 : decode b_M_extend 48 = .ok (.iconst 1, 1) := by decide +kernel
theorem d_M_extend_49 : decode b_M_extend 49 = .ok (.istore 6, 2) := by decide +kernel
theorem d_M_extend_51 : decode b_M_extend 51 = .ok (.iload 5, 2) := by decide +kernel
theorem d_M_extend_53 : decode b_M_extend 53 = .ok (.iload 4, 2) := by decide +kernel
theorem d_M_extend_55 : decode b_M_extend 55 = .ok (.if_icmp .ge 128, 3) := by decide +kernel
theorem d_M_extend_58 : decode b_M_extend 58 = .ok (.iload 4, 2) := by decide +kernel
theorem d_M_extend_60 : decode b_M_extend 60 = .ok (.invokestatic 111, 3) := by decide +kernel
theorem d_M_extend_63 : decode b_M_extend 63 = .ok (.istore 7, 2) := by decide +kernel
theorem d_M_extend_65 : decode b_M_extend 65 = .ok (.iload 5, 2) := by decide +kernel
theorem d_M_extend_67 : decode b_M_extend 67 = .ok (.iload 7, 2) := by decide +kernel
theorem d_M_extend_69 : decode b_M_extend 69 = .ok (.if_icmp .gt 7, 3) := by decide +kernel
theorem d_M_extend_72 : decode b_M_extend 72 = .ok (.iconst 1, 1) := by decide +kernel
theorem d_M_extend_73 : decode b_M_extend 73 = .ok (.goto 4, 3) := by decide +kernel
theorem d_M_extend_76 : decode b_M_extend 76 = .ok (.iconst 0, 1) := by decide +kernel
theorem d_M_extend_77 : decode b_M_extend 77 = .ok (.istore 8, 2) := by decide +kernel
theorem d_M_extend_79 : decode b_M_extend 79 = .ok (.iload 8, 2) := by decide +kernel
theorem d_M_extend_81 : decode b_M_extend 81 = .ok (.ifCond .eq 19, 3) := by decide +kernel
theorem d_M_extend_84 : decode b_M_extend 84 = .ok (.aload_n 0, 1) := by decide +kernel
theorem d_M_extend_85 : decode b_M_extend 85 = .ok (.iload_n 3, 1) := by decide +kernel
theorem d_M_extend_86 : decode b_M_extend 86 = .ok (.iload 7, 2) := by decide +kernel
theorem d_M_extend_88 : decode b_M_extend 88 = .ok (.iadd, 1) := by decide +kernel
theorem d_M_extend_89 : decode b_M_extend 89 = .ok (.iload 4, 2) := by decide +kernel
theorem d_M_extend_91 : decode b_M_extend 91 = .ok (.iload 7, 2) := by decide +kernel
theorem d_M_extend_93 : decode b_M_extend 93 = .ok (.isub, 1) := by decide +kernel
theorem d_M_extend_94 : decode b_M_extend 94 = .ok (.invokevirtual 75, 3) := by decide +kernel
theorem d_M_extend_97 : decode b_M_extend 97 = .ok (.goto 10, 3) := by decide +kernel
theorem d_M_extend_100 : decode b_M_extend 100 = .ok (.aload_n 0, 1) := by decide +kernel
theorem d_M_extend_101 : decode b_M_extend 101 = .ok (.iload_n 3, 1) := by decide +kernel
theorem d_M_extend_102 : decode b_M_extend 102 = .ok (.iload 7, 2) := by decide +kernel
theorem d_M_extend_104 : decode b_M_extend 104 = .ok (.invokevirtual 75, 3) := by decide +kernel
theorem d_M_extend_107 : decode b_M_extend 107 = .ok (.lstore 9, 2) := by decide +kernel
theorem d_M_extend_109 : decode b_M_extend 109 = .ok (.aload_n 0, 1) := by decide +kernel
theorem d_M_extend_110 : decode b_M_extend 110 = .ok (.lload 9, 2) := by decide +kernel
theorem d_M_extend_112 : decode b_M_extend 112 = .ok (.invokevirtual 115, 3) := by decide +kernel
theorem d_M_extend_115 : decode b_M_extend 115 = .ok (.iload 8, 2) := by decide +kernel
theorem d_M_extend_117 : decode b_M_extend 117 = .ok (.ifCond .eq 7, 3) := by decide +kernel
theorem d_M_extend_120 : decode b_M_extend 120 = .ok (.iload_n 3, 1) := by decide +kernel
theorem d_M_extend_121 : decode b_M_extend 121 = .ok (.goto 7, 3) := by decide +kernel
theorem d_M_extend_124 : decode b_M_extend 124 = .ok (.iload_n 3, 1) := by decide +kernel
theorem d_M_extend_125 : decode b_M_extend 125 = .ok (.iload 7, 2) := by decide +kernel
theorem d_M_extend_127 : decode b_M_extend 127 = .ok (.iadd, 1) := by decide +kernel
theorem d_M_extend_128 : decode b_M_extend 128 = .ok (.istore_n 3, 1) := by decide +kernel
theorem d_M_extend_129 : decode b_M_extend 129 = .ok (.iload 8, 2) := by decide +kernel
theorem d_M_extend_131 : decode b_M_extend 131 = .ok (.ifCond .eq 8, 3) := by decide +kernel
theorem d_M_extend_134 : decode b_M_extend 134 = .ok (.iload 5, 2) := by decide +kernel
theorem d_M_extend_136 : decode b_M_extend 136 = .ok (.goto 8, 3) := by decide +kernel
theorem d_M_extend_139 : decode b_M_extend 139 = .ok (.iload 5, 2) := by decide +kernel
theorem d_M_extend_141 : decode b_M_extend 141 = .ok (.iload 7, 2) := by decide +kernel
theorem d_M_extend_143 : decode b_M_extend 143 = .ok (.isub, 1) := by decide +kernel
theorem d_M_extend_144 : decode b_M_extend 144 = .ok (.istore 5, 2) := by decide +kernel
theorem d_M_extend_146 : decode b_M_extend 146 = .ok (.iload 8, 2) := by decide +kernel
theorem d_M_extend_148 : decode b_M_extend 148 = .ok (.ifCond .eq 8, 3) := by decide +kernel
theorem d_M_extend_151 : decode b_M_extend 151 = .ok (.iload 7, 2) := by decide +kernel
theorem d_M_extend_153 : decode b_M_extend 153 = .ok (.goto 8, 3) := by decide +kernel
theorem d_M_extend_156 : decode b_M_extend 156 = .ok (.iload 4, 2) := by decide +kernel
theorem d_M_extend_158 : decode b_M_extend 158 = .ok (.iload 7, 2) := by decide +kernel
theorem d_M_extend_160 : decode b_M_extend 160 = .ok (.isub, 1) := by decide +kernel
theorem d_M_extend_161 : decode b_M_extend 161 = .ok (.istore 4, 2) := by decide +kernel
theorem d_M_extend_163 : decode b_M_extend 163 = .ok (.iload 6, 2) := by decide +kernel
theorem d_M_extend_165 : decode b_M_extend 165 = .ok (.ifCond .eq 12, 3) := by decide +kernel
theorem d_M_extend_168 : decode b_M_extend 168 = .ok (.iload 8, 2) := by decide +kernel
theorem d_M_extend_170 : decode b_M_extend 170 = .ok (.ifCond .eq 7, 3) := by decide +kernel
theorem d_M_extend_173 : decode b_M_extend 173 = .ok (.iconst 1, 1) := by decide +kernel
theorem d_M_extend_174 : decode b_M_extend 174 = .ok (.goto 4, 3) := by decide +kernel
theorem d_M_extend_177 : decode b_M_extend 177 = .ok (.iconst 0, 1) := by decide +kernel
theorem d_M_extend_178 : decode b_M_extend 178 = .ok (.istore 6, 2) := by decide +kernel
theorem d_M_extend_180 : decode b_M_extend 180 = .ok (.goto (-129), 3) := by decide +kernel
theorem d_M_extend_183 : decode b_M_extend 183 = .ok (.iload 6, 2) := by decide +kernel
theorem d_M_extend_185 : decode b_M_extend 185 = .ok (.ifCond .ne 18, 3) := by decide +kernel
theorem d_M_extend_188 : decode b_M_extend 188 = .ok (.aload_n 0, 1) := by decide +kernel
theorem d_M_extend_189 : decode b_M_extend 189 = .ok (.iload_n 3, 1) := by decide +kernel
theorem d_M_extend_190 : decode b_M_extend 190 = .ok (.iload 4, 2) := by decide +kernel
theorem d_M_extend_192 : decode b_M_extend 192 = .ok (.invokevirtual 75, 3) := by decide +kernel
theorem d_M_extend_195 : decode b_M_extend 195 = .ok (.lstore 7, 2) := by decide +kernel
theorem d_M_extend_197 : decode b_M_extend 197 = .ok (.aload_n 0, 1) := by decide +kernel
theorem d_M_extend_198 : decode b_M_extend 198 = .ok (.lload 7, 2) := by decide +kernel
theorem d_M_extend_200 : decode b_M_extend 200 = .ok (.invokevirtual 115, 3) := by decide +kernel
theorem d_M_extend_203 : decode b_M_extend 203 = .ok (.aload_n 0, 1) := by decide +kernel
theorem d_M_extend_204 : decode b_M_extend 204 = .ok (.invokevirtual 119, 3) := by decide +kernel
theorem d_M_extend_207 : decode b_M_extend 207 = .ok (.aload_n 0, 1) := by decide +kernel
theorem d_M_extend_208 : decode b_M_extend 208 = .ok (.getfield 108, 3) := by decide +kernel
theorem d_M_extend_211 : decode b_M_extend 211 = .ok (.ireturn, 1) := by decide +kernel
theorem d_M_include_0 : decode b_M_include 0 = .ok (.aload_n 0, 1) := by decide +kernel
theorem d_M_include_1 : decode b_M_include 1 = .ok (.getfield 69, 3) := by decide +kernel
theorem d_M_include_4 : decode b_M_include 4 = .ok (.ifCond .eq 6, 3) := by decide +kernel
theorem d_M_include_7 : decode b_M_include 7 = .ok (.bipush (-2), 2) := by decide +kernel
theorem d_M_include_9 : decode b_M_include 9 = .ok (.ireturn, 1) := by decide +kernel
theorem d_M_include_10 : decode b_M_include 10 = .ok (.iload_n 2, 1) := by decide +kernel
theorem d_M_include_11 : decode b_M_include 11 = .ok (.iconst 1, 1) := by decide +kernel
theorem d_M_include_12 : decode b_M_include 12 = .ok (.if_icmp .lt 20, 3) := by decide +kernel
theorem d_M_include_15 : decode b_M_include 15 = .ok (.iload_n 2, 1) := by decide +kernel
theorem d_M_include_16 : decode b_M_include 16 = .ok (.aload_n 0, 1) := by decide +kernel
theorem d_M_include_17 : decode b_M_include 17 = .ok (.invokevirtual 94, 3) := by decide +kernel
theorem d_M_include_20 : decode b_M_include 20 = .ok (.if_icmp .gt 12, 3) := by decide +kernel
theorem d_M_include_23 : decode b_M_include 23 = .ok (.iload_n 1, 1) := by decide +kernel
theorem d_M_include_24 : decode b_M_include 24 = .ok (.ifCond .lt 8, 3) := by decide +kernel
theorem d_M_include_27 : decode b_M_include 27 = .ok (.iload_n 1, 1) := by decide +kernel
theorem d_M_include_28 : decode b_M_include 28 = .ok (.iload_n 2, 1) := by decide +kernel
theorem d_M_include_29 : decode b_M_include 29 = .ok (.if_icmp .lt 5, 3) := by decide +kernel
theorem d_M_include_32 : decode b_M_include 32 = .ok (.iconst (-1), 1) := by decide +kernel
theorem d_M_include_33 : decode b_M_include 33 = .ok (.ireturn, 1) := by decide +kernel
theorem d_M_include_34 : decode b_M_include 34 = .ok (.aload_n 0, 1) := by decide +kernel
theorem d_M_include_35 : decode b_M_include 35 = .ok (.iconst 0, 1) := by decide +kernel
theorem d_M_include_36 : decode b_M_include 36 = .ok (.putfield 108, 3) := by decide +kernel
theorem d_M_include_39 : decode b_M_include 39 = .ok (.iconst 0, 1) := by decide +kernel
theorem d_M_include_40 : decode b_M_include 40 = .ok (.istore_n 3, 1) := by decide +kernel
theorem d_M_include_41 : decode b_M_include 41 = .ok (.iload_n 2, 1) := by decide +kernel
theorem d_M_include_42 : decode b_M_include 42 = .ok (.istore 4, 2) := by decide +kernel
theorem d_M_include_44 : decode b_M_include 44 = .ok (.iload_n 1, 1) := by decide +kernel
theorem d_M_include_45 : decode b_M_include 45 = .ok (.istore 5, 2) := by decide +kernel
theorem d_M_include_47 : decode b_M_include 47 = .ok (.iload 4, 2) := by decide +kernel
theorem d_M_include_49 : decode b_M_include 49 = .ok (.iconst 1, 1) := by decide +kernel
theorem d_M_include_50 : decode b_M_include 50 = .ok (.if_icmp .le 111, 3) := by decide +kernel
theorem d_M_include_53 : decode b_M_include 53 = .ok (.iload 4, 2) := by decide +kernel
theorem d_M_include_55 : decode b_M_include 55 = .ok (.invokestatic 111, 3) := by decide +kernel
theorem d_M_include_58 : decode b_M_include 58 = .ok (.istore 6, 2) := by decide +kernel
theorem d_M_include_60 : decode b_M_include 60 = .ok (.iload 5, 2) := by decide +kernel
theorem d_M_include_62 : decode b_M_include 62 = .ok (.iload 6, 2) := by decide +kernel
theorem d_M_include_64 : decode b_M_include 64 = .ok (.if_icmp .ge 7, 3) := by decide +kernel
theorem d_M_include_67 : decode b_M_include 67 = .ok (.iconst 1, 1) := by decide +kernel
theorem d_M_include_68 : decode b_M_include 68 = .ok (.goto 4, 3) := by decide +kernel
theorem d_M_include_71 : decode b_M_include 71 = .ok (.iconst 0, 1) := by decide +kernel
theorem d_M_include_72 : decode b_M_include 72 = .ok (.istore 7, 2) := by decide +kernel
theorem d_M_include_74 : decode b_M_include 74 = .ok (.iload 7, 2) := by decide +kernel
theorem d_M_include_76 : decode b_M_include 76 = .ok (.ifCond .eq 19, 3) := by decide +kernel
theorem d_M_include_79 : decode b_M_include 79 = .ok (.aload_n 0, 1) := by decide +kernel
theorem d_M_include_80 : decode b_M_include 80 = .ok (.iload_n 3, 1) := by decide +kernel
theorem d_M_include_81 : decode b_M_include 81 = .ok (.iload 6, 2) := by decide +kernel
theorem d_M_include_83 : decode b_M_include 83 = .ok (.iadd, 1) := by decide +kernel
theorem d_M_include_84 : decode b_M_include 84 = .ok (.iload 4, 2) := by decide +kernel
theorem d_M_include_86 : decode b_M_include 86 = .ok (.iload 6, 2) := by decide +kernel
theorem d_M_include_88 : decode b_M_include 88 = .ok (.isub, 1) := by decide +kernel
theorem d_M_include_89 : decode b_M_include 89 = .ok (.invokevirtual 75, 3) := by decide +kernel
theorem d_M_include_92 : decode b_M_include 92 = .ok (.goto 10, 3) := by decide +kernel
theorem d_M_include_95 : decode b_M_include 95 = .ok (.aload_n 0, 1) := by decide +kernel
theorem d_M_include_96 : decode b_M_include 96 = .ok (.iload_n 3, 1) := by decide +kernel
theorem d_M_include_97 : decode b_M_include 97 = .ok (.iload 6, 2) := by decide +kernel
theorem d_M_include_99 : decode b_M_include 99 = .ok (.invokevirtual 75, 3) := by decide +kernel
theorem d_M_include_102 : decode b_M_include 102 = .ok (.lstore 8, 2) := by decide +kernel
theorem d_M_include_104 : decode b_M_include 104 = .ok (.aload_n 0, 1) := by decide +kernel
theorem d_M_include_105 : decode b_M_include 105 = .ok (.lload 8, 2) := by decide +kernel
theorem d_M_include_107 : decode b_M_include 107 = .ok (.invokevirtual 115, 3) := by decide +kernel
theorem d_M_include_110 : decode b_M_include 110 = .ok (.iload 7, 2) := by decide +kernel
theorem d_M_include_112 : decode b_M_include 112 = .ok (.ifCond .eq 7, 3) := by decide +kernel
theorem d_M_include_115 : decode b_M_include 115 = .ok (.iload_n 3, 1) := by decide +kernel
theorem d_M_include_116 : decode b_M_include 116 = .ok (.goto 7, 3) := by decide +kernel
theorem d_M_include_119 : decode b_M_include 119 = .ok (.iload_n 3, 1) := by decide +kernel
theorem d_M_include_120 : decode b_M_include 120 = .ok (.iload 6, 2) := by decide +kernel
theorem d_M_include_122 : decode b_M_include 122 = .ok (.iadd, 1) := by decide +kernel
theorem d_M_include_123 : decode b_M_include 123 = .ok (.istore_n 3, 1) := by decide +kernel
theorem d_M_include_124 : decode b_M_include 124 = .ok (.iload 7, 2) := by decide +kernel
theorem d_M_include_126 : decode b_M_include 126 = .ok (.ifCond .eq 8, 3) := by decide +kernel
theorem d_M_include_129 : decode b_M_include 129 = .ok (.iload 5, 2) := by decide +kernel
theorem d_M_include_131 : decode b_M_include 131 = .ok (.goto 8, 3) := by decide +kernel
theorem d_M_include_134 : decode b_M_include 134 = .ok (.iload 5, 2) := by decide +kernel
theorem d_M_include_136 : decode b_M_include 136 = .ok (.iload 6, 2) := by decide +kernel
theorem d_M_include_138 : decode b_M_include 138 = .ok (.isub, 1) := by decide +kernel
theorem d_M_include_139 : decode b_M_include 139 = .ok (.istore 5, 2) := by decide +kernel
theorem d_M_include_141 : decode b_M_include 141 = .ok (.iload 7, 2) := by decide +kernel
theorem d_M_include_143 : decode b_M_include 143 = .ok (.ifCond .eq 8, 3) := by decide +kernel
theorem d_M_include_146 : decode b_M_include 146 = .ok (.iload 6, 2) := by decide +kernel
theorem d_M_include_148 : decode b_M_include 148 = .ok (.goto 8, 3) := by decide +kernel
theorem d_M_include_151 : decode b_M_include 151 = .ok (.iload 4, 2) := by decide +kernel
theorem d_M_include_153 : decode b_M_include 153 = .ok (.iload 6, 2) := by decide +kernel
theorem d_M_include_155 : decode b_M_include 155 = .ok (.isub, 1) := by decide +kernel
theorem d_M_include_156 : decode b_M_include 156 = .ok (.istore 4, 2) := by decide +kernel
theorem d_M_include_158 : decode b_M_include 158 = .ok (.goto (-111), 3) := by decide +kernel
theorem d_M_include_161 : decode b_M_include 161 = .ok (.aload_n 0, 1) := by decide +kernel
theorem d_M_include_162 : decode b_M_include 162 = .ok (.invokevirtual 119, 3) := by decide +kernel
theorem d_M_include_165 : decode b_M_include 165 = .ok (.aload_n 0, 1) := by decide +kernel
theorem d_M_include_166 : decode b_M_include 166 = .ok (.getfield 108, 3) := by decide +kernel
theorem d_M_include_169 : decode b_M_include 169 = .ok (.ireturn, 1) := by decide +kernel
theorem d_M_rootAt_0 : decode b_M_rootAt 0 = .ok (.iconst 0, 1) := by decide +kernel
theorem d_M_rootAt_1 : decode b_M_rootAt 1 = .ok (.istore_n 3, 1) := by decide +kernel
theorem d_M_rootAt_2 : decode b_M_rootAt 2 = .ok (.iload_n 3, 1) := by decide +kernel
theorem d_M_rootAt_3 : decode b_M_rootAt 3 = .ok (.bipush 8, 2) := by decide +kernel
theorem d_M_rootAt_5 : decode b_M_rootAt 5 = .ok (.if_icmp .ge 16, 3) := by decide +kernel
theorem d_M_rootAt_8 : decode b_M_rootAt 8 = .ok (.aload_n 0, 1) := by decide +kernel
theorem d_M_rootAt_9 : decode b_M_rootAt 9 = .ok (.getfield 42, 3) := by decide +kernel
theorem d_M_rootAt_12 : decode b_M_rootAt 12 = .ok (.iload_n 3, 1) := by decide +kernel
theorem d_M_rootAt_13 : decode b_M_rootAt 13 = .ok (.iconst 0, 1) := by decide +kernel
theorem d_M_rootAt_14 : decode b_M_rootAt 14 = .ok (.bastore, 1) := by decide +kernel
theorem d_M_rootAt_15 : decode b_M_rootAt 15 = .ok (.iinc 3 1, 3) := by decide +kernel
theorem d_M_rootAt_18 : decode b_M_rootAt 18 = .ok (.goto (-16), 3) := by decide +kernel
theorem d_M_rootAt_21 : decode b_M_rootAt 21 = .ok (.iload_n 1, 1) := by decide +kernel
theorem d_M_rootAt_22 : decode b_M_rootAt 22 = .ok (.istore_n 3, 1) := by decide +kernel
theorem d_M_rootAt_23 : decode b_M_rootAt 23 = .ok (.iload_n 3, 1) := by decide +kernel
theorem d_M_rootAt_24 : decode b_M_rootAt 24 = .ok (.iload_n 1, 1) := by decide +kernel
theorem d_M_rootAt_25 : decode b_M_rootAt 25 = .ok (.iload_n 2, 1) := by decide +kernel
theorem d_M_rootAt_26 : decode b_M_rootAt 26 = .ok (.iadd, 1) := by decide +kernel
theorem d_M_rootAt_27 : decode b_M_rootAt 27 = .ok (.if_icmp .ge 81, 3) := by decide +kernel
theorem d_M_rootAt_30 : decode b_M_rootAt 30 = .ok (.aload_n 0, 1) := by decide +kernel
theorem d_M_rootAt_31 : decode b_M_rootAt 31 = .ok (.getfield 7, 3) := by decide +kernel
theorem d_M_rootAt_34 : decode b_M_rootAt 34 = .ok (.iload_n 3, 1) := by decide +kernel
theorem d_M_rootAt_35 : decode b_M_rootAt 35 = .ok (.laload, 1) := by decide +kernel
theorem d_M_rootAt_36 : decode b_M_rootAt 36 = .ok (.invokestatic 58, 3) := by decide +kernel
theorem d_M_rootAt_39 : decode b_M_rootAt 39 = .ok (.lstore 4, 2) := by decide +kernel
theorem d_M_rootAt_41 : decode b_M_rootAt 41 = .ok (.iconst 0, 1) := by decide +kernel
theorem d_M_rootAt_42 : decode b_M_rootAt 42 = .ok (.istore 6, 2) := by decide +kernel
theorem d_M_rootAt_44 : decode b_M_rootAt 44 = .ok (.aload_n 0, 1) := by decide +kernel
theorem d_M_rootAt_45 : decode b_M_rootAt 45 = .ok (.getfield 42, 3) := by decide +kernel
theorem d_M_rootAt_48 : decode b_M_rootAt 48 = .ok (.iload 6, 2) := by decide +kernel
theorem d_M_rootAt_50 : decode b_M_rootAt 50 = .ok (.baload, 1) := by decide +kernel
theorem d_M_rootAt_51 : decode b_M_rootAt 51 = .ok (.ifCond .eq 34, 3) := by decide +kernel
theorem d_M_rootAt_54 : decode b_M_rootAt 54 = .ok (.aload_n 0, 1) := by decide +kernel
theorem d_M_rootAt_55 : decode b_M_rootAt 55 = .ok (.getfield 39, 3) := by decide +kernel
theorem d_M_rootAt_58 : decode b_M_rootAt 58 = .ok (.iload 6, 2) := by decide +kernel
theorem d_M_rootAt_60 : decode b_M_rootAt 60 = .ok (.laload, 1) := by decide +kernel
theorem d_M_rootAt_61 : decode b_M_rootAt 61 = .ok (.lload 4, 2) := by decide +kernel
theorem d_M_rootAt_63 : decode b_M_rootAt 63 = .ok (.invokestatic 62, 3) := by decide +kernel
theorem d_M_rootAt_66 : decode b_M_rootAt 66 = .ok (.lstore 4, 2) := by decide +kernel
theorem d_M_rootAt_68 : decode b_M_rootAt 68 = .ok (.aload_n 0, 1) := by decide +kernel
theorem d_M_rootAt_69 : decode b_M_rootAt 69 = .ok (.getfield 42, 3) := by decide +kernel
theorem d_M_rootAt_72 : decode b_M_rootAt 72 = .ok (.iload 6, 2) := by decide +kernel
theorem d_M_rootAt_74 : decode b_M_rootAt 74 = .ok (.iconst 0, 1) := by decide +kernel
theorem d_M_rootAt_75 : decode b_M_rootAt 75 = .ok (.bastore, 1) := by decide +kernel
theorem d_M_rootAt_76 : decode b_M_rootAt 76 = .ok (.iload 6, 2) := by decide +kernel
theorem d_M_rootAt_78 : decode b_M_rootAt 78 = .ok (.iconst 1, 1) := by decide +kernel
theorem d_M_rootAt_79 : decode b_M_rootAt 79 = .ok (.iadd, 1) := by decide +kernel
theorem d_M_rootAt_80 : decode b_M_rootAt 80 = .ok (.istore 6, 2) := by decide +kernel
theorem d_M_rootAt_82 : decode b_M_rootAt 82 = .ok (.goto (-38), 3) := by decide +kernel
theorem d_M_rootAt_85 : decode b_M_rootAt 85 = .ok (.aload_n 0, 1) := by decide +kernel
theorem d_M_rootAt_86 : decode b_M_rootAt 86 = .ok (.getfield 39, 3) := by decide +kernel
theorem d_M_rootAt_89 : decode b_M_rootAt 89 = .ok (.iload 6, 2) := by decide +kernel
theorem d_M_rootAt_91 : decode b_M_rootAt 91 = .ok (.lload 4, 2) := by decide +kernel
theorem d_M_rootAt_93 : decode b_M_rootAt 93 = .ok (.lastore, 1) := by decide +kernel
theorem d_M_rootAt_94 : decode b_M_rootAt 94 = .ok (.aload_n 0, 1) := by decide +kernel
theorem d_M_rootAt_95 : decode b_M_rootAt 95 = .ok (.getfield 42, 3) := by decide +kernel
theorem d_M_rootAt_98 : decode b_M_rootAt 98 = .ok (.iload 6, 2) := by decide +kernel
theorem d_M_rootAt_100 : decode b_M_rootAt 100 = .ok (.iconst 1, 1) := by decide +kernel
theorem d_M_rootAt_101 : decode b_M_rootAt 101 = .ok (.bastore, 1) := by decide +kernel
theorem d_M_rootAt_102 : decode b_M_rootAt 102 = .ok (.iinc 3 1, 3) := by decide +kernel
theorem d_M_rootAt_105 : decode b_M_rootAt 105 = .ok (.goto (-82), 3) := by decide +kernel
theorem d_M_rootAt_108 : decode b_M_rootAt 108 = .ok (.lconst 0, 1) := by decide +kernel
theorem d_M_rootAt_109 : decode b_M_rootAt 109 = .ok (.lstore_n 3, 1) := by decide +kernel
theorem d_M_rootAt_110 : decode b_M_rootAt 110 = .ok (.iconst 0, 1) := by decide +kernel
theorem d_M_rootAt_111 : decode b_M_rootAt 111 = .ok (.istore 5, 2) := by decide +kernel
theorem d_M_rootAt_113 : decode b_M_rootAt 113 = .ok (.iconst 0, 1) := by decide +kernel
theorem d_M_rootAt_114 : decode b_M_rootAt 114 = .ok (.istore 6, 2) := by decide +kernel
theorem d_M_rootAt_116 : decode b_M_rootAt 116 = .ok (.iload 6, 2) := by decide +kernel
theorem d_M_rootAt_118 : decode b_M_rootAt 118 = .ok (.bipush 8, 2) := by decide +kernel
theorem d_M_rootAt_120 : decode b_M_rootAt 120 = .ok (.if_icmp .ge 49, 3) := by decide +kernel
theorem d_M_rootAt_123 : decode b_M_rootAt 123 = .ok (.aload_n 0, 1) := by decide +kernel
theorem d_M_rootAt_124 : decode b_M_rootAt 124 = .ok (.getfield 42, 3) := by decide +kernel
theorem d_M_rootAt_127 : decode b_M_rootAt 127 = .ok (.iload 6, 2) := by decide +kernel
theorem d_M_rootAt_129 : decode b_M_rootAt 129 = .ok (.baload, 1) := by decide +kernel
theorem d_M_rootAt_130 : decode b_M_rootAt 130 = .ok (.ifCond .eq 33, 3) := by decide +kernel
theorem d_M_rootAt_133 : decode b_M_rootAt 133 = .ok (.iload 5, 2) := by decide +kernel
theorem d_M_rootAt_135 : decode b_M_rootAt 135 = .ok (.ifCond .eq 17, 3) := by decide +kernel
theorem d_M_rootAt_138 : decode b_M_rootAt 138 = .ok (.aload_n 0, 1) := by decide +kernel
theorem d_M_rootAt_139 : decode b_M_rootAt 139 = .ok (.getfield 39, 3) := by decide +kernel
theorem d_M_rootAt_142 : decode b_M_rootAt 142 = .ok (.iload 6, 2) := by decide +kernel
theorem d_M_rootAt_144 : decode b_M_rootAt 144 = .ok (.laload, 1) := by decide +kernel
theorem d_M_rootAt_145 : decode b_M_rootAt 145 = .ok (.lload_n 3, 1) := by decide +kernel
theorem d_M_rootAt_146 : decode b_M_rootAt 146 = .ok (.invokestatic 62, 3) := by decide +kernel
theorem d_M_rootAt_149 : decode b_M_rootAt 149 = .ok (.goto 10, 3) := by decide +kernel
theorem d_M_rootAt_152 : decode b_M_rootAt 152 = .ok (.aload_n 0, 1) := by decide +kernel
theorem d_M_rootAt_153 : decode b_M_rootAt 153 = .ok (.getfield 39, 3) := by decide +kernel
theorem d_M_rootAt_156 : decode b_M_rootAt 156 = .ok (.iload 6, 2) := by decide +kernel
theorem d_M_rootAt_158 : decode b_M_rootAt 158 = .ok (.laload, 1) := by decide +kernel
theorem d_M_rootAt_159 : decode b_M_rootAt 159 = .ok (.lstore_n 3, 1) := by decide +kernel
theorem d_M_rootAt_160 : decode b_M_rootAt 160 = .ok (.iconst 1, 1) := by decide +kernel
theorem d_M_rootAt_161 : decode b_M_rootAt 161 = .ok (.istore 5, 2) := by decide +kernel
theorem d_M_rootAt_163 : decode b_M_rootAt 163 = .ok (.iinc 6 1, 3) := by decide +kernel
theorem d_M_rootAt_166 : decode b_M_rootAt 166 = .ok (.goto (-50), 3) := by decide +kernel
theorem d_M_rootAt_169 : decode b_M_rootAt 169 = .ok (.lload_n 3, 1) := by decide +kernel
theorem d_M_rootAt_170 : decode b_M_rootAt 170 = .ok (.lreturn, 1) := by decide +kernel
theorem d_M_shows_0 : decode b_M_shows 0 = .ok (.iload 4, 2) := by decide +kernel
theorem d_M_shows_2 : decode b_M_shows 2 = .ok (.iconst 1, 1) := by decide +kernel
theorem d_M_shows_3 : decode b_M_shows 3 = .ok (.if_icmp .lt 20, 3) := by decide +kernel
theorem d_M_shows_6 : decode b_M_shows 6 = .ok (.iload 4, 2) := by decide +kernel
theorem d_M_shows_8 : decode b_M_shows 8 = .ok (.ldc 125, 2) := by decide +kernel
theorem d_M_shows_10 : decode b_M_shows 10 = .ok (.if_icmp .gt 13, 3) := by decide +kernel
theorem d_M_shows_13 : decode b_M_shows 13 = .ok (.iload_n 3, 1) := by decide +kernel
theorem d_M_shows_14 : decode b_M_shows 14 = .ok (.ifCond .lt 9, 3) := by decide +kernel
theorem d_M_shows_17 : decode b_M_shows 17 = .ok (.iload_n 3, 1) := by decide +kernel
theorem d_M_shows_18 : decode b_M_shows 18 = .ok (.iload 4, 2) := by decide +kernel
theorem d_M_shows_20 : decode b_M_shows 20 = .ok (.if_icmp .lt 5, 3) := by decide +kernel
theorem d_M_shows_23 : decode b_M_shows 23 = .ok (.iconst 0, 1) := by decide +kernel
theorem d_M_shows_24 : decode b_M_shows 24 = .ok (.ireturn, 1) := by decide +kernel
theorem d_M_shows_25 : decode b_M_shows 25 = .ok (.iload_n 3, 1) := by decide +kernel
theorem d_M_shows_26 : decode b_M_shows 26 = .ok (.istore 7, 2) := by decide +kernel
theorem d_M_shows_28 : decode b_M_shows 28 = .ok (.iload 4, 2) := by decide +kernel
theorem d_M_shows_30 : decode b_M_shows 30 = .ok (.iconst 1, 1) := by decide +kernel
theorem d_M_shows_31 : decode b_M_shows 31 = .ok (.isub, 1) := by decide +kernel
theorem d_M_shows_32 : decode b_M_shows 32 = .ok (.istore 8, 2) := by decide +kernel
theorem d_M_shows_34 : decode b_M_shows 34 = .ok (.lload_n 1, 1) := by decide +kernel
theorem d_M_shows_35 : decode b_M_shows 35 = .ok (.invokestatic 58, 3) := by decide +kernel
theorem d_M_shows_38 : decode b_M_shows 38 = .ok (.lstore 9, 2) := by decide +kernel
theorem d_M_shows_40 : decode b_M_shows 40 = .ok (.iconst 0, 1) := by decide +kernel
theorem d_M_shows_41 : decode b_M_shows 41 = .ok (.istore 11, 2) := by decide +kernel
theorem d_M_shows_43 : decode b_M_shows 43 = .ok (.iload 11, 2) := by decide +kernel
theorem d_M_shows_45 : decode b_M_shows 45 = .ok (.aload_n 0, 1) := by decide +kernel
theorem d_M_shows_46 : decode b_M_shows 46 = .ok (.getfield 122, 3) := by decide +kernel
theorem d_M_shows_49 : decode b_M_shows 49 = .ok (.if_icmp .ge 95, 3) := by decide +kernel
theorem d_M_shows_52 : decode b_M_shows 52 = .ok (.iload 8, 2) := by decide +kernel
theorem d_M_shows_54 : decode b_M_shows 54 = .ok (.ifCond .ne 5, 3) := by decide +kernel
theorem d_M_shows_57 : decode b_M_shows 57 = .ok (.iconst 0, 1) := by decide +kernel
theorem d_M_shows_58 : decode b_M_shows 58 = .ok (.ireturn, 1) := by decide +kernel
theorem d_M_shows_59 : decode b_M_shows 59 = .ok (.iload 7, 2) := by decide +kernel
theorem d_M_shows_61 : decode b_M_shows 61 = .ok (.iconst 1, 1) := by decide +kernel
theorem d_M_shows_62 : decode b_M_shows 62 = .ok (.iand, 1) := by decide +kernel
theorem d_M_shows_63 : decode b_M_shows 63 = .ok (.iconst 1, 1) := by decide +kernel
theorem d_M_shows_64 : decode b_M_shows 64 = .ok (.if_icmp .eq 10, 3) := by decide +kernel
theorem d_M_shows_67 : decode b_M_shows 67 = .ok (.iload 7, 2) := by decide +kernel
theorem d_M_shows_69 : decode b_M_shows 69 = .ok (.iload 8, 2) := by decide +kernel
theorem d_M_shows_71 : decode b_M_shows 71 = .ok (.if_icmp .ne 41, 3) := by decide +kernel
theorem d_M_shows_74 : decode b_M_shows 74 = .ok (.aload_n 0, 1) := by decide +kernel
theorem d_M_shows_75 : decode b_M_shows 75 = .ok (.getfield 33, 3) := by decide +kernel
theorem d_M_shows_78 : decode b_M_shows 78 = .ok (.iload 11, 2) := by decide +kernel
theorem d_M_shows_80 : decode b_M_shows 80 = .ok (.laload, 1) := by decide +kernel
theorem d_M_shows_81 : decode b_M_shows 81 = .ok (.lload 9, 2) := by decide +kernel
theorem d_M_shows_83 : decode b_M_shows 83 = .ok (.invokestatic 62, 3) := by decide +kernel
theorem d_M_shows_86 : decode b_M_shows 86 = .ok (.lstore 9, 2) := by decide +kernel
theorem d_M_shows_88 : decode b_M_shows 88 = .ok (.iload 7, 2) := by decide +kernel
theorem d_M_shows_90 : decode b_M_shows 90 = .ok (.invokestatic 126, 3) := by decide +kernel
theorem d_M_shows_93 : decode b_M_shows 93 = .ok (.istore 12, 2) := by decide +kernel
theorem d_M_shows_95 : decode b_M_shows 95 = .ok (.iload 7, 2) := by decide +kernel
theorem d_M_shows_97 : decode b_M_shows 97 = .ok (.iload 12, 2) := by decide +kernel
theorem d_M_shows_99 : decode b_M_shows 99 = .ok (.ishr, 1) := by decide +kernel
theorem d_M_shows_100 : decode b_M_shows 100 = .ok (.istore 7, 2) := by decide +kernel
theorem d_M_shows_102 : decode b_M_shows 102 = .ok (.iload 8, 2) := by decide +kernel
theorem d_M_shows_104 : decode b_M_shows 104 = .ok (.iload 12, 2) := by decide +kernel
theorem d_M_shows_106 : decode b_M_shows 106 = .ok (.ishr, 1) := by decide +kernel
theorem d_M_shows_107 : decode b_M_shows 107 = .ok (.istore 8, 2) := by decide +kernel
theorem d_M_shows_109 : decode b_M_shows 109 = .ok (.goto 17, 3) := by decide +kernel
theorem d_M_shows_112 : decode b_M_shows 112 = .ok (.lload 9, 2) := by decide +kernel
theorem d_M_shows_114 : decode b_M_shows 114 = .ok (.aload_n 0, 1) := by decide +kernel
theorem d_M_shows_115 : decode b_M_shows 115 = .ok (.getfield 33, 3) := by decide +kernel
theorem d_M_shows_118 : decode b_M_shows 118 = .ok (.iload 11, 2) := by decide +kernel
theorem d_M_shows_120 : decode b_M_shows 120 = .ok (.laload, 1) := by decide +kernel
theorem d_M_shows_121 : decode b_M_shows 121 = .ok (.invokestatic 62, 3) := by decide +kernel
theorem d_M_shows_124 : decode b_M_shows 124 = .ok (.lstore 9, 2) := by decide +kernel
theorem d_M_shows_126 : decode b_M_shows 126 = .ok (.iload 7, 2) := by decide +kernel
theorem d_M_shows_128 : decode b_M_shows 128 = .ok (.iconst 1, 1) := by decide +kernel
theorem d_M_shows_129 : decode b_M_shows 129 = .ok (.ishr, 1) := by decide +kernel
theorem d_M_shows_130 : decode b_M_shows 130 = .ok (.istore 7, 2) := by decide +kernel
theorem d_M_shows_132 : decode b_M_shows 132 = .ok (.iload 8, 2) := by decide +kernel
theorem d_M_shows_134 : decode b_M_shows 134 = .ok (.iconst 1, 1) := by decide +kernel
theorem d_M_shows_135 : decode b_M_shows 135 = .ok (.ishr, 1) := by decide +kernel
theorem d_M_shows_136 : decode b_M_shows 136 = .ok (.istore 8, 2) := by decide +kernel
theorem d_M_shows_138 : decode b_M_shows 138 = .ok (.iinc 11 1, 3) := by decide +kernel
theorem d_M_shows_141 : decode b_M_shows 141 = .ok (.goto (-98), 3) := by decide +kernel
theorem d_M_shows_144 : decode b_M_shows 144 = .ok (.iload 8, 2) := by decide +kernel
theorem d_M_shows_146 : decode b_M_shows 146 = .ok (.ifCond .ne 15, 3) := by decide +kernel
theorem d_M_shows_149 : decode b_M_shows 149 = .ok (.lload 9, 2) := by decide +kernel
theorem d_M_shows_151 : decode b_M_shows 151 = .ok (.lload 5, 2) := by decide +kernel
theorem d_M_shows_153 : decode b_M_shows 153 = .ok (.lcmp, 1) := by decide +kernel
theorem d_M_shows_154 : decode b_M_shows 154 = .ok (.ifCond .ne 7, 3) := by decide +kernel
theorem d_M_shows_157 : decode b_M_shows 157 = .ok (.iconst 1, 1) := by decide +kernel
theorem d_M_shows_158 : decode b_M_shows 158 = .ok (.goto 4, 3) := by decide +kernel
theorem d_M_shows_161 : decode b_M_shows 161 = .ok (.iconst 0, 1) := by decide +kernel
theorem d_M_shows_162 : decode b_M_shows 162 = .ok (.ireturn, 1) := by decide +kernel
