theorem dX7_project_43 : decode cX7_project 43 = .ok (.getfield 110, 3) := by decide +kernel
theorem dX7_project_46 : decode cX7_project 46 = .ok (.iload_n 3, 1) := by decide +kernel
theorem dX7_project_47 : decode cX7_project 47 = .ok (.if_icmp .ge 199, 3) := by decide +kernel
theorem dX7_project_50 : decode cX7_project 50 = .ok (.lload 8, 2) := by decide +kernel
theorem dX7_project_52 : decode cX7_project 52 = .ok (.lload 4, 2) := by decide +kernel
theorem dX7_project_54 : decode cX7_project 54 = .ok (.aload_n 0, 1) := by decide +kernel
theorem dX7_project_55 : decode cX7_project 55 = .ok (.getfield 62, 3) := by decide +kernel
theorem dX7_project_58 : decode cX7_project 58 = .ok (.i2l, 1) := by decide +kernel
theorem dX7_project_59 : decode cX7_project 59 = .ok (.lmul, 1) := by decide +kernel
theorem dX7_project_60 : decode cX7_project 60 = .ok (.aload_n 0, 1) := by decide +kernel
theorem dX7_project_61 : decode cX7_project 61 = .ok (.getfield 15, 3) := by decide +kernel
theorem dX7_project_64 : decode cX7_project 64 = .ok (.iload 10, 2) := by decide +kernel
theorem dX7_project_66 : decode cX7_project 66 = .ok (.iaload, 1) := by decide +kernel
theorem dX7_project_67 : decode cX7_project 67 = .ok (.i2l, 1) := by decide +kernel
theorem dX7_project_68 : decode cX7_project 68 = .ok (.lmul, 1) := by decide +kernel
theorem dX7_project_69 : decode cX7_project 69 = .ok (.ladd, 1) := by decide +kernel
theorem dX7_project_70 : decode cX7_project 70 = .ok (.lstore 8, 2) := by decide +kernel
theorem dX7_project_72 : decode cX7_project 72 = .ok (.lload 8, 2) := by decide +kernel
theorem dX7_project_74 : decode cX7_project 74 = .ok (.aload_n 0, 1) := by decide +kernel
theorem dX7_project_75 : decode cX7_project 75 = .ok (.getfield 66, 3) := by decide +kernel
theorem dX7_project_78 : decode cX7_project 78 = .ok (.invokestatic 113, 3) := by decide +kernel
theorem dX7_project_81 : decode cX7_project 81 = .ok (.lstore 11, 2) := by decide +kernel
theorem dX7_project_83 : decode cX7_project 83 = .ok (.lload 8, 2) := by decide +kernel
theorem dX7_project_85 : decode cX7_project 85 = .ok (.lload 11, 2) := by decide +kernel
theorem dX7_project_87 : decode cX7_project 87 = .ok (.aload_n 0, 1) := by decide +kernel
theorem dX7_project_88 : decode cX7_project 88 = .ok (.getfield 66, 3) := by decide +kernel
theorem dX7_project_91 : decode cX7_project 91 = .ok (.invokestatic 119, 3) := by decide +kernel
theorem dX7_project_94 : decode cX7_project 94 = .ok (.lsub, 1) := by decide +kernel
theorem dX7_project_95 : decode cX7_project 95 = .ok (.lstore 8, 2) := by decide +kernel
theorem dX7_project_97 : decode cX7_project 97 = .ok (.lload 6, 2) := by decide +kernel
theorem dX7_project_99 : decode cX7_project 99 = .ok (.lload 11, 2) := by decide +kernel
theorem dX7_project_101 : decode cX7_project 101 = .ok (.ladd, 1) := by decide +kernel
theorem dX7_project_102 : decode cX7_project 102 = .ok (.lstore 6, 2) := by decide +kernel
theorem dX7_project_104 : decode cX7_project 104 = .ok (.iload 10, 2) := by decide +kernel
theorem dX7_project_106 : decode cX7_project 106 = .ok (.bipush 24, 2) := by decide +kernel
theorem dX7_project_108 : decode cX7_project 108 = .ok (.if_icmp .ge 35, 3) := by decide +kernel
theorem dX7_project_111 : decode cX7_project 111 = .ok (.aload_n 0, 1) := by decide +kernel
theorem dX7_project_112 : decode cX7_project 112 = .ok (.getfield 70, 3) := by decide +kernel
theorem dX7_project_115 : decode cX7_project 115 = .ok (.iload 10, 2) := by decide +kernel
theorem dX7_project_117 : decode cX7_project 117 = .ok (.ishr, 1) := by decide +kernel
theorem dX7_project_118 : decode cX7_project 118 = .ok (.iconst 1, 1) := by decide +kernel
theorem dX7_project_119 : decode cX7_project 119 = .ok (.iand, 1) := by decide +kernel
theorem dX7_project_120 : decode cX7_project 120 = .ok (.ifCond .eq 23, 3) := by decide +kernel
theorem dX7_project_123 : decode cX7_project 123 = .ok (.aload_n 0, 1) := by decide +kernel
theorem dX7_project_124 : decode cX7_project 124 = .ok (.getfield 74, 3) := by decide +kernel
theorem dX7_project_127 : decode cX7_project 127 = .ok (.ifCond .eq 113, 3) := by decide +kernel
theorem dX7_project_130 : decode cX7_project 130 = .ok (.lload 4, 2) := by decide +kernel
theorem dX7_project_132 : decode cX7_project 132 = .ok (.lload 6, 2) := by decide +kernel
theorem dX7_project_134 : decode cX7_project 134 = .ok (.ladd, 1) := by decide +kernel
theorem dX7_project_135 : decode cX7_project 135 = .ok (.lstore 4, 2) := by decide +kernel
theorem dX7_project_137 : decode cX7_project 137 = .ok (.lconst 0, 1) := by decide +kernel
theorem dX7_project_138 : decode cX7_project 138 = .ok (.lstore 6, 2) := by decide +kernel
theorem dX7_project_140 : decode cX7_project 140 = .ok (.goto 100, 3) := by decide +kernel
theorem dX7_project_143 : decode cX7_project 143 = .ok (.aload_n 0, 1) := by decide +kernel
theorem dX7_project_144 : decode cX7_project 144 = .ok (.getfield 110, 3) := by decide +kernel
theorem dX7_project_147 : decode cX7_project 147 = .ok (.iload_n 3, 1) := by decide +kernel
theorem dX7_project_148 : decode cX7_project 148 = .ok (.iconst 1, 1) := by decide +kernel
theorem dX7_project_149 : decode cX7_project 149 = .ok (.isub, 1) := by decide +kernel
theorem dX7_project_150 : decode cX7_project 150 = .ok (.if_icmp .eq 13, 3) := by decide +kernel
theorem dX7_project_153 : decode cX7_project 153 = .ok (.lload_n 1, 1) := by decide +kernel
theorem dX7_project_154 : decode cX7_project 154 = .ok (.lload 4, 2) := by decide +kernel
theorem dX7_project_156 : decode cX7_project 156 = .ok (.lload 6, 2) := by decide +kernel
theorem dX7_project_158 : decode cX7_project 158 = .ok (.ladd, 1) := by decide +kernel
theorem dX7_project_159 : decode cX7_project 159 = .ok (.lcmp, 1) := by decide +kernel
theorem dX7_project_160 : decode cX7_project 160 = .ok (.ifCond .lt 7, 3) := by decide +kernel
theorem dX7_project_163 : decode cX7_project 163 = .ok (.iconst 1, 1) := by decide +kernel
theorem dX7_project_164 : decode cX7_project 164 = .ok (.goto 4, 3) := by decide +kernel
theorem dX7_project_167 : decode cX7_project 167 = .ok (.iconst 0, 1) := by decide +kernel
theorem dX7_project_168 : decode cX7_project 168 = .ok (.istore 13, 2) := by decide +kernel
theorem dX7_project_170 : decode cX7_project 170 = .ok (.iload 13, 2) := by decide +kernel
theorem dX7_project_172 : decode cX7_project 172 = .ok (.ifCond .eq 11, 3) := by decide +kernel
theorem dX7_project_175 : decode cX7_project 175 = .ok (.lload 4, 2) := by decide +kernel
theorem dX7_project_177 : decode cX7_project 177 = .ok (.lload 6, 2) := by decide +kernel
theorem dX7_project_179 : decode cX7_project 179 = .ok (.ladd, 1) := by decide +kernel
theorem dX7_project_180 : decode cX7_project 180 = .ok (.goto 4, 3) := by decide +kernel
theorem dX7_project_183 : decode cX7_project 183 = .ok (.lload_n 1, 1) := by decide +kernel
theorem dX7_project_184 : decode cX7_project 184 = .ok (.lstore 14, 2) := by decide +kernel
theorem dX7_project_186 : decode cX7_project 186 = .ok (.lload 14, 2) := by decide +kernel
theorem dX7_project_188 : decode cX7_project 188 = .ok (.lload 6, 2) := by decide +kernel
theorem dX7_project_190 : decode cX7_project 190 = .ok (.invokestatic 122, 3) := by decide +kernel
theorem dX7_project_193 : decode cX7_project 193 = .ok (.lstore 16, 2) := by decide +kernel
theorem dX7_project_195 : decode cX7_project 195 = .ok (.lload 6, 2) := by decide +kernel
theorem dX7_project_197 : decode cX7_project 197 = .ok (.lload 16, 2) := by decide +kernel
theorem dX7_project_199 : decode cX7_project 199 = .ok (.lsub, 1) := by decide +kernel
theorem dX7_project_200 : decode cX7_project 200 = .ok (.lstore 6, 2) := by decide +kernel
theorem dX7_project_202 : decode cX7_project 202 = .ok (.lload 4, 2) := by decide +kernel
theorem dX7_project_204 : decode cX7_project 204 = .ok (.lload 14, 2) := by decide +kernel
theorem dX7_project_206 : decode cX7_project 206 = .ok (.lload 16, 2) := by decide +kernel
theorem dX7_project_208 : decode cX7_project 208 = .ok (.lsub, 1) := by decide +kernel
theorem dX7_project_209 : decode cX7_project 209 = .ok (.lsub, 1) := by decide +kernel
theorem dX7_project_210 : decode cX7_project 210 = .ok (.lstore 4, 2) := by decide +kernel
theorem dX7_project_212 : decode cX7_project 212 = .ok (.aload_n 0, 1) := by decide +kernel
theorem dX7_project_213 : decode cX7_project 213 = .ok (.aload_n 0, 1) := by decide +kernel
theorem dX7_project_214 : decode cX7_project 214 = .ok (.getfield 11, 3) := by decide +kernel
theorem dX7_project_217 : decode cX7_project 217 = .ok (.iload 10, 2) := by decide +kernel
theorem dX7_project_219 : decode cX7_project 219 = .ok (.iaload, 1) := by decide +kernel
theorem dX7_project_220 : decode cX7_project 220 = .ok (.lload 14, 2) := by decide +kernel
theorem dX7_project_222 : decode cX7_project 222 = .ok (.lload 16, 2) := by decide +kernel
theorem dX7_project_224 : decode cX7_project 224 = .ok (.lload 4, 2) := by decide +kernel
theorem dX7_project_226 : decode cX7_project 226 = .ok (.lload 6, 2) := by decide +kernel
theorem dX7_project_228 : decode cX7_project 228 = .ok (.ladd, 1) := by decide +kernel
theorem dX7_project_229 : decode cX7_project 229 = .ok (.invokevirtual 125, 3) := by decide +kernel
theorem dX7_project_232 : decode cX7_project 232 = .ok (.iload 13, 2) := by decide +kernel
theorem dX7_project_234 : decode cX7_project 234 = .ok (.ifCond .eq 6, 3) := by decide +kernel
theorem dX7_project_237 : decode cX7_project 237 = .ok (.goto 9, 3) := by decide +kernel
theorem dX7_project_240 : decode cX7_project 240 = .ok (.iinc 10 1, 3) := by decide +kernel
theorem dX7_project_243 : decode cX7_project 243 = .ok (.goto (-217), 3) := by decide +kernel
theorem dX7_project_246 : decode cX7_project 246 = .ok (.return_, 1) := by decide +kernel
theorem dX7_keepPayment_0 : decode cX7_keepPayment 0 = .ok (.aload_n 0, 1) := by decide +kernel
theorem dX7_keepPayment_1 : decode cX7_keepPayment 1 = .ok (.getfield 110, 3) := by decide +kernel
theorem dX7_keepPayment_4 : decode cX7_keepPayment 4 = .ok (.ifCond .lt 64, 3) := by decide +kernel
theorem dX7_keepPayment_7 : decode cX7_keepPayment 7 = .ok (.aload_n 0, 1) := by decide +kernel
theorem dX7_keepPayment_8 : decode cX7_keepPayment 8 = .ok (.getfield 110, 3) := by decide +kernel
theorem dX7_keepPayment_11 : decode cX7_keepPayment 11 = .ok (.bipush 60, 2) := by decide +kernel
theorem dX7_keepPayment_13 : decode cX7_keepPayment 13 = .ok (.if_icmp .ge 55, 3) := by decide +kernel
theorem dX7_keepPayment_16 : decode cX7_keepPayment 16 = .ok (.aload_n 0, 1) := by decide +kernel
theorem dX7_keepPayment_17 : decode cX7_keepPayment 17 = .ok (.getfield 18, 3) := by decide +kernel
theorem dX7_keepPayment_20 : decode cX7_keepPayment 20 = .ok (.aload_n 0, 1) := by decide +kernel
theorem dX7_keepPayment_21 : decode cX7_keepPayment 21 = .ok (.getfield 110, 3) := by decide +kernel
theorem dX7_keepPayment_24 : decode cX7_keepPayment 24 = .ok (.iload_n 1, 1) := by decide +kernel
theorem dX7_keepPayment_25 : decode cX7_keepPayment 25 = .ok (.iastore, 1) := by decide +kernel
theorem dX7_keepPayment_26 : decode cX7_keepPayment 26 = .ok (.aload_n 0, 1) := by decide +kernel
theorem dX7_keepPayment_27 : decode cX7_keepPayment 27 = .ok (.getfield 21, 3) := by decide +kernel
theorem dX7_keepPayment_30 : decode cX7_keepPayment 30 = .ok (.aload_n 0, 1) := by decide +kernel
theorem dX7_keepPayment_31 : decode cX7_keepPayment 31 = .ok (.getfield 110, 3) := by decide +kernel
theorem dX7_keepPayment_34 : decode cX7_keepPayment 34 = .ok (.lload_n 2, 1) := by decide +kernel
theorem dX7_keepPayment_35 : decode cX7_keepPayment 35 = .ok (.lastore, 1) := by decide +kernel
theorem dX7_keepPayment_36 : decode cX7_keepPayment 36 = .ok (.aload_n 0, 1) := by decide +kernel
theorem dX7_keepPayment_37 : decode cX7_keepPayment 37 = .ok (.getfield 25, 3) := by decide +kernel
theorem dX7_keepPayment_40 : decode cX7_keepPayment 40 = .ok (.aload_n 0, 1) := by decide +kernel
theorem dX7_keepPayment_41 : decode cX7_keepPayment 41 = .ok (.getfield 110, 3) := by decide +kernel
theorem dX7_keepPayment_44 : decode cX7_keepPayment 44 = .ok (.lload 4, 2) := by decide +kernel
theorem dX7_keepPayment_46 : decode cX7_keepPayment 46 = .ok (.lastore, 1) := by decide +kernel
theorem dX7_keepPayment_47 : decode cX7_keepPayment 47 = .ok (.aload_n 0, 1) := by decide +kernel
theorem dX7_keepPayment_48 : decode cX7_keepPayment 48 = .ok (.getfield 28, 3) := by decide +kernel
theorem dX7_keepPayment_51 : decode cX7_keepPayment 51 = .ok (.aload_n 0, 1) := by decide +kernel
theorem dX7_keepPayment_52 : decode cX7_keepPayment 52 = .ok (.getfield 110, 3) := by decide +kernel
theorem dX7_keepPayment_55 : decode cX7_keepPayment 55 = .ok (.lload 6, 2) := by decide +kernel
theorem dX7_keepPayment_57 : decode cX7_keepPayment 57 = .ok (.lastore, 1) := by decide +kernel
theorem dX7_keepPayment_58 : decode cX7_keepPayment 58 = .ok (.aload_n 0, 1) := by decide +kernel
theorem dX7_keepPayment_59 : decode cX7_keepPayment 59 = .ok (.dup, 1) := by decide +kernel
theorem dX7_keepPayment_60 : decode cX7_keepPayment 60 = .ok (.getfield 110, 3) := by decide +kernel
theorem dX7_keepPayment_63 : decode cX7_keepPayment 63 = .ok (.iconst 1, 1) := by decide +kernel
theorem dX7_keepPayment_64 : decode cX7_keepPayment 64 = .ok (.iadd, 1) := by decide +kernel
theorem dX7_keepPayment_65 : decode cX7_keepPayment 65 = .ok (.putfield 110, 3) := by decide +kernel
theorem dX7_keepPayment_68 : decode cX7_keepPayment 68 = .ok (.return_, 1) := by decide +kernel
theorem dX7_lastAmount_0 : decode cX7_lastAmount 0 = .ok (.aload_n 0, 1) := by decide +kernel
theorem dX7_lastAmount_1 : decode cX7_lastAmount 1 = .ok (.aload_n 0, 1) := by decide +kernel
theorem dX7_lastAmount_2 : decode cX7_lastAmount 2 = .ok (.getfield 110, 3) := by decide +kernel
theorem dX7_lastAmount_5 : decode cX7_lastAmount 5 = .ok (.iconst 1, 1) := by decide +kernel
theorem dX7_lastAmount_6 : decode cX7_lastAmount 6 = .ok (.isub, 1) := by decide +kernel
theorem dX7_lastAmount_7 : decode cX7_lastAmount 7 = .ok (.invokevirtual 129, 3) := by decide +kernel
theorem dX7_lastAmount_10 : decode cX7_lastAmount 10 = .ok (.ifCond .eq 17, 3) := by decide +kernel
theorem dX7_lastAmount_13 : decode cX7_lastAmount 13 = .ok (.aload_n 0, 1) := by decide +kernel
theorem dX7_lastAmount_14 : decode cX7_lastAmount 14 = .ok (.getfield 21, 3) := by decide +kernel
theorem dX7_lastAmount_17 : decode cX7_lastAmount 17 = .ok (.aload_n 0, 1) := by decide +kernel
theorem dX7_lastAmount_18 : decode cX7_lastAmount 18 = .ok (.getfield 110, 3) := by decide +kernel
theorem dX7_lastAmount_21 : decode cX7_lastAmount 21 = .ok (.iconst 1, 1) := by decide +kernel
theorem dX7_lastAmount_22 : decode cX7_lastAmount 22 = .ok (.isub, 1) := by decide +kernel
theorem dX7_lastAmount_23 : decode cX7_lastAmount 23 = .ok (.laload, 1) := by decide +kernel
theorem dX7_lastAmount_24 : decode cX7_lastAmount 24 = .ok (.goto 4, 3) := by decide +kernel
theorem dX7_lastAmount_27 : decode cX7_lastAmount 27 = .ok (.lconst 0, 1) := by decide +kernel
theorem dX7_lastAmount_28 : decode cX7_lastAmount 28 = .ok (.lreturn, 1) := by decide +kernel
theorem dX7_leastInstallment_0 : decode cX7_leastInstallment 0 = .ok (.iload_n 1, 1) := by decide +kernel
theorem dX7_leastInstallment_1 : decode cX7_leastInstallment 1 = .ok (.iconst 1, 1) := by decide +kernel
theorem dX7_leastInstallment_2 : decode cX7_leastInstallment 2 = .ok (.if_icmp .ge 5, 3) := by decide +kernel
theorem dX7_leastInstallment_5 : decode cX7_leastInstallment 5 = .ok (.lconst 1, 1) := by decide +kernel
theorem dX7_leastInstallment_6 : decode cX7_leastInstallment 6 = .ok (.lreturn, 1) := by decide +kernel
theorem dX7_leastInstallment_7 : decode cX7_leastInstallment 7 = .ok (.aload_n 0, 1) := by decide +kernel
theorem dX7_leastInstallment_8 : decode cX7_leastInstallment 8 = .ok (.lconst 0, 1) := by decide +kernel
theorem dX7_leastInstallment_9 : decode cX7_leastInstallment 9 = .ok (.iload_n 1, 1) := by decide +kernel
theorem dX7_leastInstallment_10 : decode cX7_leastInstallment 10 = .ok (.invokevirtual 133, 3) := by decide +kernel
theorem dX7_leastInstallment_13 : decode cX7_leastInstallment 13 = .ok (.lconst 1, 1) := by decide +kernel
theorem dX7_leastInstallment_14 : decode cX7_leastInstallment 14 = .ok (.aload_n 0, 1) := by decide +kernel
theorem dX7_leastInstallment_15 : decode cX7_leastInstallment 15 = .ok (.getfield 43, 3) := by decide +kernel
theorem dX7_leastInstallment_18 : decode cX7_leastInstallment 18 = .ok (.aload_n 0, 1) := by decide +kernel
theorem dX7_leastInstallment_19 : decode cX7_leastInstallment 19 = .ok (.getfield 49, 3) := by decide +kernel
theorem dX7_leastInstallment_22 : decode cX7_leastInstallment 22 = .ok (.ladd, 1) := by decide +kernel
theorem dX7_leastInstallment_23 : decode cX7_leastInstallment 23 = .ok (.iload_n 1, 1) := by decide +kernel
theorem dX7_leastInstallment_24 : decode cX7_leastInstallment 24 = .ok (.invokestatic 137, 3) := by decide +kernel
theorem dX7_leastInstallment_27 : decode cX7_leastInstallment 27 = .ok (.invokestatic 140, 3) := by decide +kernel
theorem dX7_leastInstallment_30 : decode cX7_leastInstallment 30 = .ok (.lstore_n 2, 1) := by decide +kernel
theorem dX7_leastInstallment_31 : decode cX7_leastInstallment 31 = .ok (.lload_n 2, 1) := by decide +kernel
theorem dX7_leastInstallment_32 : decode cX7_leastInstallment 32 = .ok (.aload_n 0, 1) := by decide +kernel
theorem dX7_leastInstallment_33 : decode cX7_leastInstallment 33 = .ok (.invokevirtual 143, 3) := by decide +kernel
theorem dX7_leastInstallment_36 : decode cX7_leastInstallment 36 = .ok (.iload_n 1, 1) := by decide +kernel
theorem dX7_leastInstallment_37 : decode cX7_leastInstallment 37 = .ok (.invokestatic 137, 3) := by decide +kernel
theorem dX7_leastInstallment_40 : decode cX7_leastInstallment 40 = .ok (.invokestatic 140, 3) := by decide +kernel
theorem dX7_leastInstallment_43 : decode cX7_leastInstallment 43 = .ok (.lstore 4, 2) := by decide +kernel
theorem dX7_leastInstallment_45 : decode cX7_leastInstallment 45 = .ok (.iconst 0, 1) := by decide +kernel
theorem dX7_leastInstallment_46 : decode cX7_leastInstallment 46 = .ok (.istore 6, 2) := by decide +kernel
theorem dX7_leastInstallment_48 : decode cX7_leastInstallment 48 = .ok (.iload 6, 2) := by decide +kernel
theorem dX7_leastInstallment_50 : decode cX7_leastInstallment 50 = .ok (.bipush 64, 2) := by decide +kernel
theorem dX7_leastInstallment_52 : decode cX7_leastInstallment 52 = .ok (.if_icmp .ge 57, 3) := by decide +kernel
theorem dX7_leastInstallment_55 : decode cX7_leastInstallment 55 = .ok (.lload_n 2, 1) := by decide +kernel
theorem dX7_leastInstallment_56 : decode cX7_leastInstallment 56 = .ok (.lload 4, 2) := by decide +kernel
theorem dX7_leastInstallment_58 : decode cX7_leastInstallment 58 = .ok (.lcmp, 1) := by decide +kernel
theorem dX7_leastInstallment_59 : decode cX7_leastInstallment 59 = .ok (.ifCond .ge 50, 3) := by decide +kernel
theorem dX7_leastInstallment_62 : decode cX7_leastInstallment 62 = .ok (.lload_n 2, 1) := by decide +kernel
theorem dX7_leastInstallment_63 : decode cX7_leastInstallment 63 = .ok (.lload 4, 2) := by decide +kernel
theorem dX7_leastInstallment_65 : decode cX7_leastInstallment 65 = .ok (.lload_n 2, 1) := by decide +kernel
theorem dX7_leastInstallment_66 : decode cX7_leastInstallment 66 = .ok (.lsub, 1) := by decide +kernel
theorem dX7_leastInstallment_67 : decode cX7_leastInstallment 67 = .ok (.ldc2_w 147, 3) := by decide +kernel
theorem dX7_leastInstallment_70 : decode cX7_leastInstallment 70 = .ok (.ldiv, 1) := by decide +kernel
theorem dX7_leastInstallment_71 : decode cX7_leastInstallment 71 = .ok (.ladd, 1) := by decide +kernel
theorem dX7_leastInstallment_72 : decode cX7_leastInstallment 72 = .ok (.lstore 7, 2) := by decide +kernel
theorem dX7_leastInstallment_74 : decode cX7_leastInstallment 74 = .ok (.aload_n 0, 1) := by decide +kernel
theorem dX7_leastInstallment_75 : decode cX7_leastInstallment 75 = .ok (.lload 7, 2) := by decide +kernel
theorem dX7_leastInstallment_77 : decode cX7_leastInstallment 77 = .ok (.iload_n 1, 1) := by decide +kernel
theorem dX7_leastInstallment_78 : decode cX7_leastInstallment 78 = .ok (.invokevirtual 133, 3) := by decide +kernel
theorem dX7_leastInstallment_81 : decode cX7_leastInstallment 81 = .ok (.aload_n 0, 1) := by decide +kernel
theorem dX7_leastInstallment_82 : decode cX7_leastInstallment 82 = .ok (.invokevirtual 143, 3) := by decide +kernel
theorem dX7_leastInstallment_85 : decode cX7_leastInstallment 85 = .ok (.lload 7, 2) := by decide +kernel
theorem dX7_leastInstallment_87 : decode cX7_leastInstallment 87 = .ok (.lcmp, 1) := by decide +kernel
theorem dX7_leastInstallment_88 : decode cX7_leastInstallment 88 = .ok (.ifCond .gt 10, 3) := by decide +kernel
theorem dX7_leastInstallment_91 : decode cX7_leastInstallment 91 = .ok (.lload 7, 2) := by decide +kernel
theorem dX7_leastInstallment_93 : decode cX7_leastInstallment 93 = .ok (.lstore 4, 2) := by decide +kernel
theorem dX7_leastInstallment_95 : decode cX7_leastInstallment 95 = .ok (.goto 8, 3) := by decide +kernel
theorem dX7_leastInstallment_98 : decode cX7_leastInstallment 98 = .ok (.lload 7, 2) := by decide +kernel
theorem dX7_leastInstallment_100 : decode cX7_leastInstallment 100 = .ok (.lconst 1, 1) := by decide +kernel
theorem dX7_leastInstallment_101 : decode cX7_leastInstallment 101 = .ok (.ladd, 1) := by decide +kernel
theorem dX7_leastInstallment_102 : decode cX7_leastInstallment 102 = .ok (.lstore_n 2, 1) := by decide +kernel
theorem dX7_leastInstallment_103 : decode cX7_leastInstallment 103 = .ok (.iinc 6 1, 3) := by decide +kernel
theorem dX7_leastInstallment_106 : decode cX7_leastInstallment 106 = .ok (.goto (-58), 3) := by decide +kernel
theorem dX7_leastInstallment_109 : decode cX7_leastInstallment 109 = .ok (.lload_n 2, 1) := by decide +kernel
theorem dX7_leastInstallment_110 : decode cX7_leastInstallment 110 = .ok (.lreturn, 1) := by decide +kernel
theorem dX7_shareUpwards_0 : decode cX7_shareUpwards 0 = .ok (.iload_n 2, 1) := by decide +kernel
theorem dX7_shareUpwards_1 : decode cX7_shareUpwards 1 = .ok (.iconst 1, 1) := by decide +kernel
theorem dX7_shareUpwards_2 : decode cX7_shareUpwards 2 = .ok (.if_icmp .ge 7, 3) := by decide +kernel
theorem dX7_shareUpwards_5 : decode cX7_shareUpwards 5 = .ok (.lload_n 0, 1) := by decide +kernel
theorem dX7_shareUpwards_6 : decode cX7_shareUpwards 6 = .ok (.goto 12, 3) := by decide +kernel
theorem dX7_shareUpwards_9 : decode cX7_shareUpwards 9 = .ok (.lload_n 0, 1) := by decide +kernel
theorem dX7_shareUpwards_10 : decode cX7_shareUpwards 10 = .ok (.iload_n 2, 1) := by decide +kernel
theorem dX7_shareUpwards_11 : decode cX7_shareUpwards 11 = .ok (.i2l, 1) := by decide +kernel
theorem dX7_shareUpwards_12 : decode cX7_shareUpwards 12 = .ok (.ladd, 1) := by decide +kernel
theorem dX7_shareUpwards_13 : decode cX7_shareUpwards 13 = .ok (.lconst 1, 1) := by decide +kernel
theorem dX7_shareUpwards_14 : decode cX7_shareUpwards 14 = .ok (.lsub, 1) := by decide +kernel
theorem dX7_shareUpwards_15 : decode cX7_shareUpwards 15 = .ok (.iload_n 2, 1) := by decide +kernel
theorem dX7_shareUpwards_16 : decode cX7_shareUpwards 16 = .ok (.i2l, 1) := by decide +kernel
theorem dX7_shareUpwards_17 : decode cX7_shareUpwards 17 = .ok (.ldiv, 1) := by decide +kernel
theorem dX7_shareUpwards_18 : decode cX7_shareUpwards 18 = .ok (.lreturn, 1) := by decide +kernel
theorem dX7_has_0 : decode cX7_has 0 = .ok (.iload_n 1, 1) := by decide +kernel
theorem dX7_has_1 : decode cX7_has 1 = .ok (.ifCond .lt 21, 3) := by decide +kernel
theorem dX7_has_4 : decode cX7_has 4 = .ok (.iload_n 1, 1) := by decide +kernel
theorem dX7_has_5 : decode cX7_has 5 = .ok (.aload_n 0, 1) := by decide +kernel
theorem dX7_has_6 : decode cX7_has 6 = .ok (.getfield 110, 3) := by decide +kernel
theorem dX7_has_9 : decode cX7_has 9 = .ok (.if_icmp .ge 13, 3) := by decide +kernel
theorem dX7_has_12 : decode cX7_has 12 = .ok (.iload_n 1, 1) := by decide +kernel
theorem dX7_has_13 : decode cX7_has 13 = .ok (.bipush 60, 2) := by decide +kernel
theorem dX7_has_15 : decode cX7_has 15 = .ok (.if_icmp .ge 7, 3) := by decide +kernel
theorem dX7_has_18 : decode cX7_has 18 = .ok (.iconst 1, 1) := by decide +kernel
theorem dX7_has_19 : decode cX7_has 19 = .ok (.goto 4, 3) := by decide +kernel
theorem dX7_has_22 : decode cX7_has 22 = .ok (.iconst 0, 1) := by decide +kernel
theorem dX7_has_23 : decode cX7_has 23 = .ok (.ireturn, 1) := by decide +kernel
theorem dX7_paymentPart_0 : decode cX7_paymentPart 0 = .ok (.aload_n 0, 1) := by decide +kernel
theorem dX7_paymentPart_1 : decode cX7_paymentPart 1 = .ok (.iload_n 1, 1) := by decide +kernel
theorem dX7_paymentPart_2 : decode cX7_paymentPart 2 = .ok (.invokevirtual 129, 3) := by decide +kernel
theorem dX7_paymentPart_5 : decode cX7_paymentPart 5 = .ok (.ifCond .ne 5, 3) := by decide +kernel
theorem dX7_paymentPart_8 : decode cX7_paymentPart 8 = .ok (.lconst 0, 1) := by decide +kernel
theorem dX7_paymentPart_9 : decode cX7_paymentPart 9 = .ok (.lreturn, 1) := by decide +kernel
theorem dX7_paymentPart_10 : decode cX7_paymentPart 10 = .ok (.iload_n 2, 1) := by decide +kernel
theorem dX7_paymentPart_11 : decode cX7_paymentPart 11 = .ok (.tableswitch 65 0 3 #[29, 37, 44, 51], 29) := by decide +kernel
theorem dX7_paymentPart_40 : decode cX7_paymentPart 40 = .ok (.aload_n 0, 1) := by decide +kernel
theorem dX7_paymentPart_41 : decode cX7_paymentPart 41 = .ok (.getfield 18, 3) := by decide +kernel
theorem dX7_paymentPart_44 : decode cX7_paymentPart 44 = .ok (.iload_n 1, 1) := by decide +kernel
theorem dX7_paymentPart_45 : decode cX7_paymentPart 45 = .ok (.iaload, 1) := by decide +kernel
theorem dX7_paymentPart_46 : decode cX7_paymentPart 46 = .ok (.i2l, 1) := by decide +kernel
theorem dX7_paymentPart_47 : decode cX7_paymentPart 47 = .ok (.lreturn, 1) := by decide +kernel
theorem dX7_paymentPart_48 : decode cX7_paymentPart 48 = .ok (.aload_n 0, 1) := by decide +kernel
theorem dX7_paymentPart_49 : decode cX7_paymentPart 49 = .ok (.getfield 21, 3) := by decide +kernel
theorem dX7_paymentPart_52 : decode cX7_paymentPart 52 = .ok (.iload_n 1, 1) := by decide +kernel
theorem dX7_paymentPart_53 : decode cX7_paymentPart 53 = .ok (.laload, 1) := by decide +kernel
theorem dX7_paymentPart_54 : decode cX7_paymentPart 54 = .ok (.lreturn, 1) := by decide +kernel
theorem dX7_paymentPart_55 : decode cX7_paymentPart 55 = .ok (.aload_n 0, 1) := by decide +kernel
theorem dX7_paymentPart_56 : decode cX7_paymentPart 56 = .ok (.getfield 25, 3) := by decide +kernel
theorem dX7_paymentPart_59 : decode cX7_paymentPart 59 = .ok (.iload_n 1, 1) := by decide +kernel
theorem dX7_paymentPart_60 : decode cX7_paymentPart 60 = .ok (.laload, 1) := by decide +kernel
theorem dX7_paymentPart_61 : decode cX7_paymentPart 61 = .ok (.lreturn, 1) := by decide +kernel
theorem dX7_paymentPart_62 : decode cX7_paymentPart 62 = .ok (.aload_n 0, 1) := by decide +kernel
theorem dX7_paymentPart_63 : decode cX7_paymentPart 63 = .ok (.getfield 21, 3) := by decide +kernel
theorem dX7_paymentPart_66 : decode cX7_paymentPart 66 = .ok (.iload_n 1, 1) := by decide +kernel
theorem dX7_paymentPart_67 : decode cX7_paymentPart 67 = .ok (.laload, 1) := by decide +kernel
theorem dX7_paymentPart_68 : decode cX7_paymentPart 68 = .ok (.aload_n 0, 1) := by decide +kernel
theorem dX7_paymentPart_69 : decode cX7_paymentPart 69 = .ok (.getfield 25, 3) := by decide +kernel
theorem dX7_paymentPart_72 : decode cX7_paymentPart 72 = .ok (.iload_n 1, 1) := by decide +kernel
theorem dX7_paymentPart_73 : decode cX7_paymentPart 73 = .ok (.laload, 1) := by decide +kernel
theorem dX7_paymentPart_74 : decode cX7_paymentPart 74 = .ok (.lsub, 1) := by decide +kernel
theorem dX7_paymentPart_75 : decode cX7_paymentPart 75 = .ok (.lreturn, 1) := by decide +kernel
theorem dX7_paymentPart_76 : decode cX7_paymentPart 76 = .ok (.aload_n 0, 1) := by decide +kernel
theorem dX7_paymentPart_77 : decode cX7_paymentPart 77 = .ok (.getfield 28, 3) := by decide +kernel
theorem dX7_paymentPart_80 : decode cX7_paymentPart 80 = .ok (.iload_n 1, 1) := by decide +kernel
theorem dX7_paymentPart_81 : decode cX7_paymentPart 81 = .ok (.laload, 1) := by decide +kernel
theorem dX7_paymentPart_82 : decode cX7_paymentPart 82 = .ok (.lreturn, 1) := by decide +kernel
theorem dX8_init_0 : decode cX8_init 0 = .ok (.aload_n 0, 1) := by decide +kernel
theorem dX8_init_1 : decode cX8_init 1 = .ok (.invokespecial 3, 3) := by decide +kernel
theorem dX8_init_4 : decode cX8_init 4 = .ok (.aload_n 0, 1) := by decide +kernel
theorem dX8_init_5 : decode cX8_init 5 = .ok (.bipush 60, 2) := by decide +kernel
theorem dX8_init_7 : decode cX8_init 7 = .ok (.newarray .double, 2) := by decide +kernel
theorem dX8_init_9 : decode cX8_init 9 = .ok (.putfield 9, 3) := by decide +kernel
theorem dX8_init_12 : decode cX8_init 12 = .ok (.aload_n 0, 1) := by decide +kernel
theorem dX8_init_13 : decode cX8_init 13 = .ok (.bipush 60, 2) := by decide +kernel
theorem dX8_init_15 : decode cX8_init 15 = .ok (.newarray .float, 2) := by decide +kernel
theorem dX8_init_17 : decode cX8_init 17 = .ok (.putfield 15, 3) := by decide +kernel
theorem dX8_init_20 : decode cX8_init 20 = .ok (.return_, 1) := by decide +kernel
theorem dX8_fill_0 : decode cX8_fill 0 = .ok (.aload_n 0, 1) := by decide +kernel
theorem dX8_fill_1 : decode cX8_fill 1 = .ok (.iconst 1, 1) := by decide +kernel
theorem dX8_fill_2 : decode cX8_fill 2 = .ok (.putfield 19, 3) := by decide +kernel
theorem dX8_fill_5 : decode cX8_fill 5 = .ok (.aload_n 0, 1) := by decide +kernel
theorem dX8_fill_6 : decode cX8_fill 6 = .ok (.iload_n 2, 1) := by decide +kernel
theorem dX8_fill_7 : decode cX8_fill 7 = .ok (.putfield 23, 3) := by decide +kernel
theorem dX8_fill_10 : decode cX8_fill 10 = .ok (.aload_n 0, 1) := by decide +kernel
theorem dX8_fill_11 : decode cX8_fill 11 = .ok (.aload_n 1, 1) := by decide +kernel
theorem dX8_fill_12 : decode cX8_fill 12 = .ok (.getfield 26, 3) := by decide +kernel
theorem dX8_fill_15 : decode cX8_fill 15 = .ok (.putfield 32, 3) := by decide +kernel
theorem dX8_fill_18 : decode cX8_fill 18 = .ok (.iconst 0, 1) := by decide +kernel
theorem dX8_fill_19 : decode cX8_fill 19 = .ok (.istore_n 3, 1) := by decide +kernel
theorem dX8_fill_20 : decode cX8_fill 20 = .ok (.iload_n 3, 1) := by decide +kernel
theorem dX8_fill_21 : decode cX8_fill 21 = .ok (.aload_n 0, 1) := by decide +kernel
theorem dX8_fill_22 : decode cX8_fill 22 = .ok (.getfield 32, 3) := by decide +kernel
theorem dX8_fill_25 : decode cX8_fill 25 = .ok (.if_icmp .ge 51, 3) := by decide +kernel
theorem dX8_fill_28 : decode cX8_fill 28 = .ok (.iload_n 3, 1) := by decide +kernel
theorem dX8_fill_29 : decode cX8_fill 29 = .ok (.bipush 60, 2) := by decide +kernel
theorem dX8_fill_31 : decode cX8_fill 31 = .ok (.if_icmp .ge 45, 3) := by decide +kernel
theorem dX8_fill_34 : decode cX8_fill 34 = .ok (.aload_n 1, 1) := by decide +kernel
theorem dX8_fill_35 : decode cX8_fill 35 = .ok (.iload_n 3, 1) := by decide +kernel
theorem dX8_fill_36 : decode cX8_fill 36 = .ok (.iconst 4, 1) := by decide +kernel
theorem dX8_fill_37 : decode cX8_fill 37 = .ok (.invokevirtual 35, 3) := by decide +kernel
theorem dX8_fill_40 : decode cX8_fill 40 = .ok (.lstore 4, 2) := by decide +kernel
theorem dX8_fill_42 : decode cX8_fill 42 = .ok (.iload_n 2, 1) := by decide +kernel
theorem dX8_fill_43 : decode cX8_fill 43 = .ok (.ifCond .eq 15, 3) := by decide +kernel
theorem dX8_fill_46 : decode cX8_fill 46 = .ok (.aload_n 0, 1) := by decide +kernel
theorem dX8_fill_47 : decode cX8_fill 47 = .ok (.getfield 9, 3) := by decide +kernel
theorem dX8_fill_50 : decode cX8_fill 50 = .ok (.iload_n 3, 1) := by decide +kernel
theorem dX8_fill_51 : decode cX8_fill 51 = .ok (.lload 4, 2) := by decide +kernel
theorem dX8_fill_53 : decode cX8_fill 53 = .ok (.l2d, 1) := by decide +kernel
theorem dX8_fill_54 : decode cX8_fill 54 = .ok (.dastore, 1) := by decide +kernel
theorem dX8_fill_55 : decode cX8_fill 55 = .ok (.goto 15, 3) := by decide +kernel
theorem dX8_fill_58 : decode cX8_fill 58 = .ok (.aload_n 0, 1) := by decide +kernel
theorem dX8_fill_59 : decode cX8_fill 59 = .ok (.getfield 15, 3) := by decide +kernel
theorem dX8_fill_62 : decode cX8_fill 62 = .ok (.iload_n 3, 1) := by decide +kernel
theorem dX8_fill_63 : decode cX8_fill 63 = .ok (.lload 4, 2) := by decide +kernel
theorem dX8_fill_65 : decode cX8_fill 65 = .ok (.l2f, 1) := by decide +kernel
theorem dX8_fill_66 : decode cX8_fill 66 = .ok (.ldc 39, 2) := by decide +kernel
theorem dX8_fill_68 : decode cX8_fill 68 = .ok (.fdiv, 1) := by decide +kernel
theorem dX8_fill_69 : decode cX8_fill 69 = .ok (.fastore, 1) := by decide +kernel
theorem dX8_fill_70 : decode cX8_fill 70 = .ok (.iinc 3 1, 3) := by decide +kernel
theorem dX8_fill_73 : decode cX8_fill 73 = .ok (.goto (-53), 3) := by decide +kernel
theorem dX8_fill_76 : decode cX8_fill 76 = .ok (.return_, 1) := by decide +kernel
theorem dX9_toCents_0 : decode cX9_toCents 0 = .ok (.iload_n 2, 1) := by decide +kernel
theorem dX9_toCents_1 : decode cX9_toCents 1 = .ok (.ifCond .ne 17, 3) := by decide +kernel
theorem dX9_toCents_4 : decode cX9_toCents 4 = .ok (.lload_n 0, 1) := by decide +kernel
theorem dX9_toCents_5 : decode cX9_toCents 5 = .ok (.ldc2_w 9, 3) := by decide +kernel
theorem dX9_toCents_8 : decode cX9_toCents 8 = .ok (.ladd, 1) := by decide +kernel
theorem dX9_toCents_9 : decode cX9_toCents 9 = .ok (.ldc2_w 11, 3) := by decide +kernel
theorem dX9_toCents_12 : decode cX9_toCents 12 = .ok (.invokestatic 13, 3) := by decide +kernel
theorem dX9_toCents_15 : decode cX9_toCents 15 = .ok (.goto 14, 3) := by decide +kernel
theorem dX9_toCents_18 : decode cX9_toCents 18 = .ok (.lload_n 0, 1) := by decide +kernel
theorem dX9_toCents_19 : decode cX9_toCents 19 = .ok (.ldc2_w 19, 3) := by decide +kernel
theorem dX9_toCents_22 : decode cX9_toCents 22 = .ok (.ladd, 1) := by decide +kernel
theorem dX9_toCents_23 : decode cX9_toCents 23 = .ok (.ldc2_w 21, 3) := by decide +kernel
theorem dX9_toCents_26 : decode cX9_toCents 26 = .ok (.invokestatic 13, 3) := by decide +kernel
theorem dX9_toCents_29 : decode cX9_toCents 29 = .ok (.lreturn, 1) := by decide +kernel
theorem dX9_ofCents_0 : decode cX9_ofCents 0 = .ok (.lload_n 0, 1) := by decide +kernel
theorem dX9_ofCents_1 : decode cX9_ofCents 1 = .ok (.iload_n 2, 1) := by decide +kernel
theorem dX9_ofCents_2 : decode cX9_ofCents 2 = .ok (.ifCond .ne 9, 3) := by decide +kernel
theorem dX9_ofCents_5 : decode cX9_ofCents 5 = .ok (.ldc2_w 11, 3) := by decide +kernel
theorem dX9_ofCents_8 : decode cX9_ofCents 8 = .ok (.goto 6, 3) := by decide +kernel
theorem dX9_ofCents_11 : decode cX9_ofCents 11 = .ok (.ldc2_w 21, 3) := by decide +kernel
theorem dX9_ofCents_14 : decode cX9_ofCents 14 = .ok (.lmul, 1) := by decide +kernel
theorem dX9_ofCents_15 : decode cX9_ofCents 15 = .ok (.lreturn, 1) := by decide +kernel
theorem dX10_init_0 : decode cX10_init 0 = .ok (.aload_n 0, 1) := by decide +kernel
theorem dX10_init_1 : decode cX10_init 1 = .ok (.invokespecial 1, 3) := by decide +kernel
theorem dX10_init_4 : decode cX10_init 4 = .ok (.aload_n 0, 1) := by decide +kernel
theorem dX10_init_5 : decode cX10_init 5 = .ok (.new 7, 3) := by decide +kernel
theorem dX10_init_8 : decode cX10_init 8 = .ok (.dup, 1) := by decide +kernel
theorem dX10_init_9 : decode cX10_init 9 = .ok (.invokespecial 9, 3) := by decide +kernel
theorem dX10_init_12 : decode cX10_init 12 = .ok (.putfield 10, 3) := by decide +kernel
theorem dX10_init_15 : decode cX10_init 15 = .ok (.aload_n 0, 1) := by decide +kernel
theorem dX10_init_16 : decode cX10_init 16 = .ok (.new 7, 3) := by decide +kernel
theorem dX10_init_19 : decode cX10_init 19 = .ok (.dup, 1) := by decide +kernel
theorem dX10_init_20 : decode cX10_init 20 = .ok (.invokespecial 9, 3) := by decide +kernel
theorem dX10_init_23 : decode cX10_init 23 = .ok (.putfield 16, 3) := by decide +kernel
theorem dX10_init_26 : decode cX10_init 26 = .ok (.aload_n 0, 1) := by decide +kernel
theorem dX10_init_27 : decode cX10_init 27 = .ok (.new 7, 3) := by decide +kernel
theorem dX10_init_30 : decode cX10_init 30 = .ok (.dup, 1) := by decide +kernel
theorem dX10_init_31 : decode cX10_init 31 = .ok (.invokespecial 9, 3) := by decide +kernel
theorem dX10_init_34 : decode cX10_init 34 = .ok (.putfield 19, 3) := by decide +kernel
theorem dX10_init_37 : decode cX10_init 37 = .ok (.aload_n 0, 1) := by decide +kernel
theorem dX10_init_38 : decode cX10_init 38 = .ok (.bipush 8, 2) := by decide +kernel
theorem dX10_init_40 : decode cX10_init 40 = .ok (.anewarray 7, 3) := by decide +kernel
theorem dX10_init_43 : decode cX10_init 43 = .ok (.putfield 22, 3) := by decide +kernel
theorem dX10_init_46 : decode cX10_init 46 = .ok (.aload_n 0, 1) := by decide +kernel
theorem dX10_init_47 : decode cX10_init 47 = .ok (.new 26, 3) := by decide +kernel
theorem dX10_init_50 : decode cX10_init 50 = .ok (.dup, 1) := by decide +kernel
theorem dX10_init_51 : decode cX10_init 51 = .ok (.invokespecial 28, 3) := by decide +kernel
theorem dX10_init_54 : decode cX10_init 54 = .ok (.putfield 29, 3) := by decide +kernel
theorem dX10_init_57 : decode cX10_init 57 = .ok (.aload_n 0, 1) := by decide +kernel
theorem dX10_init_58 : decode cX10_init 58 = .ok (.new 26, 3) := by decide +kernel
theorem dX10_init_61 : decode cX10_init 61 = .ok (.dup, 1) := by decide +kernel
theorem dX10_init_62 : decode cX10_init 62 = .ok (.invokespecial 28, 3) := by decide +kernel
theorem dX10_init_65 : decode cX10_init 65 = .ok (.putfield 33, 3) := by decide +kernel
theorem dX10_init_68 : decode cX10_init 68 = .ok (.aload_n 0, 1) := by decide +kernel
theorem dX10_init_69 : decode cX10_init 69 = .ok (.new 36, 3) := by decide +kernel
theorem dX10_init_72 : decode cX10_init 72 = .ok (.dup, 1) := by decide +kernel
theorem dX10_init_73 : decode cX10_init 73 = .ok (.invokespecial 38, 3) := by decide +kernel
theorem dX10_init_76 : decode cX10_init 76 = .ok (.putfield 39, 3) := by decide +kernel
theorem dX10_init_79 : decode cX10_init 79 = .ok (.aload_n 0, 1) := by decide +kernel
theorem dX10_init_80 : decode cX10_init 80 = .ok (.new 43, 3) := by decide +kernel
theorem dX10_init_83 : decode cX10_init 83 = .ok (.dup, 1) := by decide +kernel
theorem dX10_init_84 : decode cX10_init 84 = .ok (.invokespecial 45, 3) := by decide +kernel
theorem dX10_init_87 : decode cX10_init 87 = .ok (.putfield 46, 3) := by decide +kernel
theorem dX10_init_90 : decode cX10_init 90 = .ok (.aload_n 0, 1) := by decide +kernel
theorem dX10_init_91 : decode cX10_init 91 = .ok (.iconst 2, 1) := by decide +kernel
theorem dX10_init_92 : decode cX10_init 92 = .ok (.anewarray 50, 3) := by decide +kernel
theorem dX10_init_95 : decode cX10_init 95 = .ok (.putfield 52, 3) := by decide +kernel
theorem dX10_init_98 : decode cX10_init 98 = .ok (.aload_n 0, 1) := by decide +kernel
theorem dX10_init_99 : decode cX10_init 99 = .ok (.iconst (-1), 1) := by decide +kernel
theorem dX10_init_100 : decode cX10_init 100 = .ok (.putfield 56, 3) := by decide +kernel
theorem dX10_init_103 : decode cX10_init 103 = .ok (.aload_n 0, 1) := by decide +kernel
theorem dX10_init_104 : decode cX10_init 104 = .ok (.iconst (-1), 1) := by decide +kernel
theorem dX10_init_105 : decode cX10_init 105 = .ok (.putfield 60, 3) := by decide +kernel
theorem dX10_init_108 : decode cX10_init 108 = .ok (.iconst 0, 1) := by decide +kernel
theorem dX10_init_109 : decode cX10_init 109 = .ok (.istore_n 1, 1) := by decide +kernel
theorem dX10_init_110 : decode cX10_init 110 = .ok (.iload_n 1, 1) := by decide +kernel
theorem dX10_init_111 : decode cX10_init 111 = .ok (.aload_n 0, 1) := by decide +kernel
theorem dX10_init_112 : decode cX10_init 112 = .ok (.getfield 22, 3) := by decide +kernel
theorem dX10_init_115 : decode cX10_init 115 = .ok (.arraylength, 1) := by decide +kernel
theorem dX10_init_116 : decode cX10_init 116 = .ok (.if_icmp .ge 22, 3) := by decide +kernel
theorem dX10_init_119 : decode cX10_init 119 = .ok (.aload_n 0, 1) := by decide +kernel
theorem dX10_init_120 : decode cX10_init 120 = .ok (.getfield 22, 3) := by decide +kernel
theorem dX10_init_123 : decode cX10_init 123 = .ok (.iload_n 1, 1) := by decide +kernel
theorem dX10_init_124 : decode cX10_init 124 = .ok (.new 7, 3) := by decide +kernel
theorem dX10_init_127 : decode cX10_init 127 = .ok (.dup, 1) := by decide +kernel
theorem dX10_init_128 : decode cX10_init 128 = .ok (.invokespecial 9, 3) := by decide +kernel
theorem dX10_init_131 : decode cX10_init 131 = .ok (.aastore, 1) := by decide +kernel
theorem dX10_init_132 : decode cX10_init 132 = .ok (.iinc 1 1, 3) := by decide +kernel
theorem dX10_init_135 : decode cX10_init 135 = .ok (.goto (-25), 3) := by decide +kernel
theorem dX10_init_138 : decode cX10_init 138 = .ok (.iconst 0, 1) := by decide +kernel
theorem dX10_init_139 : decode cX10_init 139 = .ok (.istore_n 1, 1) := by decide +kernel
theorem dX10_init_140 : decode cX10_init 140 = .ok (.iload_n 1, 1) := by decide +kernel
theorem dX10_init_141 : decode cX10_init 141 = .ok (.aload_n 0, 1) := by decide +kernel
theorem dX10_init_142 : decode cX10_init 142 = .ok (.getfield 52, 3) := by decide +kernel
theorem dX10_init_145 : decode cX10_init 145 = .ok (.arraylength, 1) := by decide +kernel
theorem dX10_init_146 : decode cX10_init 146 = .ok (.if_icmp .ge 22, 3) := by decide +kernel
theorem dX10_init_149 : decode cX10_init 149 = .ok (.aload_n 0, 1) := by decide +kernel
theorem dX10_init_150 : decode cX10_init 150 = .ok (.getfield 52, 3) := by decide +kernel
theorem dX10_init_153 : decode cX10_init 153 = .ok (.iload_n 1, 1) := by decide +kernel
theorem dX10_init_154 : decode cX10_init 154 = .ok (.new 50, 3) := by decide +kernel
theorem dX10_init_157 : decode cX10_init 157 = .ok (.dup, 1) := by decide +kernel
theorem dX10_init_158 : decode cX10_init 158 = .ok (.invokespecial 63, 3) := by decide +kernel
theorem dX10_init_161 : decode cX10_init 161 = .ok (.aastore, 1) := by decide +kernel
theorem dX10_init_162 : decode cX10_init 162 = .ok (.iinc 1 1, 3) := by decide +kernel
theorem dX10_init_165 : decode cX10_init 165 = .ok (.goto (-25), 3) := by decide +kernel
theorem dX10_init_168 : decode cX10_init 168 = .ok (.return_, 1) := by decide +kernel
theorem dX10_begin_0 : decode cX10_begin 0 = .ok (.iload_n 1, 1) := by decide +kernel
theorem dX10_begin_1 : decode cX10_begin 1 = .ok (.iconst 1, 1) := by decide +kernel
theorem dX10_begin_2 : decode cX10_begin 2 = .ok (.ldc 64, 2) := by decide +kernel
theorem dX10_begin_4 : decode cX10_begin 4 = .ok (.invokestatic 65, 3) := by decide +kernel
theorem dX10_begin_7 : decode cX10_begin 7 = .ok (.ifCond .eq 34, 3) := by decide +kernel
theorem dX10_begin_10 : decode cX10_begin 10 = .ok (.iload_n 2, 1) := by decide +kernel
theorem dX10_begin_11 : decode cX10_begin 11 = .ok (.iconst 0, 1) := by decide +kernel
theorem dX10_begin_12 : decode cX10_begin 12 = .ok (.sipush 2000, 3) := by decide +kernel
theorem dX10_begin_15 : decode cX10_begin 15 = .ok (.invokestatic 65, 3) := by decide +kernel
theorem dX10_begin_18 : decode cX10_begin 18 = .ok (.ifCond .eq 23, 3) := by decide +kernel
theorem dX10_begin_21 : decode cX10_begin 21 = .ok (.iload_n 3, 1) := by decide +kernel
theorem dX10_begin_22 : decode cX10_begin 22 = .ok (.iconst 1, 1) := by decide +kernel
theorem dX10_begin_23 : decode cX10_begin 23 = .ok (.bipush 60, 2) := by decide +kernel
theorem dX10_begin_25 : decode cX10_begin 25 = .ok (.invokestatic 65, 3) := by decide +kernel
theorem dX10_begin_28 : decode cX10_begin 28 = .ok (.ifCond .eq 13, 3) := by decide +kernel
theorem dX10_begin_31 : decode cX10_begin 31 = .ok (.iload 4, 2) := by decide +kernel
theorem dX10_begin_33 : decode cX10_begin 33 = .ok (.iconst 0, 1) := by decide +kernel
theorem dX10_begin_34 : decode cX10_begin 34 = .ok (.iconst 2, 1) := by decide +kernel
theorem dX10_begin_35 : decode cX10_begin 35 = .ok (.invokestatic 65, 3) := by decide +kernel
theorem dX10_begin_38 : decode cX10_begin 38 = .ok (.ifCond .ne 11, 3) := by decide +kernel
theorem dX10_begin_41 : decode cX10_begin 41 = .ok (.new 69, 3) := by decide +kernel
theorem dX10_begin_44 : decode cX10_begin 44 = .ok (.dup, 1) := by decide +kernel
theorem dX10_begin_45 : decode cX10_begin 45 = .ok (.invokespecial 71, 3) := by decide +kernel
theorem dX10_begin_48 : decode cX10_begin 48 = .ok (.athrow, 1) := by decide +kernel
theorem dX10_begin_49 : decode cX10_begin 49 = .ok (.aload_n 0, 1) := by decide +kernel
theorem dX10_begin_50 : decode cX10_begin 50 = .ok (.invokevirtual 72, 3) := by decide +kernel
theorem dX10_begin_53 : decode cX10_begin 53 = .ok (.aload_n 0, 1) := by decide +kernel
theorem dX10_begin_54 : decode cX10_begin 54 = .ok (.getfield 10, 3) := by decide +kernel
theorem dX10_begin_57 : decode cX10_begin 57 = .ok (.iload_n 1, 1) := by decide +kernel
theorem dX10_begin_58 : decode cX10_begin 58 = .ok (.i2l, 1) := by decide +kernel
theorem dX10_begin_59 : decode cX10_begin 59 = .ok (.iload_n 2, 1) := by decide +kernel
theorem dX10_begin_60 : decode cX10_begin 60 = .ok (.iload_n 3, 1) := by decide +kernel
theorem dX10_begin_61 : decode cX10_begin 61 = .ok (.iload 4, 2) := by decide +kernel
theorem dX10_begin_63 : decode cX10_begin 63 = .ok (.aload_n 0, 1) := by decide +kernel
theorem dX10_begin_64 : decode cX10_begin 64 = .ok (.getfield 39, 3) := by decide +kernel
theorem dX10_begin_67 : decode cX10_begin 67 = .ok (.invokevirtual 75, 3) := by decide +kernel
theorem dX10_begin_70 : decode cX10_begin 70 = .ok (.aload_n 0, 1) := by decide +kernel
theorem dX10_begin_71 : decode cX10_begin 71 = .ok (.getfield 10, 3) := by decide +kernel
theorem dX10_begin_74 : decode cX10_begin 74 = .ok (.aload_n 0, 1) := by decide +kernel
theorem dX10_begin_75 : decode cX10_begin 75 = .ok (.getfield 10, 3) := by decide +kernel
theorem dX10_begin_78 : decode cX10_begin 78 = .ok (.getfield 79, 3) := by decide +kernel
theorem dX10_begin_81 : decode cX10_begin 81 = .ok (.putfield 82, 3) := by decide +kernel
theorem dX10_begin_84 : decode cX10_begin 84 = .ok (.aload_n 0, 1) := by decide +kernel
theorem dX10_begin_85 : decode cX10_begin 85 = .ok (.getfield 10, 3) := by decide +kernel
theorem dX10_begin_88 : decode cX10_begin 88 = .ok (.getfield 85, 3) := by decide +kernel
theorem dX10_begin_91 : decode cX10_begin 91 = .ok (.getfield 89, 3) := by decide +kernel
theorem dX10_begin_94 : decode cX10_begin 94 = .ok (.l2i, 1) := by decide +kernel
theorem dX10_begin_95 : decode cX10_begin 95 = .ok (.ireturn, 1) := by decide +kernel
theorem dX10_pass_0 : decode cX10_pass 0 = .ok (.aload_n 0, 1) := by decide +kernel
theorem dX10_pass_1 : decode cX10_pass 1 = .ok (.iconst 5, 1) := by decide +kernel
theorem dX10_pass_2 : decode cX10_pass 2 = .ok (.iload_n 1, 1) := by decide +kernel
theorem dX10_pass_3 : decode cX10_pass 3 = .ok (.invokevirtual 95, 3) := by decide +kernel
theorem dX10_pass_6 : decode cX10_pass 6 = .ok (.ireturn, 1) := by decide +kernel
theorem dX10_date_0 : decode cX10_date 0 = .ok (.iload_n 1, 1) := by decide +kernel
theorem dX10_date_1 : decode cX10_date 1 = .ok (.tableswitch 72 0 3 #[31, 39, 50, 61], 31) := by decide +kernel
theorem dX10_date_32 : decode cX10_date 32 = .ok (.aload_n 0, 1) := by decide +kernel
theorem dX10_date_33 : decode cX10_date 33 = .ok (.getfield 10, 3) := by decide +kernel
theorem dX10_date_36 : decode cX10_date 36 = .ok (.getfield 99, 3) := by decide +kernel
theorem dX10_date_39 : decode cX10_date 39 = .ok (.ireturn, 1) := by decide +kernel
theorem dX10_date_40 : decode cX10_date 40 = .ok (.aload_n 0, 1) := by decide +kernel
theorem dX10_date_41 : decode cX10_date 41 = .ok (.getfield 10, 3) := by decide +kernel
theorem dX10_date_44 : decode cX10_date 44 = .ok (.getfield 99, 3) := by decide +kernel
theorem dX10_date_47 : decode cX10_date 47 = .ok (.invokestatic 102, 3) := by decide +kernel
theorem dX10_date_50 : decode cX10_date 50 = .ok (.ireturn, 1) := by decide +kernel
theorem dX10_date_51 : decode cX10_date 51 = .ok (.aload_n 0, 1) := by decide +kernel
theorem dX10_date_52 : decode cX10_date 52 = .ok (.getfield 10, 3) := by decide +kernel
theorem dX10_date_55 : decode cX10_date 55 = .ok (.getfield 99, 3) := by decide +kernel
theorem dX10_date_58 : decode cX10_date 58 = .ok (.invokestatic 108, 3) := by decide +kernel
theorem dX10_date_61 : decode cX10_date 61 = .ok (.ireturn, 1) := by decide +kernel
theorem dX10_date_62 : decode cX10_date 62 = .ok (.aload_n 0, 1) := by decide +kernel
theorem dX10_date_63 : decode cX10_date 63 = .ok (.getfield 10, 3) := by decide +kernel
theorem dX10_date_66 : decode cX10_date 66 = .ok (.getfield 99, 3) := by decide +kernel
theorem dX10_date_69 : decode cX10_date 69 = .ok (.invokestatic 111, 3) := by decide +kernel
theorem dX10_date_72 : decode cX10_date 72 = .ok (.ireturn, 1) := by decide +kernel
theorem dX10_date_73 : decode cX10_date 73 = .ok (.new 69, 3) := by decide +kernel
theorem dX10_date_76 : decode cX10_date 76 = .ok (.dup, 1) := by decide +kernel
theorem dX10_date_77 : decode cX10_date 77 = .ok (.invokespecial 71, 3) := by decide +kernel
theorem dX10_date_80 : decode cX10_date 80 = .ok (.athrow, 1) := by decide +kernel
theorem dX10_countedDays_0 : decode cX10_countedDays 0 = .ok (.iload_n 1, 1) := by decide +kernel
theorem dX10_countedDays_1 : decode cX10_countedDays 1 = .ok (.iconst 0, 1) := by decide +kernel
theorem dX10_countedDays_2 : decode cX10_countedDays 2 = .ok (.sipush 8000, 3) := by decide +kernel
theorem dX10_countedDays_5 : decode cX10_countedDays 5 = .ok (.invokestatic 65, 3) := by decide +kernel
theorem dX10_countedDays_8 : decode cX10_countedDays 8 = .ok (.ifCond .eq 23, 3) := by decide +kernel
theorem dX10_countedDays_11 : decode cX10_countedDays 11 = .ok (.iload_n 2, 1) := by decide +kernel
theorem dX10_countedDays_12 : decode cX10_countedDays 12 = .ok (.iload_n 1, 1) := by decide +kernel
theorem dX10_countedDays_13 : decode cX10_countedDays 13 = .ok (.sipush 8000, 3) := by decide +kernel
theorem dX10_countedDays_16 : decode cX10_countedDays 16 = .ok (.invokestatic 65, 3) := by decide +kernel
theorem dX10_countedDays_19 : decode cX10_countedDays 19 = .ok (.ifCond .eq 12, 3) := by decide +kernel
theorem dX10_countedDays_22 : decode cX10_countedDays 22 = .ok (.iload_n 3, 1) := by decide +kernel
theorem dX10_countedDays_23 : decode cX10_countedDays 23 = .ok (.iconst 0, 1) := by decide +kernel
theorem dX10_countedDays_24 : decode cX10_countedDays 24 = .ok (.iconst 2, 1) := by decide +kernel
theorem dX10_countedDays_25 : decode cX10_countedDays 25 = .ok (.invokestatic 65, 3) := by decide +kernel
theorem dX10_countedDays_28 : decode cX10_countedDays 28 = .ok (.ifCond .ne 11, 3) := by decide +kernel
theorem dX10_countedDays_31 : decode cX10_countedDays 31 = .ok (.new 69, 3) := by decide +kernel
theorem dX10_countedDays_34 : decode cX10_countedDays 34 = .ok (.dup, 1) := by decide +kernel
theorem dX10_countedDays_35 : decode cX10_countedDays 35 = .ok (.invokespecial 71, 3) := by decide +kernel
theorem dX10_countedDays_38 : decode cX10_countedDays 38 = .ok (.athrow, 1) := by decide +kernel
theorem dX10_countedDays_39 : decode cX10_countedDays 39 = .ok (.iload_n 1, 1) := by decide +kernel
theorem dX10_countedDays_40 : decode cX10_countedDays 40 = .ok (.iload_n 2, 1) := by decide +kernel
theorem dX10_countedDays_41 : decode cX10_countedDays 41 = .ok (.iload_n 3, 1) := by decide +kernel
theorem dX10_countedDays_42 : decode cX10_countedDays 42 = .ok (.invokestatic 114, 3) := by decide +kernel
theorem dX10_countedDays_45 : decode cX10_countedDays 45 = .ok (.ireturn, 1) := by decide +kernel
theorem dX10_set_0 : decode cX10_set 0 = .ok (.iload_n 1, 1) := by decide +kernel
theorem dX10_set_1 : decode cX10_set 1 = .ok (.iconst 0, 1) := by decide +kernel
theorem dX10_set_2 : decode cX10_set 2 = .ok (.iconst 4, 1) := by decide +kernel
theorem dX10_set_3 : decode cX10_set 3 = .ok (.invokestatic 65, 3) := by decide +kernel
theorem dX10_set_6 : decode cX10_set 6 = .ok (.ifCond .ne 11, 3) := by decide +kernel
theorem dX10_set_9 : decode cX10_set 9 = .ok (.new 118, 3) := by decide +kernel
theorem dX10_set_12 : decode cX10_set 12 = .ok (.dup, 1) := by decide +kernel
theorem dX10_set_13 : decode cX10_set 13 = .ok (.invokespecial 120, 3) := by decide +kernel
theorem dX10_set_16 : decode cX10_set 16 = .ok (.athrow, 1) := by decide +kernel
theorem dX10_set_17 : decode cX10_set 17 = .ok (.aload_n 0, 1) := by decide +kernel
theorem dX10_set_18 : decode cX10_set 18 = .ok (.iload_n 1, 1) := by decide +kernel
theorem dX10_set_19 : decode cX10_set 19 = .ok (.iload_n 2, 1) := by decide +kernel
theorem dX10_set_20 : decode cX10_set 20 = .ok (.invokevirtual 95, 3) := by decide +kernel
theorem dX10_set_23 : decode cX10_set 23 = .ok (.ireturn, 1) := by decide +kernel
theorem dX10_setRate_0 : decode cX10_setRate 0 = .ok (.aload_n 0, 1) := by decide +kernel
theorem dX10_setRate_1 : decode cX10_setRate 1 = .ok (.bipush 6, 2) := by decide +kernel
theorem dX10_setRate_3 : decode cX10_setRate 3 = .ok (.iload_n 1, 1) := by decide +kernel
theorem dX10_setRate_4 : decode cX10_setRate 4 = .ok (.invokevirtual 95, 3) := by decide +kernel
theorem dX10_setRate_7 : decode cX10_setRate 7 = .ok (.ireturn, 1) := by decide +kernel
theorem dX10_setHoliday_0 : decode cX10_setHoliday 0 = .ok (.aload_n 0, 1) := by decide +kernel
theorem dX10_setHoliday_1 : decode cX10_setHoliday 1 = .ok (.iload_n 2, 1) := by decide +kernel
theorem dX10_setHoliday_2 : decode cX10_setHoliday 2 = .ok (.ifCond .eq 8, 3) := by decide +kernel
theorem dX10_setHoliday_5 : decode cX10_setHoliday 5 = .ok (.bipush 7, 2) := by decide +kernel
theorem dX10_setHoliday_7 : decode cX10_setHoliday 7 = .ok (.goto 5, 3) := by decide +kernel
theorem dX10_setHoliday_10 : decode cX10_setHoliday 10 = .ok (.bipush 8, 2) := by decide +kernel
theorem dX10_setHoliday_12 : decode cX10_setHoliday 12 = .ok (.iload_n 1, 1) := by decide +kernel
theorem dX10_setHoliday_13 : decode cX10_setHoliday 13 = .ok (.invokevirtual 95, 3) := by decide +kernel
theorem dX10_setHoliday_16 : decode cX10_setHoliday 16 = .ok (.iconst 1, 1) := by decide +kernel
theorem dX10_setHoliday_17 : decode cX10_setHoliday 17 = .ok (.if_icmp .ne 7, 3) := by decide +kernel
theorem dX10_setHoliday_20 : decode cX10_setHoliday 20 = .ok (.iconst 1, 1) := by decide +kernel
theorem dX10_setHoliday_21 : decode cX10_setHoliday 21 = .ok (.goto 4, 3) := by decide +kernel
theorem dX10_setHoliday_24 : decode cX10_setHoliday 24 = .ok (.iconst 0, 1) := by decide +kernel
theorem dX10_setHoliday_25 : decode cX10_setHoliday 25 = .ok (.ireturn, 1) := by decide +kernel
theorem dX10_pay_0 : decode cX10_pay 0 = .ok (.aload_n 0, 1) := by decide +kernel
theorem dX10_pay_1 : decode cX10_pay 1 = .ok (.bipush 9, 2) := by decide +kernel
theorem dX10_pay_3 : decode cX10_pay 3 = .ok (.iload_n 1, 1) := by decide +kernel
theorem dX10_pay_4 : decode cX10_pay 4 = .ok (.invokevirtual 95, 3) := by decide +kernel
theorem dX10_pay_7 : decode cX10_pay 7 = .ok (.ireturn, 1) := by decide +kernel
theorem dX10_waive_0 : decode cX10_waive 0 = .ok (.aload_n 0, 1) := by decide +kernel
theorem dX10_waive_1 : decode cX10_waive 1 = .ok (.bipush 10, 2) := by decide +kernel
theorem dX10_waive_3 : decode cX10_waive 3 = .ok (.iload_n 1, 1) := by decide +kernel
theorem dX10_waive_4 : decode cX10_waive 4 = .ok (.invokevirtual 95, 3) := by decide +kernel
theorem dX10_waive_7 : decode cX10_waive 7 = .ok (.ireturn, 1) := by decide +kernel
theorem dX10_explain_0 : decode cX10_explain 0 = .ok (.iload_n 2, 1) := by decide +kernel
theorem dX10_explain_1 : decode cX10_explain 1 = .ok (.iconst 0, 1) := by decide +kernel
theorem dX10_explain_2 : decode cX10_explain 2 = .ok (.iconst 5, 1) := by decide +kernel
theorem dX10_explain_3 : decode cX10_explain 3 = .ok (.invokestatic 65, 3) := by decide +kernel
theorem dX10_explain_6 : decode cX10_explain 6 = .ok (.ifCond .ne 11, 3) := by decide +kernel
theorem dX10_explain_9 : decode cX10_explain 9 = .ok (.new 69, 3) := by decide +kernel
theorem dX10_explain_12 : decode cX10_explain 12 = .ok (.dup, 1) := by decide +kernel
theorem dX10_explain_13 : decode cX10_explain 13 = .ok (.invokespecial 71, 3) := by decide +kernel
theorem dX10_explain_16 : decode cX10_explain 16 = .ok (.athrow, 1) := by decide +kernel
theorem dX10_explain_17 : decode cX10_explain 17 = .ok (.aload_n 0, 1) := by decide +kernel
theorem dX10_explain_18 : decode cX10_explain 18 = .ok (.getfield 10, 3) := by decide +kernel
theorem dX10_explain_21 : decode cX10_explain 21 = .ok (.bipush 9, 2) := by decide +kernel
theorem dX10_explain_23 : decode cX10_explain 23 = .ok (.iload_n 1, 1) := by decide +kernel
theorem dX10_explain_24 : decode cX10_explain 24 = .ok (.invokevirtual 121, 3) := by decide +kernel
theorem dX10_explain_27 : decode cX10_explain 27 = .ok (.invokestatic 124, 3) := by decide +kernel
theorem dX10_explain_30 : decode cX10_explain 30 = .ok (.aload_n 0, 1) := by decide +kernel
theorem dX10_explain_31 : decode cX10_explain 31 = .ok (.getfield 16, 3) := by decide +kernel
theorem dX10_explain_34 : decode cX10_explain 34 = .ok (.aload_n 0, 1) := by decide +kernel
theorem dX10_explain_35 : decode cX10_explain 35 = .ok (.getfield 10, 3) := by decide +kernel
theorem dX10_explain_38 : decode cX10_explain 38 = .ok (.invokevirtual 128, 3) := by decide +kernel
theorem dX10_explain_41 : decode cX10_explain 41 = .ok (.aload_n 0, 1) := by decide +kernel
theorem dX10_explain_42 : decode cX10_explain 42 = .ok (.getfield 16, 3) := by decide +kernel
theorem dX10_explain_45 : decode cX10_explain 45 = .ok (.bipush 9, 2) := by decide +kernel
theorem dX10_explain_47 : decode cX10_explain 47 = .ok (.iload_n 1, 1) := by decide +kernel
theorem dX10_explain_48 : decode cX10_explain 48 = .ok (.aload_n 0, 1) := by decide +kernel
theorem dX10_explain_49 : decode cX10_explain 49 = .ok (.getfield 39, 3) := by decide +kernel
theorem dX10_explain_52 : decode cX10_explain 52 = .ok (.iconst 0, 1) := by decide +kernel
theorem dX10_explain_53 : decode cX10_explain 53 = .ok (.invokevirtual 132, 3) := by decide +kernel
theorem dX10_explain_56 : decode cX10_explain 56 = .ok (.pop, 1) := by decide +kernel
theorem dX10_explain_57 : decode cX10_explain 57 = .ok (.iload_n 2, 1) := by decide +kernel
theorem dX10_explain_58 : decode cX10_explain 58 = .ok (.tableswitch 145 0 4 #[34, 61, 88, 115, 134], 34) := by decide +kernel
theorem dX10_explain_92 : decode cX10_explain 92 = .ok (.aload_n 0, 1) := by decide +kernel
theorem dX10_explain_93 : decode cX10_explain 93 = .ok (.getfield 16, 3) := by decide +kernel
theorem dX10_explain_96 : decode cX10_explain 96 = .ok (.getfield 85, 3) := by decide +kernel
theorem dX10_explain_99 : decode cX10_explain 99 = .ok (.getfield 136, 3) := by decide +kernel
theorem dX10_explain_102 : decode cX10_explain 102 = .ok (.iconst 1, 1) := by decide +kernel
theorem dX10_explain_103 : decode cX10_explain 103 = .ok (.laload, 1) := by decide +kernel
theorem dX10_explain_104 : decode cX10_explain 104 = .ok (.aload_n 0, 1) := by decide +kernel
theorem dX10_explain_105 : decode cX10_explain 105 = .ok (.getfield 10, 3) := by decide +kernel
theorem dX10_explain_108 : decode cX10_explain 108 = .ok (.getfield 85, 3) := by decide +kernel
theorem dX10_explain_111 : decode cX10_explain 111 = .ok (.getfield 136, 3) := by decide +kernel
theorem dX10_explain_114 : decode cX10_explain 114 = .ok (.iconst 1, 1) := by decide +kernel
theorem dX10_explain_115 : decode cX10_explain 115 = .ok (.laload, 1) := by decide +kernel
theorem dX10_explain_116 : decode cX10_explain 116 = .ok (.lsub, 1) := by decide +kernel
theorem dX10_explain_117 : decode cX10_explain 117 = .ok (.l2i, 1) := by decide +kernel
theorem dX10_explain_118 : decode cX10_explain 118 = .ok (.ireturn, 1) := by decide +kernel
theorem dX10_explain_119 : decode cX10_explain 119 = .ok (.aload_n 0, 1) := by decide +kernel
theorem dX10_explain_120 : decode cX10_explain 120 = .ok (.getfield 16, 3) := by decide +kernel
theorem dX10_explain_123 : decode cX10_explain 123 = .ok (.getfield 85, 3) := by decide +kernel
theorem dX10_explain_126 : decode cX10_explain 126 = .ok (.getfield 136, 3) := by decide +kernel
theorem dX10_explain_129 : decode cX10_explain 129 = .ok (.iconst 2, 1) := by decide +kernel
theorem dX10_explain_130 : decode cX10_explain 130 = .ok (.laload, 1) := by decide +kernel
theorem dX10_explain_131 : decode cX10_explain 131 = .ok (.aload_n 0, 1) := by decide +kernel
theorem dX10_explain_132 : decode cX10_explain 132 = .ok (.getfield 10, 3) := by decide +kernel
theorem dX10_explain_135 : decode cX10_explain 135 = .ok (.getfield 85, 3) := by decide +kernel
theorem dX10_explain_138 : decode cX10_explain 138 = .ok (.getfield 136, 3) := by decide +kernel
theorem dX10_explain_141 : decode cX10_explain 141 = .ok (.iconst 2, 1) := by decide +kernel
theorem dX10_explain_142 : decode cX10_explain 142 = .ok (.laload, 1) := by decide +kernel
theorem dX10_explain_143 : decode cX10_explain 143 = .ok (.lsub, 1) := by decide +kernel
theorem dX10_explain_144 : decode cX10_explain 144 = .ok (.l2i, 1) := by decide +kernel
theorem dX10_explain_145 : decode cX10_explain 145 = .ok (.ireturn, 1) := by decide +kernel
theorem dX10_explain_146 : decode cX10_explain 146 = .ok (.aload_n 0, 1) := by decide +kernel
theorem dX10_explain_147 : decode cX10_explain 147 = .ok (.getfield 16, 3) := by decide +kernel
theorem dX10_explain_150 : decode cX10_explain 150 = .ok (.getfield 85, 3) := by decide +kernel
theorem dX10_explain_153 : decode cX10_explain 153 = .ok (.getfield 136, 3) := by decide +kernel
theorem dX10_explain_156 : decode cX10_explain 156 = .ok (.iconst 3, 1) := by decide +kernel
theorem dX10_explain_157 : decode cX10_explain 157 = .ok (.laload, 1) := by decide +kernel
theorem dX10_explain_158 : decode cX10_explain 158 = .ok (.aload_n 0, 1) := by decide +kernel
theorem dX10_explain_159 : decode cX10_explain 159 = .ok (.getfield 10, 3) := by decide +kernel
theorem dX10_explain_162 : decode cX10_explain 162 = .ok (.getfield 85, 3) := by decide +kernel
theorem dX10_explain_165 : decode cX10_explain 165 = .ok (.getfield 136, 3) := by decide +kernel
theorem dX10_explain_168 : decode cX10_explain 168 = .ok (.iconst 3, 1) := by decide +kernel
theorem dX10_explain_169 : decode cX10_explain 169 = .ok (.laload, 1) := by decide +kernel
theorem dX10_explain_170 : decode cX10_explain 170 = .ok (.lsub, 1) := by decide +kernel
theorem dX10_explain_171 : decode cX10_explain 171 = .ok (.l2i, 1) := by decide +kernel
theorem dX10_explain_172 : decode cX10_explain 172 = .ok (.ireturn, 1) := by decide +kernel
theorem dX10_explain_173 : decode cX10_explain 173 = .ok (.lconst 0, 1) := by decide +kernel
theorem dX10_explain_174 : decode cX10_explain 174 = .ok (.iload_n 1, 1) := by decide +kernel
theorem dX10_explain_175 : decode cX10_explain 175 = .ok (.i2l, 1) := by decide +kernel
theorem dX10_explain_176 : decode cX10_explain 176 = .ok (.aload_n 0, 1) := by decide +kernel
theorem dX10_explain_177 : decode cX10_explain 177 = .ok (.getfield 10, 3) := by decide +kernel
theorem dX10_explain_180 : decode cX10_explain 180 = .ok (.getfield 140, 3) := by decide +kernel
theorem dX10_explain_183 : decode cX10_explain 183 = .ok (.invokevirtual 144, 3) := by decide +kernel
theorem dX10_explain_186 : decode cX10_explain 186 = .ok (.lsub, 1) := by decide +kernel
theorem dX10_explain_187 : decode cX10_explain 187 = .ok (.invokestatic 150, 3) := by decide +kernel
theorem dX10_explain_190 : decode cX10_explain 190 = .ok (.l2i, 1) := by decide +kernel
theorem dX10_explain_191 : decode cX10_explain 191 = .ok (.ireturn, 1) := by decide +kernel
theorem dX10_explain_192 : decode cX10_explain 192 = .ok (.aload_n 0, 1) := by decide +kernel
theorem dX10_explain_193 : decode cX10_explain 193 = .ok (.getfield 16, 3) := by decide +kernel
theorem dX10_explain_196 : decode cX10_explain 196 = .ok (.getfield 85, 3) := by decide +kernel
theorem dX10_explain_199 : decode cX10_explain 199 = .ok (.getfield 156, 3) := by decide +kernel
theorem dX10_explain_202 : decode cX10_explain 202 = .ok (.ireturn, 1) := by decide +kernel
theorem dX10_explain_203 : decode cX10_explain 203 = .ok (.aload_n 0, 1) := by decide +kernel
theorem dX10_explain_204 : decode cX10_explain 204 = .ok (.getfield 16, 3) := by decide +kernel
theorem dX10_explain_207 : decode cX10_explain 207 = .ok (.getfield 85, 3) := by decide +kernel
theorem dX10_explain_210 : decode cX10_explain 210 = .ok (.getfield 89, 3) := by decide +kernel
theorem dX10_explain_213 : decode cX10_explain 213 = .ok (.l2i, 1) := by decide +kernel
theorem dX10_explain_214 : decode cX10_explain 214 = .ok (.ireturn, 1) := by decide +kernel
theorem dX10_number_0 : decode cX10_number 0 = .ok (.aload_n 0, 1) := by decide +kernel
theorem dX10_number_1 : decode cX10_number 1 = .ok (.getfield 10, 3) := by decide +kernel
theorem dX10_number_4 : decode cX10_number 4 = .ok (.getfield 85, 3) := by decide +kernel
theorem dX10_number_7 : decode cX10_number 7 = .ok (.astore_n 2, 1) := by decide +kernel
theorem dX10_number_8 : decode cX10_number 8 = .ok (.iload_n 1, 1) := by decide +kernel
theorem dX10_number_9 : decode cX10_number 9 = .ok (.tableswitch 134 0 9 #[55, 61, 67, 73, 79, 85, 90, 106, 118, 129], 55) := by decide +kernel
theorem dX10_number_64 : decode cX10_number 64 = .ok (.aload_n 2, 1) := by decide +kernel
theorem dX10_number_65 : decode cX10_number 65 = .ok (.getfield 159, 3) := by decide +kernel
theorem dX10_number_68 : decode cX10_number 68 = .ok (.l2i, 1) := by decide +kernel
theorem dX10_number_69 : decode cX10_number 69 = .ok (.ireturn, 1) := by decide +kernel
theorem dX10_number_70 : decode cX10_number 70 = .ok (.aload_n 2, 1) := by decide +kernel
theorem dX10_number_71 : decode cX10_number 71 = .ok (.getfield 162, 3) := by decide +kernel
theorem dX10_number_74 : decode cX10_number 74 = .ok (.l2i, 1) := by decide +kernel
theorem dX10_number_75 : decode cX10_number 75 = .ok (.ireturn, 1) := by decide +kernel
theorem dX10_number_76 : decode cX10_number 76 = .ok (.aload_n 2, 1) := by decide +kernel
theorem dX10_number_77 : decode cX10_number 77 = .ok (.getfield 165, 3) := by decide +kernel
theorem dX10_number_80 : decode cX10_number 80 = .ok (.l2i, 1) := by decide +kernel
theorem dX10_number_81 : decode cX10_number 81 = .ok (.ireturn, 1) := by decide +kernel
theorem dX10_number_82 : decode cX10_number 82 = .ok (.aload_n 2, 1) := by decide +kernel
theorem dX10_number_83 : decode cX10_number 83 = .ok (.invokevirtual 168, 3) := by decide +kernel
theorem dX10_number_86 : decode cX10_number 86 = .ok (.l2i, 1) := by decide +kernel
theorem dX10_number_87 : decode cX10_number 87 = .ok (.ireturn, 1) := by decide +kernel
theorem dX10_number_88 : decode cX10_number 88 = .ok (.aload_n 2, 1) := by decide +kernel
theorem dX10_number_89 : decode cX10_number 89 = .ok (.getfield 89, 3) := by decide +kernel
theorem dX10_number_92 : decode cX10_number 92 = .ok (.l2i, 1) := by decide +kernel
theorem dX10_number_93 : decode cX10_number 93 = .ok (.ireturn, 1) := by decide +kernel
theorem dX10_number_94 : decode cX10_number 94 = .ok (.aload_n 2, 1) := by decide +kernel
theorem dX10_number_95 : decode cX10_number 95 = .ok (.getfield 156, 3) := by decide +kernel
theorem dX10_number_98 : decode cX10_number 98 = .ok (.ireturn, 1) := by decide +kernel
theorem dX10_number_99 : decode cX10_number 99 = .ok (.aload_n 2, 1) := by decide +kernel
theorem dX10_number_100 : decode cX10_number 100 = .ok (.getfield 156, 3) := by decide +kernel
theorem dX10_number_103 : decode cX10_number 103 = .ok (.ifCond .le 10, 3) := by decide +kernel
theorem dX10_number_106 : decode cX10_number 106 = .ok (.aload_n 2, 1) := by decide +kernel
theorem dX10_number_107 : decode cX10_number 107 = .ok (.getfield 171, 3) := by decide +kernel
theorem dX10_number_110 : decode cX10_number 110 = .ok (.goto 4, 3) := by decide +kernel
theorem dX10_number_113 : decode cX10_number 113 = .ok (.iconst (-1), 1) := by decide +kernel
theorem dX10_number_114 : decode cX10_number 114 = .ok (.ireturn, 1) := by decide +kernel
theorem dX10_number_115 : decode cX10_number 115 = .ok (.aload_n 0, 1) := by decide +kernel
theorem dX10_number_116 : decode cX10_number 116 = .ok (.getfield 10, 3) := by decide +kernel
theorem dX10_number_119 : decode cX10_number 119 = .ok (.getfield 140, 3) := by decide +kernel
theorem dX10_number_122 : decode cX10_number 122 = .ok (.invokevirtual 144, 3) := by decide +kernel
theorem dX10_number_125 : decode cX10_number 125 = .ok (.l2i, 1) := by decide +kernel
theorem dX10_number_126 : decode cX10_number 126 = .ok (.ireturn, 1) := by decide +kernel
theorem dX10_number_127 : decode cX10_number 127 = .ok (.aload_n 0, 1) := by decide +kernel
theorem dX10_number_128 : decode cX10_number 128 = .ok (.getfield 10, 3) := by decide +kernel
theorem dX10_number_131 : decode cX10_number 131 = .ok (.getfield 140, 3) := by decide +kernel
theorem dX10_number_134 : decode cX10_number 134 = .ok (.invokevirtual 174, 3) := by decide +kernel
theorem dX10_number_137 : decode cX10_number 137 = .ok (.ireturn, 1) := by decide +kernel
theorem dX10_number_138 : decode cX10_number 138 = .ok (.aload_n 2, 1) := by decide +kernel
theorem dX10_number_139 : decode cX10_number 139 = .ok (.getfield 178, 3) := by decide +kernel
theorem dX10_number_142 : decode cX10_number 142 = .ok (.ireturn, 1) := by decide +kernel
theorem dX10_number_143 : decode cX10_number 143 = .ok (.new 69, 3) := by decide +kernel
theorem dX10_number_146 : decode cX10_number 146 = .ok (.dup, 1) := by decide +kernel
theorem dX10_number_147 : decode cX10_number 147 = .ok (.invokespecial 71, 3) := by decide +kernel
theorem dX10_number_150 : decode cX10_number 150 = .ok (.athrow, 1) := by decide +kernel
theorem dX10_accruedUnits_0 : decode cX10_accruedUnits 0 = .ok (.aload_n 0, 1) := by decide +kernel
theorem dX10_accruedUnits_1 : decode cX10_accruedUnits 1 = .ok (.getfield 10, 3) := by decide +kernel
theorem dX10_accruedUnits_4 : decode cX10_accruedUnits 4 = .ok (.getfield 85, 3) := by decide +kernel
theorem dX10_accruedUnits_7 : decode cX10_accruedUnits 7 = .ok (.getfield 181, 3) := by decide +kernel
theorem dX10_accruedUnits_10 : decode cX10_accruedUnits 10 = .ok (.lreturn, 1) := by decide +kernel
theorem dX10_total_0 : decode cX10_total 0 = .ok (.aload_n 0, 1) := by decide +kernel
theorem dX10_total_1 : decode cX10_total 1 = .ok (.getfield 10, 3) := by decide +kernel
theorem dX10_total_4 : decode cX10_total 4 = .ok (.getfield 85, 3) := by decide +kernel
theorem dX10_total_7 : decode cX10_total 7 = .ok (.getfield 136, 3) := by decide +kernel
theorem dX10_total_10 : decode cX10_total 10 = .ok (.astore_n 2, 1) := by decide +kernel
theorem dX10_total_11 : decode cX10_total 11 = .ok (.iload_n 1, 1) := by decide +kernel
theorem dX10_total_12 : decode cX10_total 12 = .ok (.ifCond .lt 9, 3) := by decide +kernel
theorem dX10_total_15 : decode cX10_total 15 = .ok (.iload_n 1, 1) := by decide +kernel
theorem dX10_total_16 : decode cX10_total 16 = .ok (.aload_n 2, 1) := by decide +kernel
theorem dX10_total_17 : decode cX10_total 17 = .ok (.arraylength, 1) := by decide +kernel
theorem dX10_total_18 : decode cX10_total 18 = .ok (.if_icmp .lt 11, 3) := by decide +kernel
theorem dX10_total_21 : decode cX10_total 21 = .ok (.new 69, 3) := by decide +kernel
theorem dX10_total_24 : decode cX10_total 24 = .ok (.dup, 1) := by decide +kernel
theorem dX10_total_25 : decode cX10_total 25 = .ok (.invokespecial 71, 3) := by decide +kernel
theorem dX10_total_28 : decode cX10_total 28 = .ok (.athrow, 1) := by decide +kernel
theorem dX10_total_29 : decode cX10_total 29 = .ok (.aload_n 2, 1) := by decide +kernel
theorem dX10_total_30 : decode cX10_total 30 = .ok (.iload_n 1, 1) := by decide +kernel
theorem dX10_total_31 : decode cX10_total 31 = .ok (.laload, 1) := by decide +kernel
theorem dX10_total_32 : decode cX10_total 32 = .ok (.l2i, 1) := by decide +kernel
theorem dX10_total_33 : decode cX10_total 33 = .ok (.ireturn, 1) := by decide +kernel
theorem dX10_condition_0 : decode cX10_condition 0 = .ok (.aload_n 0, 1) := by decide +kernel
theorem dX10_condition_1 : decode cX10_condition 1 = .ok (.getfield 10, 3) := by decide +kernel
theorem dX10_condition_4 : decode cX10_condition 4 = .ok (.getfield 85, 3) := by decide +kernel
theorem dX10_condition_7 : decode cX10_condition 7 = .ok (.getfield 184, 3) := by decide +kernel
theorem dX10_condition_10 : decode cX10_condition 10 = .ok (.ifCond .ne 5, 3) := by decide +kernel
theorem dX10_condition_13 : decode cX10_condition 13 = .ok (.iconst 0, 1) := by decide +kernel
theorem dX10_condition_14 : decode cX10_condition 14 = .ok (.ireturn, 1) := by decide +kernel
theorem dX10_condition_15 : decode cX10_condition 15 = .ok (.aload_n 0, 1) := by decide +kernel
theorem dX10_condition_16 : decode cX10_condition 16 = .ok (.getfield 10, 3) := by decide +kernel
theorem dX10_condition_19 : decode cX10_condition 19 = .ok (.getfield 140, 3) := by decide +kernel
theorem dX10_condition_22 : decode cX10_condition 22 = .ok (.invokevirtual 188, 3) := by decide +kernel
theorem dX10_condition_25 : decode cX10_condition 25 = .ok (.ifCond .eq 5, 3) := by decide +kernel
theorem dX10_condition_28 : decode cX10_condition 28 = .ok (.iconst 2, 1) := by decide +kernel
theorem dX10_condition_29 : decode cX10_condition 29 = .ok (.ireturn, 1) := by decide +kernel
theorem dX10_condition_30 : decode cX10_condition 30 = .ok (.aload_n 0, 1) := by decide +kernel
theorem dX10_condition_31 : decode cX10_condition 31 = .ok (.getfield 10, 3) := by decide +kernel
theorem dX10_condition_34 : decode cX10_condition 34 = .ok (.getfield 85, 3) := by decide +kernel
theorem dX10_condition_37 : decode cX10_condition 37 = .ok (.getfield 156, 3) := by decide +kernel
theorem dX10_condition_40 : decode cX10_condition 40 = .ok (.ifCond .le 5, 3) := by decide +kernel
theorem dX10_condition_43 : decode cX10_condition 43 = .ok (.iconst 1, 1) := by decide +kernel
theorem dX10_condition_44 : decode cX10_condition 44 = .ok (.ireturn, 1) := by decide +kernel
theorem dX10_condition_45 : decode cX10_condition 45 = .ok (.aload_n 0, 1) := by decide +kernel
theorem dX10_condition_46 : decode cX10_condition 46 = .ok (.getfield 10, 3) := by decide +kernel
theorem dX10_condition_49 : decode cX10_condition 49 = .ok (.getfield 85, 3) := by decide +kernel
theorem dX10_condition_52 : decode cX10_condition 52 = .ok (.invokevirtual 192, 3) := by decide +kernel
theorem dX10_condition_55 : decode cX10_condition 55 = .ok (.lconst 0, 1) := by decide +kernel
theorem dX10_condition_56 : decode cX10_condition 56 = .ok (.lcmp, 1) := by decide +kernel
theorem dX10_condition_57 : decode cX10_condition 57 = .ok (.ifCond .le 7, 3) := by decide +kernel
theorem dX10_condition_60 : decode cX10_condition 60 = .ok (.iconst 3, 1) := by decide +kernel
theorem dX10_condition_61 : decode cX10_condition 61 = .ok (.goto 4, 3) := by decide +kernel
theorem dX10_condition_64 : decode cX10_condition 64 = .ok (.iconst 4, 1) := by decide +kernel
theorem dX10_condition_65 : decode cX10_condition 65 = .ok (.ireturn, 1) := by decide +kernel
theorem dX10_interestShare_0 : decode cX10_interestShare 0 = .ok (.aload_n 0, 1) := by decide +kernel
theorem dX10_interestShare_1 : decode cX10_interestShare 1 = .ok (.getfield 10, 3) := by decide +kernel
theorem dX10_interestShare_4 : decode cX10_interestShare 4 = .ok (.getfield 85, 3) := by decide +kernel
theorem dX10_interestShare_7 : decode cX10_interestShare 7 = .ok (.getfield 136, 3) := by decide +kernel
theorem dX10_interestShare_10 : decode cX10_interestShare 10 = .ok (.iconst 0, 1) := by decide +kernel
theorem dX10_interestShare_11 : decode cX10_interestShare 11 = .ok (.laload, 1) := by decide +kernel
theorem dX10_interestShare_12 : decode cX10_interestShare 12 = .ok (.lstore_n 1, 1) := by decide +kernel
theorem dX10_interestShare_13 : decode cX10_interestShare 13 = .ok (.lload_n 1, 1) := by decide +kernel
theorem dX10_interestShare_14 : decode cX10_interestShare 14 = .ok (.lconst 0, 1) := by decide +kernel
theorem dX10_interestShare_15 : decode cX10_interestShare 15 = .ok (.lcmp, 1) := by decide +kernel
theorem dX10_interestShare_16 : decode cX10_interestShare 16 = .ok (.ifCond .gt 11, 3) := by decide +kernel
theorem dX10_interestShare_19 : decode cX10_interestShare 19 = .ok (.new 195, 3) := by decide +kernel
theorem dX10_interestShare_22 : decode cX10_interestShare 22 = .ok (.dup, 1) := by decide +kernel
theorem dX10_interestShare_23 : decode cX10_interestShare 23 = .ok (.invokespecial 197, 3) := by decide +kernel
theorem dX10_interestShare_26 : decode cX10_interestShare 26 = .ok (.athrow, 1) := by decide +kernel
theorem dX10_interestShare_27 : decode cX10_interestShare 27 = .ok (.aload_n 0, 1) := by decide +kernel
theorem dX10_interestShare_28 : decode cX10_interestShare 28 = .ok (.getfield 10, 3) := by decide +kernel
theorem dX10_interestShare_31 : decode cX10_interestShare 31 = .ok (.getfield 85, 3) := by decide +kernel
theorem dX10_interestShare_34 : decode cX10_interestShare 34 = .ok (.getfield 136, 3) := by decide +kernel
theorem dX10_interestShare_37 : decode cX10_interestShare 37 = .ok (.iconst 2, 1) := by decide +kernel
theorem dX10_interestShare_38 : decode cX10_interestShare 38 = .ok (.laload, 1) := by decide +kernel
theorem dX10_interestShare_39 : decode cX10_interestShare 39 = .ok (.l2d, 1) := by decide +kernel
theorem dX10_interestShare_40 : decode cX10_interestShare 40 = .ok (.lload_n 1, 1) := by decide +kernel
theorem dX10_interestShare_41 : decode cX10_interestShare 41 = .ok (.l2d, 1) := by decide +kernel
theorem dX10_interestShare_42 : decode cX10_interestShare 42 = .ok (.ddiv, 1) := by decide +kernel
theorem dX10_interestShare_43 : decode cX10_interestShare 43 = .ok (.dreturn, 1) := by decide +kernel
theorem dX10_progress_0 : decode cX10_progress 0 = .ok (.aload_n 0, 1) := by decide +kernel
theorem dX10_progress_1 : decode cX10_progress 1 = .ok (.getfield 10, 3) := by decide +kernel
theorem dX10_progress_4 : decode cX10_progress 4 = .ok (.getfield 85, 3) := by decide +kernel
theorem dX10_progress_7 : decode cX10_progress 7 = .ok (.getfield 198, 3) := by decide +kernel
theorem dX10_progress_10 : decode cX10_progress 10 = .ok (.aload_n 0, 1) := by decide +kernel
theorem dX10_progress_11 : decode cX10_progress 11 = .ok (.getfield 10, 3) := by decide +kernel
theorem dX10_progress_14 : decode cX10_progress 14 = .ok (.getfield 85, 3) := by decide +kernel
theorem dX10_progress_17 : decode cX10_progress 17 = .ok (.getfield 136, 3) := by decide +kernel
theorem dX10_progress_20 : decode cX10_progress 20 = .ok (.bipush 7, 2) := by decide +kernel
theorem dX10_progress_22 : decode cX10_progress 22 = .ok (.laload, 1) := by decide +kernel
theorem dX10_progress_23 : decode cX10_progress 23 = .ok (.ladd, 1) := by decide +kernel
theorem dX10_progress_24 : decode cX10_progress 24 = .ok (.lstore_n 1, 1) := by decide +kernel
theorem dX10_progress_25 : decode cX10_progress 25 = .ok (.aload_n 0, 1) := by decide +kernel
theorem dX10_progress_26 : decode cX10_progress 26 = .ok (.getfield 10, 3) := by decide +kernel
theorem dX10_progress_29 : decode cX10_progress 29 = .ok (.getfield 85, 3) := by decide +kernel
theorem dX10_progress_32 : decode cX10_progress 32 = .ok (.getfield 184, 3) := by decide +kernel
theorem dX10_progress_35 : decode cX10_progress 35 = .ok (.ifCond .eq 9, 3) := by decide +kernel
theorem dX10_progress_38 : decode cX10_progress 38 = .ok (.lload_n 1, 1) := by decide +kernel
theorem dX10_progress_39 : decode cX10_progress 39 = .ok (.lconst 0, 1) := by decide +kernel
theorem dX10_progress_40 : decode cX10_progress 40 = .ok (.lcmp, 1) := by decide +kernel
theorem dX10_progress_41 : decode cX10_progress 41 = .ok (.ifCond .gt 11, 3) := by decide +kernel
theorem dX10_progress_44 : decode cX10_progress 44 = .ok (.new 201, 3) := by decide +kernel
theorem dX10_progress_47 : decode cX10_progress 47 = .ok (.dup, 1) := by decide +kernel
theorem dX10_progress_48 : decode cX10_progress 48 = .ok (.invokespecial 203, 3) := by decide +kernel
theorem dX10_progress_51 : decode cX10_progress 51 = .ok (.athrow, 1) := by decide +kernel
theorem dX10_progress_52 : decode cX10_progress 52 = .ok (.aload_n 0, 1) := by decide +kernel
theorem dX10_progress_53 : decode cX10_progress 53 = .ok (.getfield 10, 3) := by decide +kernel
theorem dX10_progress_56 : decode cX10_progress 56 = .ok (.getfield 85, 3) := by decide +kernel
theorem dX10_progress_59 : decode cX10_progress 59 = .ok (.getfield 136, 3) := by decide +kernel
theorem dX10_progress_62 : decode cX10_progress 62 = .ok (.iconst 3, 1) := by decide +kernel
theorem dX10_progress_63 : decode cX10_progress 63 = .ok (.laload, 1) := by decide +kernel
theorem dX10_progress_64 : decode cX10_progress 64 = .ok (.l2f, 1) := by decide +kernel
theorem dX10_progress_65 : decode cX10_progress 65 = .ok (.lload_n 1, 1) := by decide +kernel
theorem dX10_progress_66 : decode cX10_progress 66 = .ok (.l2f, 1) := by decide +kernel
theorem dX10_progress_67 : decode cX10_progress 67 = .ok (.fdiv, 1) := by decide +kernel
theorem dX10_progress_68 : decode cX10_progress 68 = .ok (.freturn, 1) := by decide +kernel
theorem dX10_scheduleLength_0 : decode cX10_scheduleLength 0 = .ok (.aload_n 0, 1) := by decide +kernel
theorem dX10_scheduleLength_1 : decode cX10_scheduleLength 1 = .ok (.invokevirtual 204, 3) := by decide +kernel
theorem dX10_scheduleLength_4 : decode cX10_scheduleLength 4 = .ok (.aload_n 0, 1) := by decide +kernel
theorem dX10_scheduleLength_5 : decode cX10_scheduleLength 5 = .ok (.getfield 39, 3) := by decide +kernel
theorem dX10_scheduleLength_8 : decode cX10_scheduleLength 8 = .ok (.getfield 207, 3) := by decide +kernel
theorem dX10_scheduleLength_11 : decode cX10_scheduleLength 11 = .ok (.ireturn, 1) := by decide +kernel
theorem dX10_schedule_0 : decode cX10_schedule 0 = .ok (.aload_n 0, 1) := by decide +kernel
theorem dX10_schedule_1 : decode cX10_schedule 1 = .ok (.invokevirtual 204, 3) := by decide +kernel
theorem dX10_schedule_4 : decode cX10_schedule 4 = .ok (.aload_n 0, 1) := by decide +kernel
theorem dX10_schedule_5 : decode cX10_schedule 5 = .ok (.getfield 39, 3) := by decide +kernel
theorem dX10_schedule_8 : decode cX10_schedule 8 = .ok (.iload_n 1, 1) := by decide +kernel
theorem dX10_schedule_9 : decode cX10_schedule 9 = .ok (.invokevirtual 210, 3) := by decide +kernel
theorem dX10_schedule_12 : decode cX10_schedule 12 = .ok (.ifCond .ne 11, 3) := by decide +kernel
theorem dX10_schedule_15 : decode cX10_schedule 15 = .ok (.new 118, 3) := by decide +kernel
theorem dX10_schedule_18 : decode cX10_schedule 18 = .ok (.dup, 1) := by decide +kernel
theorem dX10_schedule_19 : decode cX10_schedule 19 = .ok (.invokespecial 120, 3) := by decide +kernel
theorem dX10_schedule_22 : decode cX10_schedule 22 = .ok (.athrow, 1) := by decide +kernel
theorem dX10_schedule_23 : decode cX10_schedule 23 = .ok (.iload_n 2, 1) := by decide +kernel
theorem dX10_schedule_24 : decode cX10_schedule 24 = .ok (.iconst 0, 1) := by decide +kernel
theorem dX10_schedule_25 : decode cX10_schedule 25 = .ok (.iconst 4, 1) := by decide +kernel
theorem dX10_schedule_26 : decode cX10_schedule 26 = .ok (.invokestatic 65, 3) := by decide +kernel
theorem dX10_schedule_29 : decode cX10_schedule 29 = .ok (.ifCond .ne 11, 3) := by decide +kernel
theorem dX10_schedule_32 : decode cX10_schedule 32 = .ok (.new 69, 3) := by decide +kernel
theorem dX10_schedule_35 : decode cX10_schedule 35 = .ok (.dup, 1) := by decide +kernel
theorem dX10_schedule_36 : decode cX10_schedule 36 = .ok (.invokespecial 71, 3) := by decide +kernel
theorem dX10_schedule_39 : decode cX10_schedule 39 = .ok (.athrow, 1) := by decide +kernel
theorem dX10_schedule_40 : decode cX10_schedule 40 = .ok (.aload_n 0, 1) := by decide +kernel
theorem dX10_schedule_41 : decode cX10_schedule 41 = .ok (.getfield 39, 3) := by decide +kernel
theorem dX10_schedule_44 : decode cX10_schedule 44 = .ok (.iload_n 1, 1) := by decide +kernel
theorem dX10_schedule_45 : decode cX10_schedule 45 = .ok (.iload_n 2, 1) := by decide +kernel
theorem dX10_schedule_46 : decode cX10_schedule 46 = .ok (.invokevirtual 214, 3) := by decide +kernel
theorem dX10_schedule_49 : decode cX10_schedule 49 = .ok (.l2i, 1) := by decide +kernel
theorem dX10_schedule_50 : decode cX10_schedule 50 = .ok (.ireturn, 1) := by decide +kernel
theorem dX10_installmentFor_0 : decode cX10_installmentFor 0 = .ok (.iload_n 1, 1) := by decide +kernel
theorem dX10_installmentFor_1 : decode cX10_installmentFor 1 = .ok (.iconst 1, 1) := by decide +kernel
theorem dX10_installmentFor_2 : decode cX10_installmentFor 2 = .ok (.bipush 60, 2) := by decide +kernel
theorem dX10_installmentFor_4 : decode cX10_installmentFor 4 = .ok (.invokestatic 65, 3) := by decide +kernel
theorem dX10_installmentFor_7 : decode cX10_installmentFor 7 = .ok (.ifCond .ne 11, 3) := by decide +kernel
theorem dX10_installmentFor_10 : decode cX10_installmentFor 10 = .ok (.new 69, 3) := by decide +kernel
theorem dX10_installmentFor_13 : decode cX10_installmentFor 13 = .ok (.dup, 1) := by decide +kernel
theorem dX10_installmentFor_14 : decode cX10_installmentFor 14 = .ok (.invokespecial 71, 3) := by decide +kernel
theorem dX10_installmentFor_17 : decode cX10_installmentFor 17 = .ok (.athrow, 1) := by decide +kernel
theorem dX10_installmentFor_18 : decode cX10_installmentFor 18 = .ok (.aload_n 0, 1) := by decide +kernel
theorem dX10_installmentFor_19 : decode cX10_installmentFor 19 = .ok (.getfield 10, 3) := by decide +kernel
theorem dX10_installmentFor_22 : decode cX10_installmentFor 22 = .ok (.getfield 85, 3) := by decide +kernel
theorem dX10_installmentFor_25 : decode cX10_installmentFor 25 = .ok (.getfield 156, 3) := by decide +kernel
theorem dX10_installmentFor_28 : decode cX10_installmentFor 28 = .ok (.ifCond .gt 11, 3) := by decide +kernel
theorem dX10_installmentFor_31 : decode cX10_installmentFor 31 = .ok (.new 201, 3) := by decide +kernel
theorem dX10_installmentFor_34 : decode cX10_installmentFor 34 = .ok (.dup, 1) := by decide +kernel
theorem dX10_installmentFor_35 : decode cX10_installmentFor 35 = .ok (.invokespecial 203, 3) := by decide +kernel
theorem dX10_installmentFor_38 : decode cX10_installmentFor 38 = .ok (.athrow, 1) := by decide +kernel
theorem dX10_installmentFor_39 : decode cX10_installmentFor 39 = .ok (.aload_n 0, 1) := by decide +kernel
theorem dX10_installmentFor_40 : decode cX10_installmentFor 40 = .ok (.getfield 39, 3) := by decide +kernel
theorem dX10_installmentFor_43 : decode cX10_installmentFor 43 = .ok (.aload_n 0, 1) := by decide +kernel
theorem dX10_installmentFor_44 : decode cX10_installmentFor 44 = .ok (.getfield 10, 3) := by decide +kernel
theorem dX10_installmentFor_47 : decode cX10_installmentFor 47 = .ok (.iload_n 1, 1) := by decide +kernel
theorem dX10_installmentFor_48 : decode cX10_installmentFor 48 = .ok (.invokevirtual 218, 3) := by decide +kernel
theorem dX10_installmentFor_51 : decode cX10_installmentFor 51 = .ok (.aload_n 0, 1) := by decide +kernel
theorem dX10_installmentFor_52 : decode cX10_installmentFor 52 = .ok (.getfield 39, 3) := by decide +kernel
theorem dX10_installmentFor_55 : decode cX10_installmentFor 55 = .ok (.iload_n 1, 1) := by decide +kernel
theorem dX10_installmentFor_56 : decode cX10_installmentFor 56 = .ok (.invokevirtual 222, 3) := by decide +kernel
theorem dX10_installmentFor_59 : decode cX10_installmentFor 59 = .ok (.l2i, 1) := by decide +kernel
theorem dX10_installmentFor_60 : decode cX10_installmentFor 60 = .ok (.ireturn, 1) := by decide +kernel
theorem dX10_append_0 : decode cX10_append 0 = .ok (.iload_n 1, 1) := by decide +kernel
theorem dX10_append_1 : decode cX10_append 1 = .ok (.bipush 32, 2) := by decide +kernel
theorem dX10_append_3 : decode cX10_append 3 = .ok (.bipush 126, 2) := by decide +kernel
theorem dX10_append_5 : decode cX10_append 5 = .ok (.invokestatic 65, 3) := by decide +kernel
theorem dX10_append_8 : decode cX10_append 8 = .ok (.ifCond .ne 11, 3) := by decide +kernel
theorem dX10_append_11 : decode cX10_append 11 = .ok (.new 69, 3) := by decide +kernel
theorem dX10_append_14 : decode cX10_append 14 = .ok (.dup, 1) := by decide +kernel
theorem dX10_append_15 : decode cX10_append 15 = .ok (.invokespecial 71, 3) := by decide +kernel
theorem dX10_append_18 : decode cX10_append 18 = .ok (.athrow, 1) := by decide +kernel
theorem dX10_append_19 : decode cX10_append 19 = .ok (.aload_n 0, 1) := by decide +kernel
theorem dX10_append_20 : decode cX10_append 20 = .ok (.getfield 46, 3) := by decide +kernel
theorem dX10_append_23 : decode cX10_append 23 = .ok (.invokevirtual 226, 3) := by decide +kernel
theorem dX10_append_26 : decode cX10_append 26 = .ok (.ifCond .ne 11, 3) := by decide +kernel
theorem dX10_append_29 : decode cX10_append 29 = .ok (.new 201, 3) := by decide +kernel
theorem dX10_append_32 : decode cX10_append 32 = .ok (.dup, 1) := by decide +kernel
theorem dX10_append_33 : decode cX10_append 33 = .ok (.invokespecial 203, 3) := by decide +kernel
theorem dX10_append_36 : decode cX10_append 36 = .ok (.athrow, 1) := by decide +kernel
theorem dX10_append_37 : decode cX10_append 37 = .ok (.aload_n 0, 1) := by decide +kernel
theorem dX10_append_38 : decode cX10_append 38 = .ok (.getfield 46, 3) := by decide +kernel
theorem dX10_append_41 : decode cX10_append 41 = .ok (.iload_n 1, 1) := by decide +kernel
theorem dX10_append_42 : decode cX10_append 42 = .ok (.invokevirtual 229, 3) := by decide +kernel
theorem dX10_append_45 : decode cX10_append 45 = .ok (.aload_n 0, 1) := by decide +kernel
theorem dX10_append_46 : decode cX10_append 46 = .ok (.getfield 46, 3) := by decide +kernel
theorem dX10_append_49 : decode cX10_append 49 = .ok (.getfield 233, 3) := by decide +kernel
theorem dX10_append_52 : decode cX10_append 52 = .ok (.ireturn, 1) := by decide +kernel
theorem dX10_execute_0 : decode cX10_execute 0 = .ok (.aload_n 0, 1) := by decide +kernel
theorem dX10_execute_1 : decode cX10_execute 1 = .ok (.getfield 46, 3) := by decide +kernel
theorem dX10_execute_4 : decode cX10_execute 4 = .ok (.invokevirtual 236, 3) := by decide +kernel
theorem dX10_execute_7 : decode cX10_execute 7 = .ok (.istore_n 1, 1) := by decide +kernel
theorem dX10_execute_8 : decode cX10_execute 8 = .ok (.aload_n 0, 1) := by decide +kernel
theorem dX10_execute_9 : decode cX10_execute 9 = .ok (.getfield 46, 3) := by decide +kernel
theorem dX10_execute_12 : decode cX10_execute 12 = .ok (.invokevirtual 239, 3) := by decide +kernel
theorem dX10_execute_15 : decode cX10_execute 15 = .ok (.iload_n 1, 1) := by decide +kernel
theorem dX10_execute_16 : decode cX10_execute 16 = .ok (.ifCond .lt 16, 3) := by decide +kernel
theorem dX10_execute_19 : decode cX10_execute 19 = .ok (.aload_n 0, 1) := by decide +kernel
theorem dX10_execute_20 : decode cX10_execute 20 = .ok (.iload_n 1, 1) := by decide +kernel
theorem dX10_execute_21 : decode cX10_execute 21 = .ok (.putfield 56, 3) := by decide +kernel
theorem dX10_execute_24 : decode cX10_execute 24 = .ok (.new 69, 3) := by decide +kernel
theorem dX10_execute_27 : decode cX10_execute 27 = .ok (.dup, 1) := by decide +kernel
theorem dX10_execute_28 : decode cX10_execute 28 = .ok (.invokespecial 71, 3) := by decide +kernel
theorem dX10_execute_31 : decode cX10_execute 31 = .ok (.athrow, 1) := by decide +kernel
theorem dX10_execute_32 : decode cX10_execute 32 = .ok (.aload_n 0, 1) := by decide +kernel
theorem dX10_execute_33 : decode cX10_execute 33 = .ok (.getfield 16, 3) := by decide +kernel
theorem dX10_execute_36 : decode cX10_execute 36 = .ok (.aload_n 0, 1) := by decide +kernel
theorem dX10_execute_37 : decode cX10_execute 37 = .ok (.getfield 10, 3) := by decide +kernel
theorem dX10_execute_40 : decode cX10_execute 40 = .ok (.invokevirtual 128, 3) := by decide +kernel
theorem dX10_execute_43 : decode cX10_execute 43 = .ok (.iconst 0, 1) := by decide +kernel
theorem dX10_execute_44 : decode cX10_execute 44 = .ok (.istore_n 2, 1) := by decide +kernel
theorem dX10_execute_45 : decode cX10_execute 45 = .ok (.iload_n 2, 1) := by decide +kernel
theorem dX10_execute_46 : decode cX10_execute 46 = .ok (.aload_n 0, 1) := by decide +kernel
theorem dX10_execute_47 : decode cX10_execute 47 = .ok (.getfield 46, 3) := by decide +kernel
theorem dX10_execute_50 : decode cX10_execute 50 = .ok (.getfield 242, 3) := by decide +kernel
theorem dX10_execute_53 : decode cX10_execute 53 = .ok (.if_icmp .ge 94, 3) := by decide +kernel
theorem dX10_execute_56 : decode cX10_execute 56 = .ok (.aload_n 0, 1) := by decide +kernel
theorem dX10_execute_57 : decode cX10_execute 57 = .ok (.getfield 46, 3) := by decide +kernel
theorem dX10_execute_60 : decode cX10_execute 60 = .ok (.iload_n 2, 1) := by decide +kernel
theorem dX10_execute_61 : decode cX10_execute 61 = .ok (.invokevirtual 245, 3) := by decide +kernel
theorem dX10_execute_64 : decode cX10_execute 64 = .ok (.istore_n 3, 1) := by decide +kernel
theorem dX10_execute_65 : decode cX10_execute 65 = .ok (.aload_n 0, 1) := by decide +kernel
theorem dX10_execute_66 : decode cX10_execute 66 = .ok (.getfield 46, 3) := by decide +kernel
theorem dX10_execute_69 : decode cX10_execute 69 = .ok (.iload_n 2, 1) := by decide +kernel
theorem dX10_execute_70 : decode cX10_execute 70 = .ok (.invokevirtual 248, 3) := by decide +kernel
theorem dX10_execute_73 : decode cX10_execute 73 = .ok (.istore 4, 2) := by decide +kernel
theorem dX10_execute_75 : decode cX10_execute 75 = .ok (.aload_n 0, 1) := by decide +kernel
theorem dX10_execute_76 : decode cX10_execute 76 = .ok (.getfield 16, 3) := by decide +kernel
theorem dX10_execute_79 : decode cX10_execute 79 = .ok (.iload_n 3, 1) := by decide +kernel
theorem dX10_execute_80 : decode cX10_execute 80 = .ok (.iload 4, 2) := by decide +kernel
theorem dX10_execute_82 : decode cX10_execute 82 = .ok (.invokevirtual 121, 3) := by decide +kernel
theorem dX10_execute_85 : decode cX10_execute 85 = .ok (.istore 5, 2) := by decide +kernel
theorem dX10_execute_87 : decode cX10_execute 87 = .ok (.iload 5, 2) := by decide +kernel
theorem dX10_execute_89 : decode cX10_execute 89 = .ok (.ifCond .eq 22, 3) := by decide +kernel
theorem dX10_execute_92 : decode cX10_execute 92 = .ok (.aload_n 0, 1) := by decide +kernel
theorem dX10_execute_93 : decode cX10_execute 93 = .ok (.iload_n 2, 1) := by decide +kernel
theorem dX10_execute_94 : decode cX10_execute 94 = .ok (.putfield 60, 3) := by decide +kernel
theorem dX10_execute_97 : decode cX10_execute 97 = .ok (.aload_n 0, 1) := by decide +kernel
theorem dX10_execute_98 : decode cX10_execute 98 = .ok (.iload 5, 2) := by decide +kernel
theorem dX10_execute_100 : decode cX10_execute 100 = .ok (.putfield 251, 3) := by decide +kernel
theorem dX10_execute_103 : decode cX10_execute 103 = .ok (.new 254, 3) := by decide +kernel
theorem dX10_execute_106 : decode cX10_execute 106 = .ok (.dup, 1) := by decide +kernel
theorem dX10_execute_107 : decode cX10_execute 107 = .ok (.invokespecial 256, 3) := by decide +kernel
theorem dX10_execute_110 : decode cX10_execute 110 = .ok (.athrow, 1) := by decide +kernel
theorem dX10_execute_111 : decode cX10_execute 111 = .ok (.aload_n 0, 1) := by decide +kernel
theorem dX10_execute_112 : decode cX10_execute 112 = .ok (.getfield 29, 3) := by decide +kernel
theorem dX10_execute_115 : decode cX10_execute 115 = .ok (.aload_n 0, 1) := by decide +kernel
theorem dX10_execute_116 : decode cX10_execute 116 = .ok (.getfield 16, 3) := by decide +kernel
theorem dX10_execute_119 : decode cX10_execute 119 = .ok (.iload_n 3, 1) := by decide +kernel
theorem dX10_execute_120 : decode cX10_execute 120 = .ok (.iload 4, 2) := by decide +kernel
theorem dX10_execute_122 : decode cX10_execute 122 = .ok (.invokevirtual 257, 3) := by decide +kernel
theorem dX10_execute_125 : decode cX10_execute 125 = .ok (.aload_n 0, 1) := by decide +kernel
theorem dX10_execute_126 : decode cX10_execute 126 = .ok (.getfield 16, 3) := by decide +kernel
theorem dX10_execute_129 : decode cX10_execute 129 = .ok (.iload_n 3, 1) := by decide +kernel
theorem dX10_execute_130 : decode cX10_execute 130 = .ok (.iload 4, 2) := by decide +kernel
theorem dX10_execute_132 : decode cX10_execute 132 = .ok (.aload_n 0, 1) := by decide +kernel
theorem dX10_execute_133 : decode cX10_execute 133 = .ok (.getfield 39, 3) := by decide +kernel
theorem dX10_execute_136 : decode cX10_execute 136 = .ok (.iconst 0, 1) := by decide +kernel
theorem dX10_execute_137 : decode cX10_execute 137 = .ok (.invokevirtual 132, 3) := by decide +kernel
theorem dX10_execute_140 : decode cX10_execute 140 = .ok (.pop, 1) := by decide +kernel
theorem dX10_execute_141 : decode cX10_execute 141 = .ok (.iinc 2 1, 3) := by decide +kernel
theorem dX10_execute_144 : decode cX10_execute 144 = .ok (.goto (-99), 3) := by decide +kernel
theorem dX10_execute_147 : decode cX10_execute 147 = .ok (.aload_n 0, 1) := by decide +kernel
theorem dX10_execute_148 : decode cX10_execute 148 = .ok (.invokevirtual 72, 3) := by decide +kernel
theorem dX10_execute_151 : decode cX10_execute 151 = .ok (.aload_n 0, 1) := by decide +kernel
theorem dX10_execute_152 : decode cX10_execute 152 = .ok (.getfield 10, 3) := by decide +kernel
theorem dX10_execute_155 : decode cX10_execute 155 = .ok (.aload_n 0, 1) := by decide +kernel
theorem dX10_execute_156 : decode cX10_execute 156 = .ok (.getfield 16, 3) := by decide +kernel
theorem dX10_execute_159 : decode cX10_execute 159 = .ok (.invokevirtual 128, 3) := by decide +kernel
theorem dX10_execute_162 : decode cX10_execute 162 = .ok (.aload_n 0, 1) := by decide +kernel
theorem dX10_execute_163 : decode cX10_execute 163 = .ok (.getfield 46, 3) := by decide +kernel
theorem dX10_execute_166 : decode cX10_execute 166 = .ok (.getfield 242, 3) := by decide +kernel
theorem dX10_execute_169 : decode cX10_execute 169 = .ok (.ireturn, 1) := by decide +kernel
theorem dX10_errorPosition_0 : decode cX10_errorPosition 0 = .ok (.aload_n 0, 1) := by decide +kernel
theorem dX10_errorPosition_1 : decode cX10_errorPosition 1 = .ok (.getfield 56, 3) := by decide +kernel
theorem dX10_errorPosition_4 : decode cX10_errorPosition 4 = .ok (.ifCond .ge 11, 3) := by decide +kernel
theorem dX10_errorPosition_7 : decode cX10_errorPosition 7 = .ok (.new 261, 3) := by decide +kernel
theorem dX10_errorPosition_10 : decode cX10_errorPosition 10 = .ok (.dup, 1) := by decide +kernel
theorem dX10_errorPosition_11 : decode cX10_errorPosition 11 = .ok (.invokespecial 263, 3) := by decide +kernel
theorem dX10_errorPosition_14 : decode cX10_errorPosition 14 = .ok (.athrow, 1) := by decide +kernel
theorem dX10_errorPosition_15 : decode cX10_errorPosition 15 = .ok (.aload_n 0, 1) := by decide +kernel
theorem dX10_errorPosition_16 : decode cX10_errorPosition 16 = .ok (.getfield 56, 3) := by decide +kernel
theorem dX10_errorPosition_19 : decode cX10_errorPosition 19 = .ok (.ireturn, 1) := by decide +kernel
theorem dX10_refusedCommand_0 : decode cX10_refusedCommand 0 = .ok (.aload_n 0, 1) := by decide +kernel
theorem dX10_refusedCommand_1 : decode cX10_refusedCommand 1 = .ok (.getfield 60, 3) := by decide +kernel
theorem dX10_refusedCommand_4 : decode cX10_refusedCommand 4 = .ok (.ifCond .ge 11, 3) := by decide +kernel
theorem dX10_refusedCommand_7 : decode cX10_refusedCommand 7 = .ok (.new 261, 3) := by decide +kernel
theorem dX10_refusedCommand_10 : decode cX10_refusedCommand 10 = .ok (.dup, 1) := by decide +kernel
theorem dX10_refusedCommand_11 : decode cX10_refusedCommand 11 = .ok (.invokespecial 263, 3) := by decide +kernel
theorem dX10_refusedCommand_14 : decode cX10_refusedCommand 14 = .ok (.athrow, 1) := by decide +kernel
theorem dX10_refusedCommand_15 : decode cX10_refusedCommand 15 = .ok (.iload_n 1, 1) := by decide +kernel
theorem dX10_refusedCommand_16 : decode cX10_refusedCommand 16 = .ok (.ifCond .eq 10, 3) := by decide +kernel
theorem dX10_refusedCommand_19 : decode cX10_refusedCommand 19 = .ok (.aload_n 0, 1) := by decide +kernel
theorem dX10_refusedCommand_20 : decode cX10_refusedCommand 20 = .ok (.getfield 251, 3) := by decide +kernel
theorem dX10_refusedCommand_23 : decode cX10_refusedCommand 23 = .ok (.goto 7, 3) := by decide +kernel
theorem dX10_refusedCommand_26 : decode cX10_refusedCommand 26 = .ok (.aload_n 0, 1) := by decide +kernel
theorem dX10_refusedCommand_27 : decode cX10_refusedCommand 27 = .ok (.getfield 60, 3) := by decide +kernel
theorem dX10_refusedCommand_30 : decode cX10_refusedCommand 30 = .ok (.ireturn, 1) := by decide +kernel
theorem dX10_ledgerSize_0 : decode cX10_ledgerSize 0 = .ok (.aload_n 0, 1) := by decide +kernel
theorem dX10_ledgerSize_1 : decode cX10_ledgerSize 1 = .ok (.getfield 10, 3) := by decide +kernel
theorem dX10_ledgerSize_4 : decode cX10_ledgerSize 4 = .ok (.getfield 264, 3) := by decide +kernel
theorem dX10_ledgerSize_7 : decode cX10_ledgerSize 7 = .ok (.getfield 268, 3) := by decide +kernel
theorem dX10_ledgerSize_10 : decode cX10_ledgerSize 10 = .ok (.ireturn, 1) := by decide +kernel
theorem dX10_ledger_0 : decode cX10_ledger 0 = .ok (.iload_n 1, 1) := by decide +kernel
theorem dX10_ledger_1 : decode cX10_ledger 1 = .ok (.iconst 0, 1) := by decide +kernel
theorem dX10_ledger_2 : decode cX10_ledger 2 = .ok (.aload_n 0, 1) := by decide +kernel
theorem dX10_ledger_3 : decode cX10_ledger 3 = .ok (.getfield 10, 3) := by decide +kernel
theorem dX10_ledger_6 : decode cX10_ledger 6 = .ok (.getfield 264, 3) := by decide +kernel
theorem dX10_ledger_9 : decode cX10_ledger 9 = .ok (.getfield 268, 3) := by decide +kernel
theorem dX10_ledger_12 : decode cX10_ledger 12 = .ok (.iconst 1, 1) := by decide +kernel
theorem dX10_ledger_13 : decode cX10_ledger 13 = .ok (.isub, 1) := by decide +kernel
theorem dX10_ledger_14 : decode cX10_ledger 14 = .ok (.invokestatic 65, 3) := by decide +kernel
theorem dX10_ledger_17 : decode cX10_ledger 17 = .ok (.ifCond .eq 12, 3) := by decide +kernel
theorem dX10_ledger_20 : decode cX10_ledger 20 = .ok (.iload_n 2, 1) := by decide +kernel
theorem dX10_ledger_21 : decode cX10_ledger 21 = .ok (.iconst 0, 1) := by decide +kernel
theorem dX10_ledger_22 : decode cX10_ledger 22 = .ok (.iconst 2, 1) := by decide +kernel
theorem dX10_ledger_23 : decode cX10_ledger 23 = .ok (.invokestatic 65, 3) := by decide +kernel
theorem dX10_ledger_26 : decode cX10_ledger 26 = .ok (.ifCond .ne 11, 3) := by decide +kernel
theorem dX10_ledger_29 : decode cX10_ledger 29 = .ok (.new 118, 3) := by decide +kernel
theorem dX10_ledger_32 : decode cX10_ledger 32 = .ok (.dup, 1) := by decide +kernel
theorem dX10_ledger_33 : decode cX10_ledger 33 = .ok (.invokespecial 120, 3) := by decide +kernel
theorem dX10_ledger_36 : decode cX10_ledger 36 = .ok (.athrow, 1) := by decide +kernel
theorem dX10_ledger_37 : decode cX10_ledger 37 = .ok (.aload_n 0, 1) := by decide +kernel
theorem dX10_ledger_38 : decode cX10_ledger 38 = .ok (.getfield 10, 3) := by decide +kernel
theorem dX10_ledger_41 : decode cX10_ledger 41 = .ok (.getfield 264, 3) := by decide +kernel
theorem dX10_ledger_44 : decode cX10_ledger 44 = .ok (.iload_n 1, 1) := by decide +kernel
theorem dX10_ledger_45 : decode cX10_ledger 45 = .ok (.iload_n 2, 1) := by decide +kernel
theorem dX10_ledger_46 : decode cX10_ledger 46 = .ok (.invokevirtual 273, 3) := by decide +kernel
theorem dX10_ledger_49 : decode cX10_ledger 49 = .ok (.l2i, 1) := by decide +kernel
theorem dX10_ledger_50 : decode cX10_ledger 50 = .ok (.ireturn, 1) := by decide +kernel
theorem dX10_undo_0 : decode cX10_undo 0 = .ok (.aload_n 0, 1) := by decide +kernel
theorem dX10_undo_1 : decode cX10_undo 1 = .ok (.getfield 276, 3) := by decide +kernel
theorem dX10_undo_4 : decode cX10_undo 4 = .ok (.ifCond .gt 11, 3) := by decide +kernel
theorem dX10_undo_7 : decode cX10_undo 7 = .ok (.new 201, 3) := by decide +kernel
theorem dX10_undo_10 : decode cX10_undo 10 = .ok (.dup, 1) := by decide +kernel
theorem dX10_undo_11 : decode cX10_undo 11 = .ok (.invokespecial 203, 3) := by decide +kernel
theorem dX10_undo_14 : decode cX10_undo 14 = .ok (.athrow, 1) := by decide +kernel
theorem dX10_undo_15 : decode cX10_undo 15 = .ok (.aload_n 0, 1) := by decide +kernel
theorem dX10_undo_16 : decode cX10_undo 16 = .ok (.dup, 1) := by decide +kernel
theorem dX10_undo_17 : decode cX10_undo 17 = .ok (.getfield 279, 3) := by decide +kernel
theorem dX10_undo_20 : decode cX10_undo 20 = .ok (.iconst 1, 1) := by decide +kernel
theorem dX10_undo_21 : decode cX10_undo 21 = .ok (.isub, 1) := by decide +kernel
theorem dX10_undo_22 : decode cX10_undo 22 = .ok (.putfield 279, 3) := by decide +kernel
theorem dX10_undo_25 : decode cX10_undo 25 = .ok (.aload_n 0, 1) := by decide +kernel
theorem dX10_undo_26 : decode cX10_undo 26 = .ok (.dup, 1) := by decide +kernel
theorem dX10_undo_27 : decode cX10_undo 27 = .ok (.getfield 276, 3) := by decide +kernel
theorem dX10_undo_30 : decode cX10_undo 30 = .ok (.iconst 1, 1) := by decide +kernel
theorem dX10_undo_31 : decode cX10_undo 31 = .ok (.isub, 1) := by decide +kernel
theorem dX10_undo_32 : decode cX10_undo 32 = .ok (.putfield 276, 3) := by decide +kernel
theorem dX10_undo_35 : decode cX10_undo 35 = .ok (.aload_n 0, 1) := by decide +kernel
theorem dX10_undo_36 : decode cX10_undo 36 = .ok (.getfield 22, 3) := by decide +kernel
theorem dX10_undo_39 : decode cX10_undo 39 = .ok (.aload_n 0, 1) := by decide +kernel
theorem dX10_undo_40 : decode cX10_undo 40 = .ok (.getfield 279, 3) := by decide +kernel
theorem dX10_undo_43 : decode cX10_undo 43 = .ok (.bipush 8, 2) := by decide +kernel
theorem dX10_undo_45 : decode cX10_undo 45 = .ok (.invokestatic 282, 3) := by decide +kernel
theorem dX10_undo_48 : decode cX10_undo 48 = .ok (.aaload, 1) := by decide +kernel
theorem dX10_undo_49 : decode cX10_undo 49 = .ok (.astore_n 1, 1) := by decide +kernel
theorem dX10_undo_50 : decode cX10_undo 50 = .ok (.aload_n 1, 1) := by decide +kernel
theorem dX10_undo_51 : decode cX10_undo 51 = .ok (.ifnull 11, 3) := by decide +kernel
theorem dX10_undo_54 : decode cX10_undo 54 = .ok (.aload_n 0, 1) := by decide +kernel
theorem dX10_undo_55 : decode cX10_undo 55 = .ok (.getfield 10, 3) := by decide +kernel
theorem dX10_undo_58 : decode cX10_undo 58 = .ok (.aload_n 1, 1) := by decide +kernel
theorem dX10_undo_59 : decode cX10_undo 59 = .ok (.invokevirtual 128, 3) := by decide +kernel
theorem dX10_undo_62 : decode cX10_undo 62 = .ok (.aload_n 0, 1) := by decide +kernel
theorem dX10_undo_63 : decode cX10_undo 63 = .ok (.getfield 276, 3) := by decide +kernel
theorem dX10_undo_66 : decode cX10_undo 66 = .ok (.ireturn, 1) := by decide +kernel
theorem dX10_isConfirmed_0 : decode cX10_isConfirmed 0 = .ok (.aload_n 0, 1) := by decide +kernel
theorem dX10_isConfirmed_1 : decode cX10_isConfirmed 1 = .ok (.getfield 10, 3) := by decide +kernel
theorem dX10_isConfirmed_4 : decode cX10_isConfirmed 4 = .ok (.getfield 85, 3) := by decide +kernel
theorem dX10_isConfirmed_7 : decode cX10_isConfirmed 7 = .ok (.astore_n 1, 1) := by decide +kernel
theorem dX10_isConfirmed_8 : decode cX10_isConfirmed 8 = .ok (.aload_n 1, 1) := by decide +kernel
theorem dX10_isConfirmed_9 : decode cX10_isConfirmed 9 = .ok (.getfield 184, 3) := by decide +kernel
theorem dX10_isConfirmed_12 : decode cX10_isConfirmed 12 = .ok (.ifCond .ne 5, 3) := by decide +kernel
theorem dX10_isConfirmed_15 : decode cX10_isConfirmed 15 = .ok (.iconst 1, 1) := by decide +kernel
theorem dX10_isConfirmed_16 : decode cX10_isConfirmed 16 = .ok (.ireturn, 1) := by decide +kernel
theorem dX10_isConfirmed_17 : decode cX10_isConfirmed 17 = .ok (.aload_n 0, 1) := by decide +kernel
theorem dX10_isConfirmed_18 : decode cX10_isConfirmed 18 = .ok (.getfield 16, 3) := by decide +kernel
theorem dX10_isConfirmed_21 : decode cX10_isConfirmed 21 = .ok (.aload_n 1, 1) := by decide +kernel
theorem dX10_isConfirmed_22 : decode cX10_isConfirmed 22 = .ok (.getfield 285, 3) := by decide +kernel
theorem dX10_isConfirmed_25 : decode cX10_isConfirmed 25 = .ok (.putfield 99, 3) := by decide +kernel
theorem dX10_isConfirmed_28 : decode cX10_isConfirmed 28 = .ok (.aload_n 0, 1) := by decide +kernel
theorem dX10_isConfirmed_29 : decode cX10_isConfirmed 29 = .ok (.getfield 16, 3) := by decide +kernel
theorem dX10_isConfirmed_32 : decode cX10_isConfirmed 32 = .ok (.aload_n 0, 1) := by decide +kernel
theorem dX10_isConfirmed_33 : decode cX10_isConfirmed 33 = .ok (.getfield 10, 3) := by decide +kernel
theorem dX10_isConfirmed_36 : decode cX10_isConfirmed 36 = .ok (.getfield 288, 3) := by decide +kernel
theorem dX10_isConfirmed_39 : decode cX10_isConfirmed 39 = .ok (.invokevirtual 292, 3) := by decide +kernel
theorem dX10_isConfirmed_42 : decode cX10_isConfirmed 42 = .ok (.aload_n 0, 1) := by decide +kernel
theorem dX10_isConfirmed_43 : decode cX10_isConfirmed 43 = .ok (.getfield 16, 3) := by decide +kernel
theorem dX10_isConfirmed_46 : decode cX10_isConfirmed 46 = .ok (.aload_n 1, 1) := by decide +kernel
theorem dX10_isConfirmed_47 : decode cX10_isConfirmed 47 = .ok (.getfield 198, 3) := by decide +kernel
theorem dX10_isConfirmed_50 : decode cX10_isConfirmed 50 = .ok (.aload_n 1, 1) := by decide +kernel
theorem dX10_isConfirmed_51 : decode cX10_isConfirmed 51 = .ok (.getfield 296, 3) := by decide +kernel
theorem dX10_isConfirmed_54 : decode cX10_isConfirmed 54 = .ok (.aload_n 1, 1) := by decide +kernel
theorem dX10_isConfirmed_55 : decode cX10_isConfirmed 55 = .ok (.getfield 299, 3) := by decide +kernel
theorem dX10_isConfirmed_58 : decode cX10_isConfirmed 58 = .ok (.aload_n 1, 1) := by decide +kernel
theorem dX10_isConfirmed_59 : decode cX10_isConfirmed 59 = .ok (.getfield 302, 3) := by decide +kernel
theorem dX10_isConfirmed_62 : decode cX10_isConfirmed 62 = .ok (.aload_n 0, 1) := by decide +kernel
theorem dX10_isConfirmed_63 : decode cX10_isConfirmed 63 = .ok (.getfield 39, 3) := by decide +kernel
theorem dX10_isConfirmed_66 : decode cX10_isConfirmed 66 = .ok (.invokevirtual 75, 3) := by decide +kernel
theorem dX10_isConfirmed_69 : decode cX10_isConfirmed 69 = .ok (.aload_n 0, 1) := by decide +kernel
theorem dX10_isConfirmed_70 : decode cX10_isConfirmed 70 = .ok (.getfield 10, 3) := by decide +kernel
theorem dX10_isConfirmed_73 : decode cX10_isConfirmed 73 = .ok (.getfield 82, 3) := by decide +kernel
theorem dX10_isConfirmed_76 : decode cX10_isConfirmed 76 = .ok (.istore_n 2, 1) := by decide +kernel
theorem dX10_isConfirmed_77 : decode cX10_isConfirmed 77 = .ok (.iload_n 2, 1) := by decide +kernel
theorem dX10_isConfirmed_78 : decode cX10_isConfirmed 78 = .ok (.aload_n 0, 1) := by decide +kernel
theorem dX10_isConfirmed_79 : decode cX10_isConfirmed 79 = .ok (.getfield 10, 3) := by decide +kernel
theorem dX10_isConfirmed_82 : decode cX10_isConfirmed 82 = .ok (.getfield 79, 3) := by decide +kernel
theorem dX10_isConfirmed_85 : decode cX10_isConfirmed 85 = .ok (.if_icmp .ge 59, 3) := by decide +kernel
theorem dX10_isConfirmed_88 : decode cX10_isConfirmed 88 = .ok (.aload_n 0, 1) := by decide +kernel
theorem dX10_isConfirmed_89 : decode cX10_isConfirmed 89 = .ok (.getfield 29, 3) := by decide +kernel
theorem dX10_isConfirmed_92 : decode cX10_isConfirmed 92 = .ok (.iload_n 2, 1) := by decide +kernel
theorem dX10_isConfirmed_93 : decode cX10_isConfirmed 93 = .ok (.invokevirtual 305, 3) := by decide +kernel
theorem dX10_isConfirmed_96 : decode cX10_isConfirmed 96 = .ok (.istore_n 3, 1) := by decide +kernel
theorem dX10_isConfirmed_97 : decode cX10_isConfirmed 97 = .ok (.aload_n 0, 1) := by decide +kernel
theorem dX10_isConfirmed_98 : decode cX10_isConfirmed 98 = .ok (.getfield 29, 3) := by decide +kernel
theorem dX10_isConfirmed_101 : decode cX10_isConfirmed 101 = .ok (.iload_n 2, 1) := by decide +kernel
theorem dX10_isConfirmed_102 : decode cX10_isConfirmed 102 = .ok (.invokevirtual 308, 3) := by decide +kernel
theorem dX10_isConfirmed_105 : decode cX10_isConfirmed 105 = .ok (.istore 4, 2) := by decide +kernel
theorem dX10_isConfirmed_107 : decode cX10_isConfirmed 107 = .ok (.aload_n 0, 1) := by decide +kernel
theorem dX10_isConfirmed_108 : decode cX10_isConfirmed 108 = .ok (.getfield 16, 3) := by decide +kernel
theorem dX10_isConfirmed_111 : decode cX10_isConfirmed 111 = .ok (.iload_n 3, 1) := by decide +kernel
theorem dX10_isConfirmed_112 : decode cX10_isConfirmed 112 = .ok (.iload 4, 2) := by decide +kernel
theorem dX10_isConfirmed_114 : decode cX10_isConfirmed 114 = .ok (.invokevirtual 121, 3) := by decide +kernel
theorem dX10_isConfirmed_117 : decode cX10_isConfirmed 117 = .ok (.ifCond .eq 5, 3) := by decide +kernel
theorem dX10_isConfirmed_120 : decode cX10_isConfirmed 120 = .ok (.iconst 0, 1) := by decide +kernel
theorem dX10_isConfirmed_121 : decode cX10_isConfirmed 121 = .ok (.ireturn, 1) := by decide +kernel
theorem dX10_isConfirmed_122 : decode cX10_isConfirmed 122 = .ok (.aload_n 0, 1) := by decide +kernel
theorem dX10_isConfirmed_123 : decode cX10_isConfirmed 123 = .ok (.getfield 16, 3) := by decide +kernel
theorem dX10_isConfirmed_126 : decode cX10_isConfirmed 126 = .ok (.iload_n 3, 1) := by decide +kernel
theorem dX10_isConfirmed_127 : decode cX10_isConfirmed 127 = .ok (.iload 4, 2) := by decide +kernel
theorem dX10_isConfirmed_129 : decode cX10_isConfirmed 129 = .ok (.aload_n 0, 1) := by decide +kernel
theorem dX10_isConfirmed_130 : decode cX10_isConfirmed 130 = .ok (.getfield 39, 3) := by decide +kernel
theorem dX10_isConfirmed_133 : decode cX10_isConfirmed 133 = .ok (.iconst 1, 1) := by decide +kernel
theorem dX10_isConfirmed_134 : decode cX10_isConfirmed 134 = .ok (.invokevirtual 132, 3) := by decide +kernel
theorem dX10_isConfirmed_137 : decode cX10_isConfirmed 137 = .ok (.pop, 1) := by decide +kernel
theorem dX10_isConfirmed_138 : decode cX10_isConfirmed 138 = .ok (.iinc 2 1, 3) := by decide +kernel
theorem dX10_isConfirmed_141 : decode cX10_isConfirmed 141 = .ok (.goto (-64), 3) := by decide +kernel
theorem dX10_isConfirmed_144 : decode cX10_isConfirmed 144 = .ok (.aload_n 0, 1) := by decide +kernel
theorem dX10_isConfirmed_145 : decode cX10_isConfirmed 145 = .ok (.getfield 16, 3) := by decide +kernel
theorem dX10_isConfirmed_148 : decode cX10_isConfirmed 148 = .ok (.aload_n 0, 1) := by decide +kernel
theorem dX10_isConfirmed_149 : decode cX10_isConfirmed 149 = .ok (.getfield 10, 3) := by decide +kernel
theorem dX10_isConfirmed_152 : decode cX10_isConfirmed 152 = .ok (.invokevirtual 311, 3) := by decide +kernel
theorem dX10_isConfirmed_155 : decode cX10_isConfirmed 155 = .ok (.ireturn, 1) := by decide +kernel
theorem dX10_storeSchedule_0 : decode cX10_storeSchedule 0 = .ok (.iload_n 1, 1) := by decide +kernel
theorem dX10_storeSchedule_1 : decode cX10_storeSchedule 1 = .ok (.ifCond .lt 12, 3) := by decide +kernel
theorem dX10_storeSchedule_4 : decode cX10_storeSchedule 4 = .ok (.iload_n 1, 1) := by decide +kernel
theorem dX10_storeSchedule_5 : decode cX10_storeSchedule 5 = .ok (.aload_n 0, 1) := by decide +kernel
theorem dX10_storeSchedule_6 : decode cX10_storeSchedule 6 = .ok (.getfield 52, 3) := by decide +kernel
theorem dX10_storeSchedule_9 : decode cX10_storeSchedule 9 = .ok (.arraylength, 1) := by decide +kernel
theorem dX10_storeSchedule_10 : decode cX10_storeSchedule 10 = .ok (.if_icmp .lt 11, 3) := by decide +kernel
theorem dX10_storeSchedule_13 : decode cX10_storeSchedule 13 = .ok (.new 118, 3) := by decide +kernel
theorem dX10_storeSchedule_16 : decode cX10_storeSchedule 16 = .ok (.dup, 1) := by decide +kernel
theorem dX10_storeSchedule_17 : decode cX10_storeSchedule 17 = .ok (.invokespecial 120, 3) := by decide +kernel
theorem dX10_storeSchedule_20 : decode cX10_storeSchedule 20 = .ok (.athrow, 1) := by decide +kernel
theorem dX10_storeSchedule_21 : decode cX10_storeSchedule 21 = .ok (.aload_n 0, 1) := by decide +kernel
theorem dX10_storeSchedule_22 : decode cX10_storeSchedule 22 = .ok (.invokevirtual 204, 3) := by decide +kernel
theorem dX10_storeSchedule_25 : decode cX10_storeSchedule 25 = .ok (.aload_n 0, 1) := by decide +kernel
theorem dX10_storeSchedule_26 : decode cX10_storeSchedule 26 = .ok (.getfield 52, 3) := by decide +kernel
theorem dX10_storeSchedule_29 : decode cX10_storeSchedule 29 = .ok (.iload_n 1, 1) := by decide +kernel
theorem dX10_storeSchedule_30 : decode cX10_storeSchedule 30 = .ok (.aaload, 1) := by decide +kernel
theorem dX10_storeSchedule_31 : decode cX10_storeSchedule 31 = .ok (.astore_n 3, 1) := by decide +kernel
theorem dX10_storeSchedule_32 : decode cX10_storeSchedule 32 = .ok (.aload_n 3, 1) := by decide +kernel
theorem dX10_storeSchedule_33 : decode cX10_storeSchedule 33 = .ok (.ifnull 12, 3) := by decide +kernel
theorem dX10_storeSchedule_36 : decode cX10_storeSchedule 36 = .ok (.aload_n 3, 1) := by decide +kernel
theorem dX10_storeSchedule_37 : decode cX10_storeSchedule 37 = .ok (.aload_n 0, 1) := by decide +kernel
theorem dX10_storeSchedule_38 : decode cX10_storeSchedule 38 = .ok (.getfield 39, 3) := by decide +kernel
theorem dX10_storeSchedule_41 : decode cX10_storeSchedule 41 = .ok (.iload_n 2, 1) := by decide +kernel
theorem dX10_storeSchedule_42 : decode cX10_storeSchedule 42 = .ok (.invokevirtual 315, 3) := by decide +kernel
theorem dX10_storeSchedule_45 : decode cX10_storeSchedule 45 = .ok (.aload_n 0, 1) := by decide +kernel
theorem dX10_storeSchedule_46 : decode cX10_storeSchedule 46 = .ok (.getfield 39, 3) := by decide +kernel
theorem dX10_storeSchedule_49 : decode cX10_storeSchedule 49 = .ok (.getfield 207, 3) := by decide +kernel
theorem dX10_storeSchedule_52 : decode cX10_storeSchedule 52 = .ok (.ireturn, 1) := by decide +kernel
theorem dX10_copyRow_0 : decode cX10_copyRow 0 = .ok (.iload_n 1, 1) := by decide +kernel
theorem dX10_copyRow_1 : decode cX10_copyRow 1 = .ok (.iconst 0, 1) := by decide +kernel
theorem dX10_copyRow_2 : decode cX10_copyRow 2 = .ok (.iconst 1, 1) := by decide +kernel
theorem dX10_copyRow_3 : decode cX10_copyRow 3 = .ok (.invokestatic 65, 3) := by decide +kernel
theorem dX10_copyRow_6 : decode cX10_copyRow 6 = .ok (.ifCond .eq 12, 3) := by decide +kernel
theorem dX10_copyRow_9 : decode cX10_copyRow 9 = .ok (.aload_n 0, 1) := by decide +kernel
theorem dX10_copyRow_10 : decode cX10_copyRow 10 = .ok (.getfield 52, 3) := by decide +kernel
theorem dX10_copyRow_13 : decode cX10_copyRow 13 = .ok (.arraylength, 1) := by decide +kernel
theorem dX10_copyRow_14 : decode cX10_copyRow 14 = .ok (.iconst 2, 1) := by decide +kernel
theorem dX10_copyRow_15 : decode cX10_copyRow 15 = .ok (.if_icmp .ge 11, 3) := by decide +kernel
theorem dX10_copyRow_18 : decode cX10_copyRow 18 = .ok (.new 118, 3) := by decide +kernel
theorem dX10_copyRow_21 : decode cX10_copyRow 21 = .ok (.dup, 1) := by decide +kernel
theorem dX10_copyRow_22 : decode cX10_copyRow 22 = .ok (.invokespecial 120, 3) := by decide +kernel
theorem dX10_copyRow_25 : decode cX10_copyRow 25 = .ok (.athrow, 1) := by decide +kernel
theorem dX10_copyRow_26 : decode cX10_copyRow 26 = .ok (.aload_n 0, 1) := by decide +kernel
theorem dX10_copyRow_27 : decode cX10_copyRow 27 = .ok (.getfield 52, 3) := by decide +kernel
theorem dX10_copyRow_30 : decode cX10_copyRow 30 = .ok (.iload_n 1, 1) := by decide +kernel
theorem dX10_copyRow_31 : decode cX10_copyRow 31 = .ok (.aaload, 1) := by decide +kernel
theorem dX10_copyRow_32 : decode cX10_copyRow 32 = .ok (.astore_n 3, 1) := by decide +kernel
theorem dX10_copyRow_33 : decode cX10_copyRow 33 = .ok (.aload_n 0, 1) := by decide +kernel
theorem dX10_copyRow_34 : decode cX10_copyRow 34 = .ok (.getfield 52, 3) := by decide +kernel
theorem dX10_copyRow_37 : decode cX10_copyRow 37 = .ok (.iconst 1, 1) := by decide +kernel
theorem dX10_copyRow_38 : decode cX10_copyRow 38 = .ok (.iload_n 1, 1) := by decide +kernel
theorem dX10_copyRow_39 : decode cX10_copyRow 39 = .ok (.isub, 1) := by decide +kernel
theorem dX10_copyRow_40 : decode cX10_copyRow 40 = .ok (.aaload, 1) := by decide +kernel
theorem dX10_copyRow_41 : decode cX10_copyRow 41 = .ok (.astore 4, 2) := by decide +kernel
theorem dX10_copyRow_43 : decode cX10_copyRow 43 = .ok (.aload_n 3, 1) := by decide +kernel
theorem dX10_copyRow_44 : decode cX10_copyRow 44 = .ok (.ifnull 23, 3) := by decide +kernel
theorem dX10_copyRow_47 : decode cX10_copyRow 47 = .ok (.aload 4, 2) := by decide +kernel
theorem dX10_copyRow_49 : decode cX10_copyRow 49 = .ok (.ifnull 18, 3) := by decide +kernel
theorem dX10_copyRow_52 : decode cX10_copyRow 52 = .ok (.aload_n 3, 1) := by decide +kernel
theorem dX10_copyRow_53 : decode cX10_copyRow 53 = .ok (.getfield 319, 3) := by decide +kernel
theorem dX10_copyRow_56 : decode cX10_copyRow 56 = .ok (.ifCond .eq 11, 3) := by decide +kernel
theorem dX10_copyRow_59 : decode cX10_copyRow 59 = .ok (.aload 4, 2) := by decide +kernel
theorem dX10_copyRow_61 : decode cX10_copyRow 61 = .ok (.getfield 319, 3) := by decide +kernel
theorem dX10_copyRow_64 : decode cX10_copyRow 64 = .ok (.ifCond .ne 11, 3) := by decide +kernel
theorem dX10_copyRow_67 : decode cX10_copyRow 67 = .ok (.new 261, 3) := by decide +kernel
theorem dX10_copyRow_70 : decode cX10_copyRow 70 = .ok (.dup, 1) := by decide +kernel
theorem dX10_copyRow_71 : decode cX10_copyRow 71 = .ok (.invokespecial 263, 3) := by decide +kernel
theorem dX10_copyRow_74 : decode cX10_copyRow 74 = .ok (.athrow, 1) := by decide +kernel
theorem dX10_copyRow_75 : decode cX10_copyRow 75 = .ok (.aload_n 3, 1) := by decide +kernel
theorem dX10_copyRow_76 : decode cX10_copyRow 76 = .ok (.getfield 322, 3) := by decide +kernel
theorem dX10_copyRow_79 : decode cX10_copyRow 79 = .ok (.aload 4, 2) := by decide +kernel
theorem dX10_copyRow_81 : decode cX10_copyRow 81 = .ok (.getfield 322, 3) := by decide +kernel
theorem dX10_copyRow_84 : decode cX10_copyRow 84 = .ok (.if_icmp .eq 11, 3) := by decide +kernel
theorem dX10_copyRow_87 : decode cX10_copyRow 87 = .ok (.new 254, 3) := by decide +kernel
theorem dX10_copyRow_90 : decode cX10_copyRow 90 = .ok (.dup, 1) := by decide +kernel
theorem dX10_copyRow_91 : decode cX10_copyRow 91 = .ok (.invokespecial 256, 3) := by decide +kernel
theorem dX10_copyRow_94 : decode cX10_copyRow 94 = .ok (.athrow, 1) := by decide +kernel
theorem dX10_copyRow_95 : decode cX10_copyRow 95 = .ok (.iload_n 2, 1) := by decide +kernel
theorem dX10_copyRow_96 : decode cX10_copyRow 96 = .ok (.iconst 0, 1) := by decide +kernel
theorem dX10_copyRow_97 : decode cX10_copyRow 97 = .ok (.aload_n 3, 1) := by decide +kernel
theorem dX10_copyRow_98 : decode cX10_copyRow 98 = .ok (.getfield 325, 3) := by decide +kernel
theorem dX10_copyRow_101 : decode cX10_copyRow 101 = .ok (.aload 4, 2) := by decide +kernel
theorem dX10_copyRow_103 : decode cX10_copyRow 103 = .ok (.getfield 325, 3) := by decide +kernel
theorem dX10_copyRow_106 : decode cX10_copyRow 106 = .ok (.invokestatic 326, 3) := by decide +kernel
theorem dX10_copyRow_109 : decode cX10_copyRow 109 = .ok (.invokestatic 65, 3) := by decide +kernel
