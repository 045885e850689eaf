theorem dX11_countedDays_12 : decode cX11_countedDays 12 = .ok (.iload_n 2, 1) := by decide +kernel
theorem dX11_countedDays_13 : decode cX11_countedDays 13 = .ok (.iload_n 1, 1) := by decide +kernel
theorem dX11_countedDays_14 : decode cX11_countedDays 14 = .ok (.sipush 8000, 3) := by decide +kernel
theorem dX11_countedDays_17 : decode cX11_countedDays 17 = .ok (.invokestatic 95, 3) := by decide +kernel
theorem dX11_countedDays_20 : decode cX11_countedDays 20 = .ok (.ifCond .eq 16, 3) := by decide +kernel
theorem dX11_countedDays_23 : decode cX11_countedDays 23 = .ok (.iload_n 3, 1) := by decide +kernel
theorem dX11_countedDays_24 : decode cX11_countedDays 24 = .ok (.iconst 0, 1) := by decide +kernel
theorem dX11_countedDays_25 : decode cX11_countedDays 25 = .ok (.iconst 2, 1) := by decide +kernel
theorem dX11_countedDays_26 : decode cX11_countedDays 26 = .ok (.invokestatic 95, 3) := by decide +kernel
theorem dX11_countedDays_29 : decode cX11_countedDays 29 = .ok (.ifCond .eq 7, 3) := by decide +kernel
theorem dX11_countedDays_32 : decode cX11_countedDays 32 = .ok (.iconst 0, 1) := by decide +kernel
theorem dX11_countedDays_33 : decode cX11_countedDays 33 = .ok (.goto 4, 3) := by decide +kernel
theorem dX11_countedDays_36 : decode cX11_countedDays 36 = .ok (.iconst 1, 1) := by decide +kernel
theorem dX11_countedDays_37 : decode cX11_countedDays 37 = .ok (.putfield 56, 3) := by decide +kernel
theorem dX11_countedDays_40 : decode cX11_countedDays 40 = .ok (.aload_n 0, 1) := by decide +kernel
theorem dX11_countedDays_41 : decode cX11_countedDays 41 = .ok (.getfield 56, 3) := by decide +kernel
theorem dX11_countedDays_44 : decode cX11_countedDays 44 = .ok (.ifCond .le 7, 3) := by decide +kernel
theorem dX11_countedDays_47 : decode cX11_countedDays 47 = .ok (.iconst 0, 1) := by decide +kernel
theorem dX11_countedDays_48 : decode cX11_countedDays 48 = .ok (.goto 14, 3) := by decide +kernel
theorem dX11_countedDays_51 : decode cX11_countedDays 51 = .ok (.iload_n 2, 1) := by decide +kernel
theorem dX11_countedDays_52 : decode cX11_countedDays 52 = .ok (.iload_n 3, 1) := by decide +kernel
theorem dX11_countedDays_53 : decode cX11_countedDays 53 = .ok (.invokestatic 103, 3) := by decide +kernel
theorem dX11_countedDays_56 : decode cX11_countedDays 56 = .ok (.iload_n 1, 1) := by decide +kernel
theorem dX11_countedDays_57 : decode cX11_countedDays 57 = .ok (.iload_n 3, 1) := by decide +kernel
theorem dX11_countedDays_58 : decode cX11_countedDays 58 = .ok (.invokestatic 103, 3) := by decide +kernel
theorem dX11_countedDays_61 : decode cX11_countedDays 61 = .ok (.isub, 1) := by decide +kernel
theorem dX11_countedDays_62 : decode cX11_countedDays 62 = .ok (.ireturn, 1) := by decide +kernel
theorem dX11_cent_0 : decode cX11_cent 0 = .ok (.ldc2_w 106, 3) := by decide +kernel
theorem dX11_cent_3 : decode cX11_cent 3 = .ok (.aload_n 0, 1) := by decide +kernel
theorem dX11_cent_4 : decode cX11_cent 4 = .ok (.getfield 7, 3) := by decide +kernel
theorem dX11_cent_7 : decode cX11_cent 7 = .ok (.bipush 11, 2) := by decide +kernel
theorem dX11_cent_9 : decode cX11_cent 9 = .ok (.iaload, 1) := by decide +kernel
theorem dX11_cent_10 : decode cX11_cent 10 = .ok (.ifCond .ne 9, 3) := by decide +kernel
theorem dX11_cent_13 : decode cX11_cent 13 = .ok (.sipush 365, 3) := by decide +kernel
theorem dX11_cent_16 : decode cX11_cent 16 = .ok (.goto 6, 3) := by decide +kernel
theorem dX11_cent_19 : decode cX11_cent 19 = .ok (.sipush 360, 3) := by decide +kernel
theorem dX11_cent_22 : decode cX11_cent 22 = .ok (.i2l, 1) := by decide +kernel
theorem dX11_cent_23 : decode cX11_cent 23 = .ok (.lmul, 1) := by decide +kernel
theorem dX11_cent_24 : decode cX11_cent 24 = .ok (.lreturn, 1) := by decide +kernel
theorem dX11_cents_0 : decode cX11_cents 0 = .ok (.ldc2_w 108, 3) := by decide +kernel
theorem dX11_cents_3 : decode cX11_cents 3 = .ok (.lload_n 1, 1) := by decide +kernel
theorem dX11_cents_4 : decode cX11_cents 4 = .ok (.lmul, 1) := by decide +kernel
theorem dX11_cents_5 : decode cX11_cents 5 = .ok (.aload_n 0, 1) := by decide +kernel
theorem dX11_cents_6 : decode cX11_cents 6 = .ok (.invokevirtual 110, 3) := by decide +kernel
theorem dX11_cents_9 : decode cX11_cents 9 = .ok (.ladd, 1) := by decide +kernel
theorem dX11_cents_10 : decode cX11_cents 10 = .ok (.lstore_n 3, 1) := by decide +kernel
theorem dX11_cents_11 : decode cX11_cents 11 = .ok (.lload_n 3, 1) := by decide +kernel
theorem dX11_cents_12 : decode cX11_cents 12 = .ok (.ldc2_w 108, 3) := by decide +kernel
theorem dX11_cents_15 : decode cX11_cents 15 = .ok (.aload_n 0, 1) := by decide +kernel
theorem dX11_cents_16 : decode cX11_cents 16 = .ok (.invokevirtual 110, 3) := by decide +kernel
theorem dX11_cents_19 : decode cX11_cents 19 = .ok (.lmul, 1) := by decide +kernel
theorem dX11_cents_20 : decode cX11_cents 20 = .ok (.ldiv, 1) := by decide +kernel
theorem dX11_cents_21 : decode cX11_cents 21 = .ok (.lstore 5, 2) := by decide +kernel
theorem dX11_cents_23 : decode cX11_cents 23 = .ok (.lload_n 3, 1) := by decide +kernel
theorem dX11_cents_24 : decode cX11_cents 24 = .ok (.lconst 0, 1) := by decide +kernel
theorem dX11_cents_25 : decode cX11_cents 25 = .ok (.lcmp, 1) := by decide +kernel
theorem dX11_cents_26 : decode cX11_cents 26 = .ok (.ifCond .ge 26, 3) := by decide +kernel
theorem dX11_cents_52 : decode cX11_cents 52 = .ok (.lload 5, 2) := by decide +kernel
theorem dX11_cents_54 : decode cX11_cents 54 = .ok (.lreturn, 1) := by decide +kernel
theorem dX11_dueDay_0 : decode cX11_dueDay 0 = .ok (.aload_n 0, 1) := by decide +kernel
theorem dX11_dueDay_1 : decode cX11_dueDay 1 = .ok (.getfield 7, 3) := by decide +kernel
theorem dX11_dueDay_4 : decode cX11_dueDay 4 = .ok (.bipush 15, 2) := by decide +kernel
theorem dX11_dueDay_6 : decode cX11_dueDay 6 = .ok (.iaload, 1) := by decide +kernel
theorem dX11_dueDay_7 : decode cX11_dueDay 7 = .ok (.iload_n 1, 1) := by decide +kernel
theorem dX11_dueDay_8 : decode cX11_dueDay 8 = .ok (.invokestatic 122, 3) := by decide +kernel
theorem dX11_dueDay_11 : decode cX11_dueDay 11 = .ok (.ireturn, 1) := by decide +kernel
theorem dX11_passes_0 : decode cX11_passes 0 = .ok (.iconst 0, 1) := by decide +kernel
theorem dX11_passes_1 : decode cX11_passes 1 = .ok (.istore_n 2, 1) := by decide +kernel
theorem dX11_passes_2 : decode cX11_passes 2 = .ok (.iconst 0, 1) := by decide +kernel
theorem dX11_passes_3 : decode cX11_passes 3 = .ok (.istore_n 3, 1) := by decide +kernel
theorem dX11_passes_4 : decode cX11_passes 4 = .ok (.iload_n 3, 1) := by decide +kernel
theorem dX11_passes_5 : decode cX11_passes 5 = .ok (.iload_n 1, 1) := by decide +kernel
theorem dX11_passes_6 : decode cX11_passes 6 = .ok (.if_icmp .ge 144, 3) := by decide +kernel
theorem dX11_passes_9 : decode cX11_passes 9 = .ok (.aload_n 0, 1) := by decide +kernel
theorem dX11_passes_10 : decode cX11_passes 10 = .ok (.getfield 7, 3) := by decide +kernel
theorem dX11_passes_13 : decode cX11_passes 13 = .ok (.iconst 1, 1) := by decide +kernel
theorem dX11_passes_14 : decode cX11_passes 14 = .ok (.iaload, 1) := by decide +kernel
theorem dX11_passes_15 : decode cX11_passes 15 = .ok (.istore 4, 2) := by decide +kernel
theorem dX11_passes_17 : decode cX11_passes 17 = .ok (.aload_n 0, 1) := by decide +kernel
theorem dX11_passes_18 : decode cX11_passes 18 = .ok (.getfield 7, 3) := by decide +kernel
theorem dX11_passes_21 : decode cX11_passes 21 = .ok (.iconst 1, 1) := by decide +kernel
theorem dX11_passes_22 : decode cX11_passes 22 = .ok (.dup2, 1) := by decide +kernel
theorem dX11_passes_23 : decode cX11_passes 23 = .ok (.iaload, 1) := by decide +kernel
theorem dX11_passes_24 : decode cX11_passes 24 = .ok (.iconst 1, 1) := by decide +kernel
theorem dX11_passes_25 : decode cX11_passes 25 = .ok (.iadd, 1) := by decide +kernel
theorem dX11_passes_26 : decode cX11_passes 26 = .ok (.iastore, 1) := by decide +kernel
theorem dX11_passes_27 : decode cX11_passes 27 = .ok (.aload_n 0, 1) := by decide +kernel
theorem dX11_passes_28 : decode cX11_passes 28 = .ok (.getfield 7, 3) := by decide +kernel
theorem dX11_passes_31 : decode cX11_passes 31 = .ok (.iconst 0, 1) := by decide +kernel
theorem dX11_passes_32 : decode cX11_passes 32 = .ok (.iaload, 1) := by decide +kernel
theorem dX11_passes_33 : decode cX11_passes 33 = .ok (.ifCond .ne 6, 3) := by decide +kernel
theorem dX11_passes_36 : decode cX11_passes 36 = .ok (.goto 108, 3) := by decide +kernel
theorem dX11_passes_144 : decode cX11_passes 144 = .ok (.iinc 3 1, 3) := by decide +kernel
theorem dX11_passes_147 : decode cX11_passes 147 = .ok (.goto (-143), 3) := by decide +kernel
theorem dX11_passes_150 : decode cX11_passes 150 = .ok (.iload_n 2, 1) := by decide +kernel
theorem dX11_passes_151 : decode cX11_passes 151 = .ok (.ireturn, 1) := by decide +kernel
theorem dX11_pass_0 : decode cX11_pass 0 = .ok (.aload_n 0, 1) := by decide +kernel
theorem dX11_pass_1 : decode cX11_pass 1 = .ok (.iload_n 1, 1) := by decide +kernel
theorem dX11_pass_2 : decode cX11_pass 2 = .ok (.iconst 1, 1) := by decide +kernel
theorem dX11_pass_3 : decode cX11_pass 3 = .ok (.sipush 1000, 3) := by decide +kernel
theorem dX11_pass_6 : decode cX11_pass 6 = .ok (.invokestatic 95, 3) := by decide +kernel
theorem dX11_pass_9 : decode cX11_pass 9 = .ok (.ifCond .eq 25, 3) := by decide +kernel
theorem dX11_pass_12 : decode cX11_pass 12 = .ok (.aload_n 0, 1) := by decide +kernel
theorem dX11_pass_13 : decode cX11_pass 13 = .ok (.getfield 7, 3) := by decide +kernel
theorem dX11_pass_16 : decode cX11_pass 16 = .ok (.iconst 1, 1) := by decide +kernel
theorem dX11_pass_17 : decode cX11_pass 17 = .ok (.iaload, 1) := by decide +kernel
theorem dX11_pass_18 : decode cX11_pass 18 = .ok (.iload_n 1, 1) := by decide +kernel
theorem dX11_pass_19 : decode cX11_pass 19 = .ok (.iadd, 1) := by decide +kernel
theorem dX11_pass_20 : decode cX11_pass 20 = .ok (.sipush 8000, 3) := by decide +kernel
theorem dX11_pass_23 : decode cX11_pass 23 = .ok (.if_icmp .le 7, 3) := by decide +kernel
theorem dX11_pass_30 : decode cX11_pass 30 = .ok (.iconst 0, 1) := by decide +kernel
theorem dX11_pass_31 : decode cX11_pass 31 = .ok (.goto 4, 3) := by decide +kernel
theorem dX11_pass_34 : decode cX11_pass 34 = .ok (.iconst 1, 1) := by decide +kernel
theorem dX11_pass_35 : decode cX11_pass 35 = .ok (.putfield 56, 3) := by decide +kernel
theorem dX11_pass_38 : decode cX11_pass 38 = .ok (.aload_n 0, 1) := by decide +kernel
theorem dX11_pass_39 : decode cX11_pass 39 = .ok (.getfield 56, 3) := by decide +kernel
theorem dX11_pass_42 : decode cX11_pass 42 = .ok (.ifCond .le 5, 3) := by decide +kernel
theorem dX11_pass_45 : decode cX11_pass 45 = .ok (.iconst 0, 1) := by decide +kernel
theorem dX11_pass_46 : decode cX11_pass 46 = .ok (.ireturn, 1) := by decide +kernel
theorem dX11_pass_47 : decode cX11_pass 47 = .ok (.aload_n 0, 1) := by decide +kernel
theorem dX11_pass_48 : decode cX11_pass 48 = .ok (.invokevirtual 145, 3) := by decide +kernel
theorem dX11_pass_51 : decode cX11_pass 51 = .ok (.aload_n 0, 1) := by decide +kernel
theorem dX11_pass_52 : decode cX11_pass 52 = .ok (.iload_n 1, 1) := by decide +kernel
theorem dX11_pass_53 : decode cX11_pass 53 = .ok (.invokevirtual 148, 3) := by decide +kernel
theorem dX11_pass_56 : decode cX11_pass 56 = .ok (.ireturn, 1) := by decide +kernel
theorem dX11_plans_0 : decode cX11_plans 0 = .ok (.aload_n 0, 1) := by decide +kernel
theorem dX11_plans_1 : decode cX11_plans 1 = .ok (.aload_n 0, 1) := by decide +kernel
theorem dX11_plans_2 : decode cX11_plans 2 = .ok (.getfield 7, 3) := by decide +kernel
theorem dX11_plans_5 : decode cX11_plans 5 = .ok (.bipush 7, 2) := by decide +kernel
theorem dX11_plans_7 : decode cX11_plans 7 = .ok (.iaload, 1) := by decide +kernel
theorem dX11_plans_8 : decode cX11_plans 8 = .ok (.putfield 151, 3) := by decide +kernel
theorem dX11_plans_11 : decode cX11_plans 11 = .ok (.aload_n 0, 1) := by decide +kernel
theorem dX11_plans_12 : decode cX11_plans 12 = .ok (.aload_n 0, 1) := by decide +kernel
theorem dX11_plans_13 : decode cX11_plans 13 = .ok (.getfield 7, 3) := by decide +kernel
theorem dX11_plans_16 : decode cX11_plans 16 = .ok (.bipush 8, 2) := by decide +kernel
theorem dX11_plans_18 : decode cX11_plans 18 = .ok (.iaload, 1) := by decide +kernel
theorem dX11_plans_19 : decode cX11_plans 19 = .ok (.putfield 154, 3) := by decide +kernel
theorem dX11_plans_22 : decode cX11_plans 22 = .ok (.aload_n 0, 1) := by decide +kernel
theorem dX11_plans_23 : decode cX11_plans 23 = .ok (.aload_n 0, 1) := by decide +kernel
theorem dX11_plans_24 : decode cX11_plans 24 = .ok (.getfield 59, 3) := by decide +kernel
theorem dX11_plans_27 : decode cX11_plans 27 = .ok (.putfield 157, 3) := by decide +kernel
theorem dX11_plans_30 : decode cX11_plans 30 = .ok (.aload_n 0, 1) := by decide +kernel
theorem dX11_plans_31 : decode cX11_plans 31 = .ok (.aload_n 0, 1) := by decide +kernel
theorem dX11_plans_32 : decode cX11_plans 32 = .ok (.getfield 7, 3) := by decide +kernel
theorem dX11_plans_35 : decode cX11_plans 35 = .ok (.iconst 1, 1) := by decide +kernel
theorem dX11_plans_36 : decode cX11_plans 36 = .ok (.iaload, 1) := by decide +kernel
theorem dX11_plans_37 : decode cX11_plans 37 = .ok (.putfield 160, 3) := by decide +kernel
theorem dX11_plans_40 : decode cX11_plans 40 = .ok (.aload_n 0, 1) := by decide +kernel
theorem dX11_plans_41 : decode cX11_plans 41 = .ok (.iconst 0, 1) := by decide +kernel
theorem dX11_plans_42 : decode cX11_plans 42 = .ok (.putfield 163, 3) := by decide +kernel
theorem dX11_plans_45 : decode cX11_plans 45 = .ok (.aload_n 0, 1) := by decide +kernel
theorem dX11_plans_46 : decode cX11_plans 46 = .ok (.getfield 7, 3) := by decide +kernel
theorem dX11_plans_49 : decode cX11_plans 49 = .ok (.bipush 14, 2) := by decide +kernel
theorem dX11_plans_51 : decode cX11_plans 51 = .ok (.iaload, 1) := by decide +kernel
theorem dX11_plans_52 : decode cX11_plans 52 = .ok (.istore_n 3, 1) := by decide +kernel
theorem dX11_plans_53 : decode cX11_plans 53 = .ok (.iconst 0, 1) := by decide +kernel
theorem dX11_plans_54 : decode cX11_plans 54 = .ok (.istore 4, 2) := by decide +kernel
theorem dX11_plans_56 : decode cX11_plans 56 = .ok (.aload_n 0, 1) := by decide +kernel
theorem dX11_plans_57 : decode cX11_plans 57 = .ok (.getfield 163, 3) := by decide +kernel
theorem dX11_plans_60 : decode cX11_plans 60 = .ok (.iload_n 2, 1) := by decide +kernel
theorem dX11_plans_61 : decode cX11_plans 61 = .ok (.if_icmp .ge 246, 3) := by decide +kernel
theorem dX11_plans_64 : decode cX11_plans 64 = .ok (.aload_n 0, 1) := by decide +kernel
theorem dX11_plans_65 : decode cX11_plans 65 = .ok (.getfield 163, 3) := by decide +kernel
theorem dX11_plans_68 : decode cX11_plans 68 = .ok (.ifCond .eq 15, 3) := by decide +kernel
theorem dX11_plans_71 : decode cX11_plans 71 = .ok (.aload_n 0, 1) := by decide +kernel
theorem dX11_plans_72 : decode cX11_plans 72 = .ok (.getfield 151, 3) := by decide +kernel
theorem dX11_plans_75 : decode cX11_plans 75 = .ok (.aload_n 0, 1) := by decide +kernel
theorem dX11_plans_76 : decode cX11_plans 76 = .ok (.getfield 154, 3) := by decide +kernel
theorem dX11_plans_79 : decode cX11_plans 79 = .ok (.iadd, 1) := by decide +kernel
theorem dX11_plans_80 : decode cX11_plans 80 = .ok (.ifCond .le 227, 3) := by decide +kernel
theorem dX11_plans_83 : decode cX11_plans 83 = .ok (.aload_n 0, 1) := by decide +kernel
theorem dX11_plans_84 : decode cX11_plans 84 = .ok (.iload_n 3, 1) := by decide +kernel
theorem dX11_plans_85 : decode cX11_plans 85 = .ok (.invokevirtual 139, 3) := by decide +kernel
theorem dX11_plans_88 : decode cX11_plans 88 = .ok (.istore 5, 2) := by decide +kernel
theorem dX11_plans_90 : decode cX11_plans 90 = .ok (.aload_n 0, 1) := by decide +kernel
theorem dX11_plans_91 : decode cX11_plans 91 = .ok (.dup, 1) := by decide +kernel
theorem dX11_plans_92 : decode cX11_plans 92 = .ok (.getfield 157, 3) := by decide +kernel
theorem dX11_plans_95 : decode cX11_plans 95 = .ok (.aload_n 0, 1) := by decide +kernel
theorem dX11_plans_96 : decode cX11_plans 96 = .ok (.getfield 151, 3) := by decide +kernel
theorem dX11_plans_99 : decode cX11_plans 99 = .ok (.i2l, 1) := by decide +kernel
theorem dX11_plans_100 : decode cX11_plans 100 = .ok (.aload_n 0, 1) := by decide +kernel
theorem dX11_plans_101 : decode cX11_plans 101 = .ok (.getfield 7, 3) := by decide +kernel
theorem dX11_plans_104 : decode cX11_plans 104 = .ok (.bipush 10, 2) := by decide +kernel
theorem dX11_plans_106 : decode cX11_plans 106 = .ok (.iaload, 1) := by decide +kernel
theorem dX11_plans_107 : decode cX11_plans 107 = .ok (.i2l, 1) := by decide +kernel
theorem dX11_plans_108 : decode cX11_plans 108 = .ok (.lmul, 1) := by decide +kernel
theorem dX11_plans_109 : decode cX11_plans 109 = .ok (.iload 5, 2) := by decide +kernel
theorem dX11_plans_111 : decode cX11_plans 111 = .ok (.aload_n 0, 1) := by decide +kernel
theorem dX11_plans_112 : decode cX11_plans 112 = .ok (.getfield 7, 3) := by decide +kernel
theorem dX11_plans_115 : decode cX11_plans 115 = .ok (.bipush 11, 2) := by decide +kernel
theorem dX11_plans_117 : decode cX11_plans 117 = .ok (.iaload, 1) := by decide +kernel
theorem dX11_plans_118 : decode cX11_plans 118 = .ok (.invokestatic 103, 3) := by decide +kernel
theorem dX11_plans_121 : decode cX11_plans 121 = .ok (.aload_n 0, 1) := by decide +kernel
theorem dX11_plans_122 : decode cX11_plans 122 = .ok (.getfield 160, 3) := by decide +kernel
theorem dX11_plans_125 : decode cX11_plans 125 = .ok (.aload_n 0, 1) := by decide +kernel
theorem dX11_plans_126 : decode cX11_plans 126 = .ok (.getfield 7, 3) := by decide +kernel
theorem dX11_plans_129 : decode cX11_plans 129 = .ok (.bipush 11, 2) := by decide +kernel
theorem dX11_plans_131 : decode cX11_plans 131 = .ok (.iaload, 1) := by decide +kernel
theorem dX11_plans_132 : decode cX11_plans 132 = .ok (.invokestatic 103, 3) := by decide +kernel
theorem dX11_plans_135 : decode cX11_plans 135 = .ok (.isub, 1) := by decide +kernel
theorem dX11_plans_136 : decode cX11_plans 136 = .ok (.i2l, 1) := by decide +kernel
theorem dX11_plans_137 : decode cX11_plans 137 = .ok (.lmul, 1) := by decide +kernel
theorem dX11_plans_138 : decode cX11_plans 138 = .ok (.ladd, 1) := by decide +kernel
theorem dX11_plans_139 : decode cX11_plans 139 = .ok (.putfield 157, 3) := by decide +kernel
theorem dX11_plans_142 : decode cX11_plans 142 = .ok (.aload_n 0, 1) := by decide +kernel
theorem dX11_plans_143 : decode cX11_plans 143 = .ok (.iload 5, 2) := by decide +kernel
theorem dX11_plans_145 : decode cX11_plans 145 = .ok (.putfield 160, 3) := by decide +kernel
theorem dX11_plans_148 : decode cX11_plans 148 = .ok (.aload_n 0, 1) := by decide +kernel
theorem dX11_plans_149 : decode cX11_plans 149 = .ok (.aload_n 0, 1) := by decide +kernel
theorem dX11_plans_150 : decode cX11_plans 150 = .ok (.getfield 157, 3) := by decide +kernel
theorem dX11_plans_153 : decode cX11_plans 153 = .ok (.invokevirtual 114, 3) := by decide +kernel
theorem dX11_plans_156 : decode cX11_plans 156 = .ok (.l2i, 1) := by decide +kernel
theorem dX11_plans_157 : decode cX11_plans 157 = .ok (.istore 6, 2) := by decide +kernel
theorem dX11_plans_159 : decode cX11_plans 159 = .ok (.aload_n 0, 1) := by decide +kernel
theorem dX11_plans_160 : decode cX11_plans 160 = .ok (.dup, 1) := by decide +kernel
theorem dX11_plans_161 : decode cX11_plans 161 = .ok (.getfield 154, 3) := by decide +kernel
theorem dX11_plans_164 : decode cX11_plans 164 = .ok (.iload 6, 2) := by decide +kernel
theorem dX11_plans_166 : decode cX11_plans 166 = .ok (.iadd, 1) := by decide +kernel
theorem dX11_plans_167 : decode cX11_plans 167 = .ok (.putfield 154, 3) := by decide +kernel
theorem dX11_plans_170 : decode cX11_plans 170 = .ok (.aload_n 0, 1) := by decide +kernel
theorem dX11_plans_171 : decode cX11_plans 171 = .ok (.dup, 1) := by decide +kernel
theorem dX11_plans_172 : decode cX11_plans 172 = .ok (.getfield 157, 3) := by decide +kernel
theorem dX11_plans_175 : decode cX11_plans 175 = .ok (.aload_n 0, 1) := by decide +kernel
theorem dX11_plans_176 : decode cX11_plans 176 = .ok (.invokevirtual 110, 3) := by decide +kernel
theorem dX11_plans_179 : decode cX11_plans 179 = .ok (.iload 6, 2) := by decide +kernel
theorem dX11_plans_181 : decode cX11_plans 181 = .ok (.i2l, 1) := by decide +kernel
theorem dX11_plans_182 : decode cX11_plans 182 = .ok (.lmul, 1) := by decide +kernel
theorem dX11_plans_183 : decode cX11_plans 183 = .ok (.lsub, 1) := by decide +kernel
theorem dX11_plans_184 : decode cX11_plans 184 = .ok (.putfield 157, 3) := by decide +kernel
theorem dX11_plans_187 : decode cX11_plans 187 = .ok (.aload_n 0, 1) := by decide +kernel
theorem dX11_plans_188 : decode cX11_plans 188 = .ok (.getfield 7, 3) := by decide +kernel
theorem dX11_plans_191 : decode cX11_plans 191 = .ok (.sipush 1110, 3) := by decide +kernel
theorem dX11_plans_194 : decode cX11_plans 194 = .ok (.iload_n 3, 1) := by decide +kernel
theorem dX11_plans_195 : decode cX11_plans 195 = .ok (.iadd, 1) := by decide +kernel
theorem dX11_plans_196 : decode cX11_plans 196 = .ok (.iaload, 1) := by decide +kernel
theorem dX11_plans_197 : decode cX11_plans 197 = .ok (.iconst 1, 1) := by decide +kernel
theorem dX11_plans_198 : decode cX11_plans 198 = .ok (.if_icmp .ne 57, 3) := by decide +kernel
theorem dX11_plans_255 : decode cX11_plans 255 = .ok (.aload_n 0, 1) := by decide +kernel
theorem dX11_plans_256 : decode cX11_plans 256 = .ok (.getfield 163, 3) := by decide +kernel
theorem dX11_plans_259 : decode cX11_plans 259 = .ok (.iconst 1, 1) := by decide +kernel
theorem dX11_plans_260 : decode cX11_plans 260 = .ok (.iadd, 1) := by decide +kernel
theorem dX11_plans_261 : decode cX11_plans 261 = .ok (.iload_n 2, 1) := by decide +kernel
theorem dX11_plans_262 : decode cX11_plans 262 = .ok (.if_icmp .eq 16, 3) := by decide +kernel
theorem dX11_plans_265 : decode cX11_plans 265 = .ok (.iload_n 1, 1) := by decide +kernel
theorem dX11_plans_266 : decode cX11_plans 266 = .ok (.aload_n 0, 1) := by decide +kernel
theorem dX11_plans_267 : decode cX11_plans 267 = .ok (.getfield 151, 3) := by decide +kernel
theorem dX11_plans_270 : decode cX11_plans 270 = .ok (.aload_n 0, 1) := by decide +kernel
theorem dX11_plans_271 : decode cX11_plans 271 = .ok (.getfield 154, 3) := by decide +kernel
theorem dX11_plans_274 : decode cX11_plans 274 = .ok (.iadd, 1) := by decide +kernel
theorem dX11_plans_275 : decode cX11_plans 275 = .ok (.if_icmp .lt 15, 3) := by decide +kernel
theorem dX11_plans_278 : decode cX11_plans 278 = .ok (.aload_n 0, 1) := by decide +kernel
theorem dX11_plans_279 : decode cX11_plans 279 = .ok (.getfield 151, 3) := by decide +kernel
theorem dX11_plans_282 : decode cX11_plans 282 = .ok (.aload_n 0, 1) := by decide +kernel
theorem dX11_plans_283 : decode cX11_plans 283 = .ok (.getfield 154, 3) := by decide +kernel
theorem dX11_plans_286 : decode cX11_plans 286 = .ok (.iadd, 1) := by decide +kernel
theorem dX11_plans_287 : decode cX11_plans 287 = .ok (.goto 4, 3) := by decide +kernel
theorem dX11_plans_290 : decode cX11_plans 290 = .ok (.iload_n 1, 1) := by decide +kernel
theorem dX11_plans_291 : decode cX11_plans 291 = .ok (.istore 4, 2) := by decide +kernel
theorem dX11_plans_293 : decode cX11_plans 293 = .ok (.aload_n 0, 1) := by decide +kernel
theorem dX11_plans_294 : decode cX11_plans 294 = .ok (.iload 5, 2) := by decide +kernel
theorem dX11_plans_296 : decode cX11_plans 296 = .ok (.iload 4, 2) := by decide +kernel
theorem dX11_plans_298 : decode cX11_plans 298 = .ok (.invokevirtual 166, 3) := by decide +kernel
theorem dX11_plans_301 : decode cX11_plans 301 = .ok (.iinc 3 1, 3) := by decide +kernel
theorem dX11_plans_304 : decode cX11_plans 304 = .ok (.goto (-248), 3) := by decide +kernel
theorem dX11_plans_307 : decode cX11_plans 307 = .ok (.iload 4, 2) := by decide +kernel
theorem dX11_plans_309 : decode cX11_plans 309 = .ok (.ireturn, 1) := by decide +kernel
theorem dX11_pays_0 : decode cX11_pays 0 = .ok (.iload_n 2, 1) := by decide +kernel
theorem dX11_pays_1 : decode cX11_pays 1 = .ok (.aload_n 0, 1) := by decide +kernel
theorem dX11_pays_2 : decode cX11_pays 2 = .ok (.getfield 154, 3) := by decide +kernel
theorem dX11_pays_5 : decode cX11_pays 5 = .ok (.if_icmp .ge 7, 3) := by decide +kernel
theorem dX11_pays_8 : decode cX11_pays 8 = .ok (.iload_n 2, 1) := by decide +kernel
theorem dX11_pays_9 : decode cX11_pays 9 = .ok (.goto 7, 3) := by decide +kernel
theorem dX11_pays_12 : decode cX11_pays 12 = .ok (.aload_n 0, 1) := by decide +kernel
theorem dX11_pays_13 : decode cX11_pays 13 = .ok (.getfield 154, 3) := by decide +kernel
theorem dX11_pays_16 : decode cX11_pays 16 = .ok (.istore_n 3, 1) := by decide +kernel
theorem dX11_pays_17 : decode cX11_pays 17 = .ok (.aload_n 0, 1) := by decide +kernel
theorem dX11_pays_18 : decode cX11_pays 18 = .ok (.dup, 1) := by decide +kernel
theorem dX11_pays_19 : decode cX11_pays 19 = .ok (.getfield 154, 3) := by decide +kernel
theorem dX11_pays_22 : decode cX11_pays 22 = .ok (.iload_n 3, 1) := by decide +kernel
theorem dX11_pays_23 : decode cX11_pays 23 = .ok (.isub, 1) := by decide +kernel
theorem dX11_pays_24 : decode cX11_pays 24 = .ok (.putfield 154, 3) := by decide +kernel
theorem dX11_pays_27 : decode cX11_pays 27 = .ok (.aload_n 0, 1) := by decide +kernel
theorem dX11_pays_28 : decode cX11_pays 28 = .ok (.dup, 1) := by decide +kernel
theorem dX11_pays_29 : decode cX11_pays 29 = .ok (.getfield 151, 3) := by decide +kernel
theorem dX11_pays_32 : decode cX11_pays 32 = .ok (.iload_n 2, 1) := by decide +kernel
theorem dX11_pays_33 : decode cX11_pays 33 = .ok (.iload_n 3, 1) := by decide +kernel
theorem dX11_pays_34 : decode cX11_pays 34 = .ok (.isub, 1) := by decide +kernel
theorem dX11_pays_35 : decode cX11_pays 35 = .ok (.isub, 1) := by decide +kernel
theorem dX11_pays_36 : decode cX11_pays 36 = .ok (.putfield 151, 3) := by decide +kernel
theorem dX11_pays_39 : decode cX11_pays 39 = .ok (.aload_n 0, 1) := by decide +kernel
theorem dX11_pays_40 : decode cX11_pays 40 = .ok (.getfield 26, 3) := by decide +kernel
theorem dX11_pays_43 : decode cX11_pays 43 = .ok (.iconst 5, 1) := by decide +kernel
theorem dX11_pays_44 : decode cX11_pays 44 = .ok (.aload_n 0, 1) := by decide +kernel
theorem dX11_pays_45 : decode cX11_pays 45 = .ok (.getfield 163, 3) := by decide +kernel
theorem dX11_pays_48 : decode cX11_pays 48 = .ok (.imul, 1) := by decide +kernel
theorem dX11_pays_49 : decode cX11_pays 49 = .ok (.iload_n 1, 1) := by decide +kernel
theorem dX11_pays_50 : decode cX11_pays 50 = .ok (.iastore, 1) := by decide +kernel
theorem dX11_pays_51 : decode cX11_pays 51 = .ok (.aload_n 0, 1) := by decide +kernel
theorem dX11_pays_52 : decode cX11_pays 52 = .ok (.getfield 26, 3) := by decide +kernel
theorem dX11_pays_55 : decode cX11_pays 55 = .ok (.iconst 5, 1) := by decide +kernel
theorem dX11_pays_56 : decode cX11_pays 56 = .ok (.aload_n 0, 1) := by decide +kernel
theorem dX11_pays_57 : decode cX11_pays 57 = .ok (.getfield 163, 3) := by decide +kernel
theorem dX11_pays_60 : decode cX11_pays 60 = .ok (.imul, 1) := by decide +kernel
theorem dX11_pays_61 : decode cX11_pays 61 = .ok (.iconst 1, 1) := by decide +kernel
theorem dX11_pays_62 : decode cX11_pays 62 = .ok (.iadd, 1) := by decide +kernel
theorem dX11_pays_63 : decode cX11_pays 63 = .ok (.iload_n 2, 1) := by decide +kernel
theorem dX11_pays_64 : decode cX11_pays 64 = .ok (.iastore, 1) := by decide +kernel
theorem dX11_pays_65 : decode cX11_pays 65 = .ok (.aload_n 0, 1) := by decide +kernel
theorem dX11_pays_66 : decode cX11_pays 66 = .ok (.getfield 26, 3) := by decide +kernel
theorem dX11_pays_69 : decode cX11_pays 69 = .ok (.iconst 5, 1) := by decide +kernel
theorem dX11_pays_70 : decode cX11_pays 70 = .ok (.aload_n 0, 1) := by decide +kernel
theorem dX11_pays_71 : decode cX11_pays 71 = .ok (.getfield 163, 3) := by decide +kernel
theorem dX11_pays_74 : decode cX11_pays 74 = .ok (.imul, 1) := by decide +kernel
theorem dX11_pays_75 : decode cX11_pays 75 = .ok (.iconst 2, 1) := by decide +kernel
theorem dX11_pays_76 : decode cX11_pays 76 = .ok (.iadd, 1) := by decide +kernel
theorem dX11_pays_77 : decode cX11_pays 77 = .ok (.iload_n 3, 1) := by decide +kernel
theorem dX11_pays_78 : decode cX11_pays 78 = .ok (.iastore, 1) := by decide +kernel
theorem dX11_pays_79 : decode cX11_pays 79 = .ok (.aload_n 0, 1) := by decide +kernel
theorem dX11_pays_80 : decode cX11_pays 80 = .ok (.getfield 26, 3) := by decide +kernel
theorem dX11_pays_83 : decode cX11_pays 83 = .ok (.iconst 5, 1) := by decide +kernel
theorem dX11_pays_84 : decode cX11_pays 84 = .ok (.aload_n 0, 1) := by decide +kernel
theorem dX11_pays_85 : decode cX11_pays 85 = .ok (.getfield 163, 3) := by decide +kernel
theorem dX11_pays_88 : decode cX11_pays 88 = .ok (.imul, 1) := by decide +kernel
theorem dX11_pays_89 : decode cX11_pays 89 = .ok (.iconst 3, 1) := by decide +kernel
theorem dX11_pays_90 : decode cX11_pays 90 = .ok (.iadd, 1) := by decide +kernel
theorem dX11_pays_91 : decode cX11_pays 91 = .ok (.iload_n 2, 1) := by decide +kernel
theorem dX11_pays_92 : decode cX11_pays 92 = .ok (.iload_n 3, 1) := by decide +kernel
theorem dX11_pays_93 : decode cX11_pays 93 = .ok (.isub, 1) := by decide +kernel
theorem dX11_pays_94 : decode cX11_pays 94 = .ok (.iastore, 1) := by decide +kernel
theorem dX11_pays_95 : decode cX11_pays 95 = .ok (.aload_n 0, 1) := by decide +kernel
theorem dX11_pays_96 : decode cX11_pays 96 = .ok (.getfield 26, 3) := by decide +kernel
theorem dX11_pays_99 : decode cX11_pays 99 = .ok (.iconst 5, 1) := by decide +kernel
theorem dX11_pays_100 : decode cX11_pays 100 = .ok (.aload_n 0, 1) := by decide +kernel
theorem dX11_pays_101 : decode cX11_pays 101 = .ok (.getfield 163, 3) := by decide +kernel
theorem dX11_pays_104 : decode cX11_pays 104 = .ok (.imul, 1) := by decide +kernel
theorem dX11_pays_105 : decode cX11_pays 105 = .ok (.iconst 4, 1) := by decide +kernel
theorem dX11_pays_106 : decode cX11_pays 106 = .ok (.iadd, 1) := by decide +kernel
theorem dX11_pays_107 : decode cX11_pays 107 = .ok (.aload_n 0, 1) := by decide +kernel
theorem dX11_pays_108 : decode cX11_pays 108 = .ok (.getfield 151, 3) := by decide +kernel
theorem dX11_pays_111 : decode cX11_pays 111 = .ok (.aload_n 0, 1) := by decide +kernel
theorem dX11_pays_112 : decode cX11_pays 112 = .ok (.getfield 154, 3) := by decide +kernel
theorem dX11_pays_115 : decode cX11_pays 115 = .ok (.iadd, 1) := by decide +kernel
theorem dX11_pays_116 : decode cX11_pays 116 = .ok (.iastore, 1) := by decide +kernel
theorem dX11_pays_117 : decode cX11_pays 117 = .ok (.aload_n 0, 1) := by decide +kernel
theorem dX11_pays_118 : decode cX11_pays 118 = .ok (.dup, 1) := by decide +kernel
theorem dX11_pays_119 : decode cX11_pays 119 = .ok (.getfield 163, 3) := by decide +kernel
theorem dX11_pays_122 : decode cX11_pays 122 = .ok (.iconst 1, 1) := by decide +kernel
theorem dX11_pays_123 : decode cX11_pays 123 = .ok (.iadd, 1) := by decide +kernel
theorem dX11_pays_124 : decode cX11_pays 124 = .ok (.putfield 163, 3) := by decide +kernel
theorem dX11_pays_127 : decode cX11_pays 127 = .ok (.return_, 1) := by decide +kernel
theorem dX11_least_0 : decode cX11_least 0 = .ok (.iconst 1, 1) := by decide +kernel
theorem dX11_least_1 : decode cX11_least 1 = .ok (.istore_n 2, 1) := by decide +kernel
theorem dX11_least_2 : decode cX11_least 2 = .ok (.aload_n 0, 1) := by decide +kernel
theorem dX11_least_3 : decode cX11_least 3 = .ok (.iload_n 2, 1) := by decide +kernel
theorem dX11_least_4 : decode cX11_least 4 = .ok (.iload_n 1, 1) := by decide +kernel
theorem dX11_least_5 : decode cX11_least 5 = .ok (.invokevirtual 169, 3) := by decide +kernel
theorem dX11_least_8 : decode cX11_least 8 = .ok (.iload_n 2, 1) := by decide +kernel
theorem dX11_least_9 : decode cX11_least 9 = .ok (.if_icmp .le 10, 3) := by decide +kernel
theorem dX11_least_12 : decode cX11_least 12 = .ok (.iload_n 2, 1) := by decide +kernel
theorem dX11_least_13 : decode cX11_least 13 = .ok (.iconst 2, 1) := by decide +kernel
theorem dX11_least_14 : decode cX11_least 14 = .ok (.imul, 1) := by decide +kernel
theorem dX11_least_15 : decode cX11_least 15 = .ok (.istore_n 2, 1) := by decide +kernel
theorem dX11_least_16 : decode cX11_least 16 = .ok (.goto (-14), 3) := by decide +kernel
theorem dX11_least_19 : decode cX11_least 19 = .ok (.iload_n 2, 1) := by decide +kernel
theorem dX11_least_20 : decode cX11_least 20 = .ok (.iconst 2, 1) := by decide +kernel
theorem dX11_least_21 : decode cX11_least 21 = .ok (.idiv, 1) := by decide +kernel
theorem dX11_least_22 : decode cX11_least 22 = .ok (.iconst 1, 1) := by decide +kernel
theorem dX11_least_23 : decode cX11_least 23 = .ok (.iadd, 1) := by decide +kernel
theorem dX11_least_24 : decode cX11_least 24 = .ok (.istore_n 3, 1) := by decide +kernel
theorem dX11_least_25 : decode cX11_least 25 = .ok (.iload_n 3, 1) := by decide +kernel
theorem dX11_least_26 : decode cX11_least 26 = .ok (.iload_n 2, 1) := by decide +kernel
theorem dX11_least_27 : decode cX11_least 27 = .ok (.if_icmp .ge 38, 3) := by decide +kernel
theorem dX11_least_30 : decode cX11_least 30 = .ok (.iload_n 3, 1) := by decide +kernel
theorem dX11_least_31 : decode cX11_least 31 = .ok (.iload_n 2, 1) := by decide +kernel
theorem dX11_least_32 : decode cX11_least 32 = .ok (.iload_n 3, 1) := by decide +kernel
theorem dX11_least_33 : decode cX11_least 33 = .ok (.isub, 1) := by decide +kernel
theorem dX11_least_34 : decode cX11_least 34 = .ok (.iconst 2, 1) := by decide +kernel
theorem dX11_least_35 : decode cX11_least 35 = .ok (.idiv, 1) := by decide +kernel
theorem dX11_least_36 : decode cX11_least 36 = .ok (.iadd, 1) := by decide +kernel
theorem dX11_least_37 : decode cX11_least 37 = .ok (.istore 4, 2) := by decide +kernel
theorem dX11_least_39 : decode cX11_least 39 = .ok (.aload_n 0, 1) := by decide +kernel
theorem dX11_least_40 : decode cX11_least 40 = .ok (.iload 4, 2) := by decide +kernel
theorem dX11_least_42 : decode cX11_least 42 = .ok (.iload_n 1, 1) := by decide +kernel
theorem dX11_least_43 : decode cX11_least 43 = .ok (.invokevirtual 169, 3) := by decide +kernel
theorem dX11_least_46 : decode cX11_least 46 = .ok (.iload 4, 2) := by decide +kernel
theorem dX11_least_48 : decode cX11_least 48 = .ok (.if_icmp .gt 9, 3) := by decide +kernel
theorem dX11_least_51 : decode cX11_least 51 = .ok (.iload 4, 2) := by decide +kernel
theorem dX11_least_53 : decode cX11_least 53 = .ok (.istore_n 2, 1) := by decide +kernel
theorem dX11_least_54 : decode cX11_least 54 = .ok (.goto 8, 3) := by decide +kernel
theorem dX11_least_57 : decode cX11_least 57 = .ok (.iload 4, 2) := by decide +kernel
theorem dX11_least_59 : decode cX11_least 59 = .ok (.iconst 1, 1) := by decide +kernel
theorem dX11_least_60 : decode cX11_least 60 = .ok (.iadd, 1) := by decide +kernel
theorem dX11_least_61 : decode cX11_least 61 = .ok (.istore_n 3, 1) := by decide +kernel
theorem dX11_least_62 : decode cX11_least 62 = .ok (.goto (-37), 3) := by decide +kernel
theorem dX11_least_65 : decode cX11_least 65 = .ok (.iload_n 2, 1) := by decide +kernel
theorem dX11_least_66 : decode cX11_least 66 = .ok (.ireturn, 1) := by decide +kernel
theorem dX11_plansNow_0 : decode cX11_plansNow 0 = .ok (.aload_n 0, 1) := by decide +kernel
theorem dX11_plansNow_1 : decode cX11_plansNow 1 = .ok (.iconst 0, 1) := by decide +kernel
theorem dX11_plansNow_2 : decode cX11_plansNow 2 = .ok (.putfield 163, 3) := by decide +kernel
theorem dX11_plansNow_5 : decode cX11_plansNow 5 = .ok (.aload_n 0, 1) := by decide +kernel
theorem dX11_plansNow_6 : decode cX11_plansNow 6 = .ok (.getfield 7, 3) := by decide +kernel
theorem dX11_plansNow_9 : decode cX11_plansNow 9 = .ok (.bipush 13, 2) := by decide +kernel
theorem dX11_plansNow_11 : decode cX11_plansNow 11 = .ok (.iaload, 1) := by decide +kernel
theorem dX11_plansNow_12 : decode cX11_plansNow 12 = .ok (.ifCond .le 24, 3) := by decide +kernel
theorem dX11_plansNow_36 : decode cX11_plansNow 36 = .ok (.iconst 0, 1) := by decide +kernel
theorem dX11_plansNow_37 : decode cX11_plansNow 37 = .ok (.ireturn, 1) := by decide +kernel
theorem dX11_scheduleLength_0 : decode cX11_scheduleLength 0 = .ok (.aload_n 0, 1) := by decide +kernel
theorem dX11_scheduleLength_1 : decode cX11_scheduleLength 1 = .ok (.iconst 0, 1) := by decide +kernel
theorem dX11_scheduleLength_2 : decode cX11_scheduleLength 2 = .ok (.putfield 56, 3) := by decide +kernel
theorem dX11_scheduleLength_5 : decode cX11_scheduleLength 5 = .ok (.aload_n 0, 1) := by decide +kernel
theorem dX11_scheduleLength_6 : decode cX11_scheduleLength 6 = .ok (.invokevirtual 175, 3) := by decide +kernel
theorem dX11_scheduleLength_9 : decode cX11_scheduleLength 9 = .ok (.pop, 1) := by decide +kernel
theorem dX11_scheduleLength_10 : decode cX11_scheduleLength 10 = .ok (.aload_n 0, 1) := by decide +kernel
theorem dX11_scheduleLength_11 : decode cX11_scheduleLength 11 = .ok (.getfield 163, 3) := by decide +kernel
theorem dX11_scheduleLength_14 : decode cX11_scheduleLength 14 = .ok (.ireturn, 1) := by decide +kernel
theorem dX11_schedule_0 : decode cX11_schedule 0 = .ok (.aload_n 0, 1) := by decide +kernel
theorem dX11_schedule_1 : decode cX11_schedule 1 = .ok (.invokevirtual 175, 3) := by decide +kernel
theorem dX11_schedule_4 : decode cX11_schedule 4 = .ok (.pop, 1) := by decide +kernel
theorem dX11_schedule_5 : decode cX11_schedule 5 = .ok (.aload_n 0, 1) := by decide +kernel
theorem dX11_schedule_6 : decode cX11_schedule 6 = .ok (.iload_n 1, 1) := by decide +kernel
theorem dX11_schedule_7 : decode cX11_schedule 7 = .ok (.iconst 0, 1) := by decide +kernel
theorem dX11_schedule_8 : decode cX11_schedule 8 = .ok (.aload_n 0, 1) := by decide +kernel
theorem dX11_schedule_9 : decode cX11_schedule 9 = .ok (.getfield 163, 3) := by decide +kernel
theorem dX11_schedule_12 : decode cX11_schedule 12 = .ok (.iconst 1, 1) := by decide +kernel
theorem dX11_schedule_13 : decode cX11_schedule 13 = .ok (.isub, 1) := by decide +kernel
theorem dX11_schedule_14 : decode cX11_schedule 14 = .ok (.invokestatic 95, 3) := by decide +kernel
theorem dX11_schedule_17 : decode cX11_schedule 17 = .ok (.ifCond .eq 20, 3) := by decide +kernel
theorem dX11_schedule_37 : decode cX11_schedule 37 = .ok (.iconst 1, 1) := by decide +kernel
theorem dX11_schedule_38 : decode cX11_schedule 38 = .ok (.putfield 56, 3) := by decide +kernel
theorem dX11_schedule_41 : decode cX11_schedule 41 = .ok (.aload_n 0, 1) := by decide +kernel
theorem dX11_schedule_42 : decode cX11_schedule 42 = .ok (.getfield 56, 3) := by decide +kernel
theorem dX11_schedule_45 : decode cX11_schedule 45 = .ok (.ifCond .le 7, 3) := by decide +kernel
theorem dX11_schedule_48 : decode cX11_schedule 48 = .ok (.iconst 0, 1) := by decide +kernel
theorem dX11_schedule_49 : decode cX11_schedule 49 = .ok (.goto 13, 3) := by decide +kernel
theorem dX11_schedule_62 : decode cX11_schedule 62 = .ok (.ireturn, 1) := by decide +kernel
theorem dX11_installmentFor_0 : decode cX11_installmentFor 0 = .ok (.aload_n 0, 1) := by decide +kernel
theorem dX11_installmentFor_1 : decode cX11_installmentFor 1 = .ok (.iload_n 1, 1) := by decide +kernel
theorem dX11_installmentFor_2 : decode cX11_installmentFor 2 = .ok (.iconst 1, 1) := by decide +kernel
theorem dX11_installmentFor_3 : decode cX11_installmentFor 3 = .ok (.bipush 60, 2) := by decide +kernel
theorem dX11_installmentFor_5 : decode cX11_installmentFor 5 = .ok (.invokestatic 95, 3) := by decide +kernel
theorem dX11_installmentFor_8 : decode cX11_installmentFor 8 = .ok (.ifCond .eq 21, 3) := by decide +kernel
theorem dX11_installmentFor_11 : decode cX11_installmentFor 11 = .ok (.aload_n 0, 1) := by decide +kernel
theorem dX11_installmentFor_12 : decode cX11_installmentFor 12 = .ok (.getfield 7, 3) := by decide +kernel
theorem dX11_installmentFor_15 : decode cX11_installmentFor 15 = .ok (.bipush 13, 2) := by decide +kernel
theorem dX11_installmentFor_17 : decode cX11_installmentFor 17 = .ok (.iaload, 1) := by decide +kernel
theorem dX11_installmentFor_18 : decode cX11_installmentFor 18 = .ok (.ifCond .ne 7, 3) := by decide +kernel
theorem dX11_installmentFor_21 : decode cX11_installmentFor 21 = .ok (.iconst 2, 1) := by decide +kernel
theorem dX11_installmentFor_22 : decode cX11_installmentFor 22 = .ok (.goto 8, 3) := by decide +kernel
theorem dX11_installmentFor_29 : decode cX11_installmentFor 29 = .ok (.iconst 1, 1) := by decide +kernel
theorem dX11_installmentFor_30 : decode cX11_installmentFor 30 = .ok (.putfield 56, 3) := by decide +kernel
theorem dX11_installmentFor_33 : decode cX11_installmentFor 33 = .ok (.aload_n 0, 1) := by decide +kernel
theorem dX11_installmentFor_34 : decode cX11_installmentFor 34 = .ok (.getfield 56, 3) := by decide +kernel
theorem dX11_installmentFor_37 : decode cX11_installmentFor 37 = .ok (.ifCond .le 7, 3) := by decide +kernel
theorem dX11_installmentFor_40 : decode cX11_installmentFor 40 = .ok (.iconst 0, 1) := by decide +kernel
theorem dX11_installmentFor_41 : decode cX11_installmentFor 41 = .ok (.goto 8, 3) := by decide +kernel
theorem dX11_installmentFor_49 : decode cX11_installmentFor 49 = .ok (.ireturn, 1) := by decide +kernel
theorem dX11_begin_0 : decode cX11_begin 0 = .ok (.aload_n 0, 1) := by decide +kernel
theorem dX11_begin_1 : decode cX11_begin 1 = .ok (.iload_n 1, 1) := by decide +kernel
theorem dX11_begin_2 : decode cX11_begin 2 = .ok (.iconst 1, 1) := by decide +kernel
theorem dX11_begin_3 : decode cX11_begin 3 = .ok (.ldc 178, 2) := by decide +kernel
theorem dX11_begin_5 : decode cX11_begin 5 = .ok (.invokestatic 95, 3) := by decide +kernel
theorem dX11_begin_8 : decode cX11_begin 8 = .ok (.ifCond .eq 38, 3) := by decide +kernel
theorem dX11_begin_11 : decode cX11_begin 11 = .ok (.iload_n 2, 1) := by decide +kernel
theorem dX11_begin_12 : decode cX11_begin 12 = .ok (.iconst 0, 1) := by decide +kernel
theorem dX11_begin_13 : decode cX11_begin 13 = .ok (.sipush 2000, 3) := by decide +kernel
theorem dX11_begin_16 : decode cX11_begin 16 = .ok (.invokestatic 95, 3) := by decide +kernel
theorem dX11_begin_19 : decode cX11_begin 19 = .ok (.ifCond .eq 27, 3) := by decide +kernel
theorem dX11_begin_22 : decode cX11_begin 22 = .ok (.iload_n 3, 1) := by decide +kernel
theorem dX11_begin_23 : decode cX11_begin 23 = .ok (.iconst 1, 1) := by decide +kernel
theorem dX11_begin_24 : decode cX11_begin 24 = .ok (.bipush 60, 2) := by decide +kernel
theorem dX11_begin_26 : decode cX11_begin 26 = .ok (.invokestatic 95, 3) := by decide +kernel
theorem dX11_begin_29 : decode cX11_begin 29 = .ok (.ifCond .eq 17, 3) := by decide +kernel
theorem dX11_begin_32 : decode cX11_begin 32 = .ok (.iload 4, 2) := by decide +kernel
theorem dX11_begin_34 : decode cX11_begin 34 = .ok (.iconst 0, 1) := by decide +kernel
theorem dX11_begin_35 : decode cX11_begin 35 = .ok (.iconst 2, 1) := by decide +kernel
theorem dX11_begin_36 : decode cX11_begin 36 = .ok (.invokestatic 95, 3) := by decide +kernel
theorem dX11_begin_39 : decode cX11_begin 39 = .ok (.ifCond .eq 7, 3) := by decide +kernel
theorem dX11_begin_42 : decode cX11_begin 42 = .ok (.iconst 0, 1) := by decide +kernel
theorem dX11_begin_43 : decode cX11_begin 43 = .ok (.goto 4, 3) := by decide +kernel
theorem dX11_begin_46 : decode cX11_begin 46 = .ok (.iconst 1, 1) := by decide +kernel
theorem dX11_begin_47 : decode cX11_begin 47 = .ok (.putfield 56, 3) := by decide +kernel
theorem dX11_begin_50 : decode cX11_begin 50 = .ok (.aload_n 0, 1) := by decide +kernel
theorem dX11_begin_51 : decode cX11_begin 51 = .ok (.getfield 56, 3) := by decide +kernel
theorem dX11_begin_54 : decode cX11_begin 54 = .ok (.ifCond .le 5, 3) := by decide +kernel
theorem dX11_begin_57 : decode cX11_begin 57 = .ok (.iconst 0, 1) := by decide +kernel
theorem dX11_begin_58 : decode cX11_begin 58 = .ok (.ireturn, 1) := by decide +kernel
theorem dX11_begin_59 : decode cX11_begin 59 = .ok (.aload_n 0, 1) := by decide +kernel
theorem dX11_begin_60 : decode cX11_begin 60 = .ok (.invokevirtual 145, 3) := by decide +kernel
theorem dX11_begin_63 : decode cX11_begin 63 = .ok (.aload_n 0, 1) := by decide +kernel
theorem dX11_begin_64 : decode cX11_begin 64 = .ok (.getfield 7, 3) := by decide +kernel
theorem dX11_begin_67 : decode cX11_begin 67 = .ok (.iconst 1, 1) := by decide +kernel
theorem dX11_begin_68 : decode cX11_begin 68 = .ok (.iaload, 1) := by decide +kernel
theorem dX11_begin_69 : decode cX11_begin 69 = .ok (.istore 5, 2) := by decide +kernel
theorem dX11_begin_71 : decode cX11_begin 71 = .ok (.bipush 7, 2) := by decide +kernel
theorem dX11_begin_73 : decode cX11_begin 73 = .ok (.istore 6, 2) := by decide +kernel
theorem dX11_begin_75 : decode cX11_begin 75 = .ok (.iload 6, 2) := by decide +kernel
theorem dX11_begin_77 : decode cX11_begin 77 = .ok (.sipush 1460, 3) := by decide +kernel
theorem dX11_begin_80 : decode cX11_begin 80 = .ok (.if_icmp .ge 17, 3) := by decide +kernel
theorem dX11_begin_83 : decode cX11_begin 83 = .ok (.aload_n 0, 1) := by decide +kernel
theorem dX11_begin_84 : decode cX11_begin 84 = .ok (.getfield 7, 3) := by decide +kernel
theorem dX11_begin_87 : decode cX11_begin 87 = .ok (.iload 6, 2) := by decide +kernel
theorem dX11_begin_89 : decode cX11_begin 89 = .ok (.iconst 0, 1) := by decide +kernel
theorem dX11_begin_90 : decode cX11_begin 90 = .ok (.iastore, 1) := by decide +kernel
theorem dX11_begin_91 : decode cX11_begin 91 = .ok (.iinc 6 1, 3) := by decide +kernel
theorem dX11_begin_94 : decode cX11_begin 94 = .ok (.goto (-19), 3) := by decide +kernel
theorem dX11_begin_97 : decode cX11_begin 97 = .ok (.aload_n 0, 1) := by decide +kernel
theorem dX11_begin_98 : decode cX11_begin 98 = .ok (.lconst 0, 1) := by decide +kernel
theorem dX11_begin_99 : decode cX11_begin 99 = .ok (.putfield 59, 3) := by decide +kernel
theorem dX11_begin_102 : decode cX11_begin 102 = .ok (.aload_n 0, 1) := by decide +kernel
theorem dX11_begin_103 : decode cX11_begin 103 = .ok (.getfield 7, 3) := by decide +kernel
theorem dX11_begin_106 : decode cX11_begin 106 = .ok (.iconst 0, 1) := by decide +kernel
theorem dX11_begin_107 : decode cX11_begin 107 = .ok (.iconst 1, 1) := by decide +kernel
theorem dX11_begin_108 : decode cX11_begin 108 = .ok (.iastore, 1) := by decide +kernel
theorem dX11_begin_109 : decode cX11_begin 109 = .ok (.aload_n 0, 1) := by decide +kernel
theorem dX11_begin_110 : decode cX11_begin 110 = .ok (.getfield 7, 3) := by decide +kernel
theorem dX11_begin_113 : decode cX11_begin 113 = .ok (.bipush 7, 2) := by decide +kernel
theorem dX11_begin_115 : decode cX11_begin 115 = .ok (.iload_n 1, 1) := by decide +kernel
theorem dX11_begin_116 : decode cX11_begin 116 = .ok (.iastore, 1) := by decide +kernel
theorem dX11_begin_117 : decode cX11_begin 117 = .ok (.aload_n 0, 1) := by decide +kernel
theorem dX11_begin_118 : decode cX11_begin 118 = .ok (.getfield 7, 3) := by decide +kernel
theorem dX11_begin_121 : decode cX11_begin 121 = .ok (.bipush 16, 2) := by decide +kernel
theorem dX11_begin_123 : decode cX11_begin 123 = .ok (.iload_n 1, 1) := by decide +kernel
theorem dX11_begin_124 : decode cX11_begin 124 = .ok (.iastore, 1) := by decide +kernel
theorem dX11_begin_125 : decode cX11_begin 125 = .ok (.aload_n 0, 1) := by decide +kernel
theorem dX11_begin_126 : decode cX11_begin 126 = .ok (.getfield 7, 3) := by decide +kernel
theorem dX11_begin_129 : decode cX11_begin 129 = .ok (.bipush 10, 2) := by decide +kernel
theorem dX11_begin_131 : decode cX11_begin 131 = .ok (.iload_n 2, 1) := by decide +kernel
theorem dX11_begin_132 : decode cX11_begin 132 = .ok (.iastore, 1) := by decide +kernel
theorem dX11_begin_133 : decode cX11_begin 133 = .ok (.aload_n 0, 1) := by decide +kernel
theorem dX11_begin_134 : decode cX11_begin 134 = .ok (.getfield 7, 3) := by decide +kernel
theorem dX11_begin_137 : decode cX11_begin 137 = .ok (.bipush 11, 2) := by decide +kernel
theorem dX11_begin_139 : decode cX11_begin 139 = .ok (.iload 4, 2) := by decide +kernel
theorem dX11_begin_141 : decode cX11_begin 141 = .ok (.iastore, 1) := by decide +kernel
theorem dX11_begin_142 : decode cX11_begin 142 = .ok (.aload_n 0, 1) := by decide +kernel
theorem dX11_begin_143 : decode cX11_begin 143 = .ok (.getfield 7, 3) := by decide +kernel
theorem dX11_begin_146 : decode cX11_begin 146 = .ok (.bipush 13, 2) := by decide +kernel
theorem dX11_begin_148 : decode cX11_begin 148 = .ok (.iload_n 3, 1) := by decide +kernel
theorem dX11_begin_149 : decode cX11_begin 149 = .ok (.iastore, 1) := by decide +kernel
theorem dX11_begin_150 : decode cX11_begin 150 = .ok (.aload_n 0, 1) := by decide +kernel
theorem dX11_begin_151 : decode cX11_begin 151 = .ok (.getfield 7, 3) := by decide +kernel
theorem dX11_begin_154 : decode cX11_begin 154 = .ok (.bipush 14, 2) := by decide +kernel
theorem dX11_begin_156 : decode cX11_begin 156 = .ok (.iconst 1, 1) := by decide +kernel
theorem dX11_begin_157 : decode cX11_begin 157 = .ok (.iastore, 1) := by decide +kernel
theorem dX11_begin_158 : decode cX11_begin 158 = .ok (.aload_n 0, 1) := by decide +kernel
theorem dX11_begin_159 : decode cX11_begin 159 = .ok (.getfield 7, 3) := by decide +kernel
theorem dX11_begin_162 : decode cX11_begin 162 = .ok (.bipush 15, 2) := by decide +kernel
theorem dX11_begin_164 : decode cX11_begin 164 = .ok (.iload 5, 2) := by decide +kernel
theorem dX11_begin_166 : decode cX11_begin 166 = .ok (.iastore, 1) := by decide +kernel
theorem dX11_begin_167 : decode cX11_begin 167 = .ok (.aload_n 0, 1) := by decide +kernel
theorem dX11_begin_168 : decode cX11_begin 168 = .ok (.getfield 7, 3) := by decide +kernel
theorem dX11_begin_171 : decode cX11_begin 171 = .ok (.bipush 12, 2) := by decide +kernel
theorem dX11_begin_173 : decode cX11_begin 173 = .ok (.aload_n 0, 1) := by decide +kernel
theorem dX11_begin_174 : decode cX11_begin 174 = .ok (.iload_n 3, 1) := by decide +kernel
theorem dX11_begin_175 : decode cX11_begin 175 = .ok (.invokevirtual 172, 3) := by decide +kernel
theorem dX11_begin_178 : decode cX11_begin 178 = .ok (.iastore, 1) := by decide +kernel
theorem dX11_begin_179 : decode cX11_begin 179 = .ok (.aload_n 0, 1) := by decide +kernel
theorem dX11_begin_180 : decode cX11_begin 180 = .ok (.getfield 7, 3) := by decide +kernel
theorem dX11_begin_183 : decode cX11_begin 183 = .ok (.bipush 12, 2) := by decide +kernel
theorem dX11_begin_185 : decode cX11_begin 185 = .ok (.iaload, 1) := by decide +kernel
theorem dX11_begin_186 : decode cX11_begin 186 = .ok (.ireturn, 1) := by decide +kernel
theorem dX11_bound_0 : decode cX11_bound 0 = .ok (.iload_n 0, 1) := by decide +kernel
theorem dX11_bound_1 : decode cX11_bound 1 = .ok (.tableswitch 39 0 3 #[31, 39, 33, 36], 31) := by decide +kernel
theorem dX11_bound_32 : decode cX11_bound 32 = .ok (.iconst 5, 1) := by decide +kernel
theorem dX11_bound_33 : decode cX11_bound 33 = .ok (.ireturn, 1) := by decide +kernel
theorem dX11_bound_34 : decode cX11_bound 34 = .ok (.bipush 30, 2) := by decide +kernel
theorem dX11_bound_36 : decode cX11_bound 36 = .ok (.ireturn, 1) := by decide +kernel
theorem dX11_bound_37 : decode cX11_bound 37 = .ok (.ldc 179, 2) := by decide +kernel
theorem dX11_bound_39 : decode cX11_bound 39 = .ok (.ireturn, 1) := by decide +kernel
theorem dX11_bound_40 : decode cX11_bound 40 = .ok (.iconst 1, 1) := by decide +kernel
theorem dX11_bound_41 : decode cX11_bound 41 = .ok (.ireturn, 1) := by decide +kernel
theorem dX11_set_0 : decode cX11_set 0 = .ok (.aload_n 0, 1) := by decide +kernel
theorem dX11_set_1 : decode cX11_set 1 = .ok (.iload_n 1, 1) := by decide +kernel
theorem dX11_set_2 : decode cX11_set 2 = .ok (.iconst 0, 1) := by decide +kernel
theorem dX11_set_3 : decode cX11_set 3 = .ok (.iconst 4, 1) := by decide +kernel
theorem dX11_set_4 : decode cX11_set 4 = .ok (.invokestatic 95, 3) := by decide +kernel
theorem dX11_set_7 : decode cX11_set 7 = .ok (.ifCond .eq 23, 3) := by decide +kernel
theorem dX11_set_10 : decode cX11_set 10 = .ok (.iload_n 2, 1) := by decide +kernel
theorem dX11_set_11 : decode cX11_set 11 = .ok (.iconst 0, 1) := by decide +kernel
theorem dX11_set_12 : decode cX11_set 12 = .ok (.iload_n 1, 1) := by decide +kernel
theorem dX11_set_13 : decode cX11_set 13 = .ok (.invokestatic 180, 3) := by decide +kernel
theorem dX11_set_16 : decode cX11_set 16 = .ok (.invokestatic 95, 3) := by decide +kernel
theorem dX11_set_19 : decode cX11_set 19 = .ok (.ifCond .eq 7, 3) := by decide +kernel
theorem dX11_set_22 : decode cX11_set 22 = .ok (.iconst 0, 1) := by decide +kernel
theorem dX11_set_23 : decode cX11_set 23 = .ok (.goto 8, 3) := by decide +kernel
theorem dX11_set_26 : decode cX11_set 26 = .ok (.iconst 2, 1) := by decide +kernel
theorem dX11_set_27 : decode cX11_set 27 = .ok (.goto 4, 3) := by decide +kernel
theorem dX11_set_30 : decode cX11_set 30 = .ok (.iconst 1, 1) := by decide +kernel
theorem dX11_set_31 : decode cX11_set 31 = .ok (.putfield 56, 3) := by decide +kernel
theorem dX11_set_34 : decode cX11_set 34 = .ok (.aload_n 0, 1) := by decide +kernel
theorem dX11_set_35 : decode cX11_set 35 = .ok (.getfield 56, 3) := by decide +kernel
theorem dX11_set_38 : decode cX11_set 38 = .ok (.ifCond .le 5, 3) := by decide +kernel
theorem dX11_set_41 : decode cX11_set 41 = .ok (.iconst 0, 1) := by decide +kernel
theorem dX11_set_42 : decode cX11_set 42 = .ok (.ireturn, 1) := by decide +kernel
theorem dX11_set_43 : decode cX11_set 43 = .ok (.aload_n 0, 1) := by decide +kernel
theorem dX11_set_44 : decode cX11_set 44 = .ok (.invokevirtual 145, 3) := by decide +kernel
theorem dX11_set_47 : decode cX11_set 47 = .ok (.aload_n 0, 1) := by decide +kernel
theorem dX11_set_48 : decode cX11_set 48 = .ok (.getfield 7, 3) := by decide +kernel
theorem dX11_set_51 : decode cX11_set 51 = .ok (.iconst 2, 1) := by decide +kernel
theorem dX11_set_52 : decode cX11_set 52 = .ok (.iload_n 1, 1) := by decide +kernel
theorem dX11_set_53 : decode cX11_set 53 = .ok (.iadd, 1) := by decide +kernel
theorem dX11_set_54 : decode cX11_set 54 = .ok (.iaload, 1) := by decide +kernel
theorem dX11_set_55 : decode cX11_set 55 = .ok (.istore_n 3, 1) := by decide +kernel
theorem dX11_set_56 : decode cX11_set 56 = .ok (.aload_n 0, 1) := by decide +kernel
theorem dX11_set_57 : decode cX11_set 57 = .ok (.getfield 7, 3) := by decide +kernel
theorem dX11_set_60 : decode cX11_set 60 = .ok (.iconst 2, 1) := by decide +kernel
theorem dX11_set_61 : decode cX11_set 61 = .ok (.iload_n 1, 1) := by decide +kernel
theorem dX11_set_62 : decode cX11_set 62 = .ok (.iadd, 1) := by decide +kernel
theorem dX11_set_63 : decode cX11_set 63 = .ok (.iload_n 2, 1) := by decide +kernel
theorem dX11_set_64 : decode cX11_set 64 = .ok (.iastore, 1) := by decide +kernel
theorem dX11_set_65 : decode cX11_set 65 = .ok (.iload_n 3, 1) := by decide +kernel
theorem dX11_set_66 : decode cX11_set 66 = .ok (.ireturn, 1) := by decide +kernel
theorem dX11_rated_0 : decode cX11_rated 0 = .ok (.iload_n 1, 1) := by decide +kernel
theorem dX11_rated_1 : decode cX11_rated 1 = .ok (.iconst 0, 1) := by decide +kernel
theorem dX11_rated_2 : decode cX11_rated 2 = .ok (.sipush 2000, 3) := by decide +kernel
theorem dX11_rated_5 : decode cX11_rated 5 = .ok (.invokestatic 95, 3) := by decide +kernel
theorem dX11_rated_8 : decode cX11_rated 8 = .ok (.ifCond .ne 9, 3) := by decide +kernel
theorem dX11_rated_11 : decode cX11_rated 11 = .ok (.aload_n 0, 1) := by decide +kernel
theorem dX11_rated_12 : decode cX11_rated 12 = .ok (.iconst 1, 1) := by decide +kernel
theorem dX11_rated_13 : decode cX11_rated 13 = .ok (.invokevirtual 73, 3) := by decide +kernel
theorem dX11_rated_16 : decode cX11_rated 16 = .ok (.ireturn, 1) := by decide +kernel
theorem dX11_rated_17 : decode cX11_rated 17 = .ok (.aload_n 0, 1) := by decide +kernel
theorem dX11_rated_18 : decode cX11_rated 18 = .ok (.getfield 7, 3) := by decide +kernel
theorem dX11_rated_21 : decode cX11_rated 21 = .ok (.iconst 0, 1) := by decide +kernel
theorem dX11_rated_22 : decode cX11_rated 22 = .ok (.iaload, 1) := by decide +kernel
theorem dX11_rated_23 : decode cX11_rated 23 = .ok (.iconst 1, 1) := by decide +kernel
theorem dX11_rated_24 : decode cX11_rated 24 = .ok (.if_icmp .eq 9, 3) := by decide +kernel
theorem dX11_rated_27 : decode cX11_rated 27 = .ok (.aload_n 0, 1) := by decide +kernel
theorem dX11_rated_28 : decode cX11_rated 28 = .ok (.iconst 2, 1) := by decide +kernel
theorem dX11_rated_29 : decode cX11_rated 29 = .ok (.invokevirtual 73, 3) := by decide +kernel
theorem dX11_rated_32 : decode cX11_rated 32 = .ok (.ireturn, 1) := by decide +kernel
theorem dX11_setRate_0 : decode cX11_setRate 0 = .ok (.aload_n 0, 1) := by decide +kernel
theorem dX11_setRate_1 : decode cX11_setRate 1 = .ok (.iconst 0, 1) := by decide +kernel
theorem dX11_setRate_2 : decode cX11_setRate 2 = .ok (.putfield 56, 3) := by decide +kernel
theorem dX11_setRate_5 : decode cX11_setRate 5 = .ok (.aload_n 0, 1) := by decide +kernel
theorem dX11_setRate_6 : decode cX11_setRate 6 = .ok (.iload_n 1, 1) := by decide +kernel
theorem dX11_setRate_7 : decode cX11_setRate 7 = .ok (.invokevirtual 186, 3) := by decide +kernel
theorem dX11_setRate_10 : decode cX11_setRate 10 = .ok (.ireturn, 1) := by decide +kernel
theorem dX11_holidays_0 : decode cX11_holidays 0 = .ok (.iload_n 1, 1) := by decide +kernel
theorem dX11_holidays_1 : decode cX11_holidays 1 = .ok (.iconst 0, 1) := by decide +kernel
theorem dX11_holidays_2 : decode cX11_holidays 2 = .ok (.bipush 23, 2) := by decide +kernel
theorem dX11_holidays_4 : decode cX11_holidays 4 = .ok (.invokestatic 95, 3) := by decide +kernel
theorem dX11_holidays_7 : decode cX11_holidays 7 = .ok (.ifCond .eq 21, 3) := by decide +kernel
theorem dX11_holidays_10 : decode cX11_holidays 10 = .ok (.aload_n 0, 1) := by decide +kernel
theorem dX11_holidays_11 : decode cX11_holidays 11 = .ok (.getfield 7, 3) := by decide +kernel
theorem dX11_holidays_14 : decode cX11_holidays 14 = .ok (.bipush 13, 2) := by decide +kernel
theorem dX11_holidays_16 : decode cX11_holidays 16 = .ok (.iaload, 1) := by decide +kernel
theorem dX11_holidays_17 : decode cX11_holidays 17 = .ok (.ifCond .ne 7, 3) := by decide +kernel
theorem dX11_holidays_20 : decode cX11_holidays 20 = .ok (.iconst 2, 1) := by decide +kernel
theorem dX11_holidays_21 : decode cX11_holidays 21 = .ok (.goto 8, 3) := by decide +kernel
theorem dX11_holidays_28 : decode cX11_holidays 28 = .ok (.iconst 1, 1) := by decide +kernel
theorem dX11_holidays_29 : decode cX11_holidays 29 = .ok (.istore_n 3, 1) := by decide +kernel
theorem dX11_holidays_30 : decode cX11_holidays 30 = .ok (.iload_n 3, 1) := by decide +kernel
theorem dX11_holidays_31 : decode cX11_holidays 31 = .ok (.ifCond .le 10, 3) := by decide +kernel
theorem dX11_holidays_34 : decode cX11_holidays 34 = .ok (.aload_n 0, 1) := by decide +kernel
theorem dX11_holidays_35 : decode cX11_holidays 35 = .ok (.iload_n 3, 1) := by decide +kernel
theorem dX11_holidays_36 : decode cX11_holidays 36 = .ok (.putfield 56, 3) := by decide +kernel
theorem dX11_holidays_39 : decode cX11_holidays 39 = .ok (.iconst 0, 1) := by decide +kernel
theorem dX11_holidays_40 : decode cX11_holidays 40 = .ok (.ireturn, 1) := by decide +kernel
theorem dX11_setHoliday_0 : decode cX11_setHoliday 0 = .ok (.aload_n 0, 1) := by decide +kernel
theorem dX11_setHoliday_1 : decode cX11_setHoliday 1 = .ok (.iconst 0, 1) := by decide +kernel
theorem dX11_setHoliday_2 : decode cX11_setHoliday 2 = .ok (.putfield 56, 3) := by decide +kernel
theorem dX11_setHoliday_5 : decode cX11_setHoliday 5 = .ok (.aload_n 0, 1) := by decide +kernel
theorem dX11_setHoliday_6 : decode cX11_setHoliday 6 = .ok (.iload_n 1, 1) := by decide +kernel
theorem dX11_setHoliday_7 : decode cX11_setHoliday 7 = .ok (.iload_n 2, 1) := by decide +kernel
theorem dX11_setHoliday_8 : decode cX11_setHoliday 8 = .ok (.invokevirtual 189, 3) := by decide +kernel
theorem dX11_setHoliday_11 : decode cX11_setHoliday 11 = .ok (.ireturn, 1) := by decide +kernel
theorem dX11_against_0 : decode cX11_against 0 = .ok (.iload_n 1, 1) := by decide +kernel
theorem dX11_against_1 : decode cX11_against 1 = .ok (.iconst 1, 1) := by decide +kernel
theorem dX11_against_2 : decode cX11_against 2 = .ok (.if_icmp .ge 7, 3) := by decide +kernel
theorem dX11_against_5 : decode cX11_against 5 = .ok (.iconst 1, 1) := by decide +kernel
theorem dX11_against_6 : decode cX11_against 6 = .ok (.goto 42, 3) := by decide +kernel
theorem dX11_against_9 : decode cX11_against 9 = .ok (.aload_n 0, 1) := by decide +kernel
theorem dX11_against_10 : decode cX11_against 10 = .ok (.getfield 7, 3) := by decide +kernel
theorem dX11_against_13 : decode cX11_against 13 = .ok (.iconst 0, 1) := by decide +kernel
theorem dX11_against_14 : decode cX11_against 14 = .ok (.iaload, 1) := by decide +kernel
theorem dX11_against_15 : decode cX11_against 15 = .ok (.iconst 1, 1) := by decide +kernel
theorem dX11_against_16 : decode cX11_against 16 = .ok (.if_icmp .eq 7, 3) := by decide +kernel
theorem dX11_against_19 : decode cX11_against 19 = .ok (.iconst 2, 1) := by decide +kernel
theorem dX11_against_20 : decode cX11_against 20 = .ok (.goto 28, 3) := by decide +kernel
theorem dX11_against_48 : decode cX11_against 48 = .ok (.ireturn, 1) := by decide +kernel
theorem dX11_paysIn_0 : decode cX11_paysIn 0 = .ok (.aload_n 0, 1) := by decide +kernel
theorem dX11_paysIn_1 : decode cX11_paysIn 1 = .ok (.iload_n 1, 1) := by decide +kernel
theorem dX11_paysIn_2 : decode cX11_paysIn 2 = .ok (.invokevirtual 211, 3) := by decide +kernel
theorem dX11_paysIn_5 : decode cX11_paysIn 5 = .ok (.istore_n 2, 1) := by decide +kernel
theorem dX11_paysIn_6 : decode cX11_paysIn 6 = .ok (.iload_n 2, 1) := by decide +kernel
theorem dX11_paysIn_7 : decode cX11_paysIn 7 = .ok (.ifCond .le 9, 3) := by decide +kernel
theorem dX11_paysIn_10 : decode cX11_paysIn 10 = .ok (.aload_n 0, 1) := by decide +kernel
theorem dX11_paysIn_11 : decode cX11_paysIn 11 = .ok (.iload_n 2, 1) := by decide +kernel
theorem dX11_paysIn_12 : decode cX11_paysIn 12 = .ok (.invokevirtual 73, 3) := by decide +kernel
theorem dX11_paysIn_15 : decode cX11_paysIn 15 = .ok (.ireturn, 1) := by decide +kernel
theorem dX11_pay_0 : decode cX11_pay 0 = .ok (.aload_n 0, 1) := by decide +kernel
theorem dX11_pay_1 : decode cX11_pay 1 = .ok (.iconst 0, 1) := by decide +kernel
theorem dX11_pay_2 : decode cX11_pay 2 = .ok (.putfield 56, 3) := by decide +kernel
theorem dX11_pay_5 : decode cX11_pay 5 = .ok (.aload_n 0, 1) := by decide +kernel
theorem dX11_pay_6 : decode cX11_pay 6 = .ok (.iload_n 1, 1) := by decide +kernel
theorem dX11_pay_7 : decode cX11_pay 7 = .ok (.invokevirtual 217, 3) := by decide +kernel
theorem dX11_pay_10 : decode cX11_pay 10 = .ok (.ireturn, 1) := by decide +kernel
theorem dX11_waives_0 : decode cX11_waives 0 = .ok (.iload_n 1, 1) := by decide +kernel
theorem dX11_waives_1 : decode cX11_waives 1 = .ok (.iconst 1, 1) := by decide +kernel
theorem dX11_waives_2 : decode cX11_waives 2 = .ok (.if_icmp .ge 7, 3) := by decide +kernel
theorem dX11_waives_5 : decode cX11_waives 5 = .ok (.iconst 1, 1) := by decide +kernel
theorem dX11_waives_6 : decode cX11_waives 6 = .ok (.goto 19, 3) := by decide +kernel
theorem dX11_waives_9 : decode cX11_waives 9 = .ok (.iload_n 1, 1) := by decide +kernel
theorem dX11_waives_10 : decode cX11_waives 10 = .ok (.aload_n 0, 1) := by decide +kernel
theorem dX11_waives_11 : decode cX11_waives 11 = .ok (.getfield 7, 3) := by decide +kernel
theorem dX11_waives_14 : decode cX11_waives 14 = .ok (.bipush 9, 2) := by decide +kernel
theorem dX11_waives_16 : decode cX11_waives 16 = .ok (.iaload, 1) := by decide +kernel
theorem dX11_waives_17 : decode cX11_waives 17 = .ok (.if_icmp .le 7, 3) := by decide +kernel
theorem dX11_waives_20 : decode cX11_waives 20 = .ok (.iconst 2, 1) := by decide +kernel
theorem dX11_waives_21 : decode cX11_waives 21 = .ok (.goto 4, 3) := by decide +kernel
theorem dX11_waives_25 : decode cX11_waives 25 = .ok (.istore_n 2, 1) := by decide +kernel
theorem dX11_waives_26 : decode cX11_waives 26 = .ok (.iload_n 2, 1) := by decide +kernel
theorem dX11_waives_27 : decode cX11_waives 27 = .ok (.ifCond .le 9, 3) := by decide +kernel
theorem dX11_waives_30 : decode cX11_waives 30 = .ok (.aload_n 0, 1) := by decide +kernel
theorem dX11_waives_31 : decode cX11_waives 31 = .ok (.iload_n 2, 1) := by decide +kernel
theorem dX11_waives_32 : decode cX11_waives 32 = .ok (.invokevirtual 73, 3) := by decide +kernel
theorem dX11_waives_35 : decode cX11_waives 35 = .ok (.ireturn, 1) := by decide +kernel
theorem dX11_waive_0 : decode cX11_waive 0 = .ok (.aload_n 0, 1) := by decide +kernel
theorem dX11_waive_1 : decode cX11_waive 1 = .ok (.iconst 0, 1) := by decide +kernel
theorem dX11_waive_2 : decode cX11_waive 2 = .ok (.putfield 56, 3) := by decide +kernel
theorem dX11_waive_5 : decode cX11_waive 5 = .ok (.aload_n 0, 1) := by decide +kernel
theorem dX11_waive_6 : decode cX11_waive 6 = .ok (.iload_n 1, 1) := by decide +kernel
theorem dX11_waive_7 : decode cX11_waive 7 = .ok (.invokevirtual 220, 3) := by decide +kernel
theorem dX11_waive_10 : decode cX11_waive 10 = .ok (.ireturn, 1) := by decide +kernel
theorem dX11_explain_0 : decode cX11_explain 0 = .ok (.aload_n 0, 1) := by decide +kernel
theorem dX11_explain_1 : decode cX11_explain 1 = .ok (.iload_n 1, 1) := by decide +kernel
theorem dX11_explain_2 : decode cX11_explain 2 = .ok (.iconst 1, 1) := by decide +kernel
theorem dX11_explain_3 : decode cX11_explain 3 = .ok (.if_icmp .lt 12, 3) := by decide +kernel
theorem dX11_explain_6 : decode cX11_explain 6 = .ok (.iload_n 2, 1) := by decide +kernel
theorem dX11_explain_7 : decode cX11_explain 7 = .ok (.iconst 0, 1) := by decide +kernel
theorem dX11_explain_8 : decode cX11_explain 8 = .ok (.iconst 5, 1) := by decide +kernel
theorem dX11_explain_9 : decode cX11_explain 9 = .ok (.invokestatic 95, 3) := by decide +kernel
theorem dX11_explain_12 : decode cX11_explain 12 = .ok (.ifCond .ne 7, 3) := by decide +kernel
theorem dX11_explain_15 : decode cX11_explain 15 = .ok (.iconst 1, 1) := by decide +kernel
theorem dX11_explain_16 : decode cX11_explain 16 = .ok (.goto 8, 3) := by decide +kernel
theorem dX11_explain_19 : decode cX11_explain 19 = .ok (.aload_n 0, 1) := by decide +kernel
theorem dX11_explain_20 : decode cX11_explain 20 = .ok (.iload_n 1, 1) := by decide +kernel
theorem dX11_explain_21 : decode cX11_explain 21 = .ok (.invokevirtual 211, 3) := by decide +kernel
theorem dX11_explain_24 : decode cX11_explain 24 = .ok (.putfield 56, 3) := by decide +kernel
theorem dX11_explain_27 : decode cX11_explain 27 = .ok (.aload_n 0, 1) := by decide +kernel
theorem dX11_explain_28 : decode cX11_explain 28 = .ok (.getfield 56, 3) := by decide +kernel
theorem dX11_explain_31 : decode cX11_explain 31 = .ok (.ifCond .le 5, 3) := by decide +kernel
theorem dX11_explain_34 : decode cX11_explain 34 = .ok (.iconst 0, 1) := by decide +kernel
theorem dX11_explain_35 : decode cX11_explain 35 = .ok (.ireturn, 1) := by decide +kernel
theorem dX11_unpaid_0 : decode cX11_unpaid 0 = .ok (.iconst 0, 1) := by decide +kernel
theorem dX11_unpaid_1 : decode cX11_unpaid 1 = .ok (.istore_n 1, 1) := by decide +kernel
theorem dX11_unpaid_2 : decode cX11_unpaid 2 = .ok (.iconst 0, 1) := by decide +kernel
theorem dX11_unpaid_3 : decode cX11_unpaid 3 = .ok (.istore_n 2, 1) := by decide +kernel
theorem dX11_unpaid_4 : decode cX11_unpaid 4 = .ok (.iload_n 2, 1) := by decide +kernel
theorem dX11_unpaid_5 : decode cX11_unpaid 5 = .ok (.aload_n 0, 1) := by decide +kernel
theorem dX11_unpaid_6 : decode cX11_unpaid 6 = .ok (.getfield 7, 3) := by decide +kernel
theorem dX11_unpaid_9 : decode cX11_unpaid 9 = .ok (.bipush 28, 2) := by decide +kernel
theorem dX11_unpaid_11 : decode cX11_unpaid 11 = .ok (.iaload, 1) := by decide +kernel
theorem dX11_unpaid_12 : decode cX11_unpaid 12 = .ok (.if_icmp .ge 24, 3) := by decide +kernel
theorem dX11_unpaid_36 : decode cX11_unpaid 36 = .ok (.iload_n 1, 1) := by decide +kernel
theorem dX11_unpaid_37 : decode cX11_unpaid 37 = .ok (.ireturn, 1) := by decide +kernel
theorem dX11_openBills_0 : decode cX11_openBills 0 = .ok (.iconst 0, 1) := by decide +kernel
theorem dX11_openBills_1 : decode cX11_openBills 1 = .ok (.istore_n 2, 1) := by decide +kernel
theorem dX11_openBills_2 : decode cX11_openBills 2 = .ok (.iconst 0, 1) := by decide +kernel
theorem dX11_openBills_3 : decode cX11_openBills 3 = .ok (.istore_n 3, 1) := by decide +kernel
theorem dX11_openBills_4 : decode cX11_openBills 4 = .ok (.iload_n 3, 1) := by decide +kernel
theorem dX11_openBills_5 : decode cX11_openBills 5 = .ok (.aload_n 0, 1) := by decide +kernel
theorem dX11_openBills_6 : decode cX11_openBills 6 = .ok (.getfield 7, 3) := by decide +kernel
theorem dX11_openBills_9 : decode cX11_openBills 9 = .ok (.bipush 28, 2) := by decide +kernel
theorem dX11_openBills_11 : decode cX11_openBills 11 = .ok (.iaload, 1) := by decide +kernel
theorem dX11_openBills_12 : decode cX11_openBills 12 = .ok (.if_icmp .ge 50, 3) := by decide +kernel
theorem dX11_openBills_62 : decode cX11_openBills 62 = .ok (.iload_n 2, 1) := by decide +kernel
theorem dX11_openBills_63 : decode cX11_openBills 63 = .ok (.ireturn, 1) := by decide +kernel
theorem dX11_number_0 : decode cX11_number 0 = .ok (.aload_n 0, 1) := by decide +kernel
theorem dX11_number_1 : decode cX11_number 1 = .ok (.iconst 0, 1) := by decide +kernel
theorem dX11_number_2 : decode cX11_number 2 = .ok (.putfield 56, 3) := by decide +kernel
theorem dX11_number_5 : decode cX11_number 5 = .ok (.iload_n 1, 1) := by decide +kernel
theorem dX11_number_6 : decode cX11_number 6 = .ok (.tableswitch 167 0 9 #[54, 62, 70, 78, 106, 114, 122, 148, 153, 159], 54) := by decide +kernel
theorem dX11_number_60 : decode cX11_number 60 = .ok (.aload_n 0, 1) := by decide +kernel
theorem dX11_number_61 : decode cX11_number 61 = .ok (.getfield 7, 3) := by decide +kernel
theorem dX11_number_64 : decode cX11_number 64 = .ok (.bipush 7, 2) := by decide +kernel
theorem dX11_number_66 : decode cX11_number 66 = .ok (.iaload, 1) := by decide +kernel
theorem dX11_number_67 : decode cX11_number 67 = .ok (.ireturn, 1) := by decide +kernel
theorem dX11_number_68 : decode cX11_number 68 = .ok (.aload_n 0, 1) := by decide +kernel
theorem dX11_number_69 : decode cX11_number 69 = .ok (.getfield 7, 3) := by decide +kernel
theorem dX11_number_72 : decode cX11_number 72 = .ok (.bipush 8, 2) := by decide +kernel
theorem dX11_number_74 : decode cX11_number 74 = .ok (.iaload, 1) := by decide +kernel
theorem dX11_number_75 : decode cX11_number 75 = .ok (.ireturn, 1) := by decide +kernel
theorem dX11_number_76 : decode cX11_number 76 = .ok (.aload_n 0, 1) := by decide +kernel
theorem dX11_number_77 : decode cX11_number 77 = .ok (.getfield 7, 3) := by decide +kernel
theorem dX11_number_80 : decode cX11_number 80 = .ok (.bipush 9, 2) := by decide +kernel
theorem dX11_number_82 : decode cX11_number 82 = .ok (.iaload, 1) := by decide +kernel
theorem dX11_number_83 : decode cX11_number 83 = .ok (.ireturn, 1) := by decide +kernel
theorem dX11_number_84 : decode cX11_number 84 = .ok (.aload_n 0, 1) := by decide +kernel
theorem dX11_number_85 : decode cX11_number 85 = .ok (.getfield 7, 3) := by decide +kernel
theorem dX11_number_88 : decode cX11_number 88 = .ok (.iconst 0, 1) := by decide +kernel
theorem dX11_number_89 : decode cX11_number 89 = .ok (.iaload, 1) := by decide +kernel
theorem dX11_number_90 : decode cX11_number 90 = .ok (.ifCond .ne 7, 3) := by decide +kernel
theorem dX11_number_93 : decode cX11_number 93 = .ok (.iconst 0, 1) := by decide +kernel
theorem dX11_number_94 : decode cX11_number 94 = .ok (.goto 17, 3) := by decide +kernel
theorem dX11_number_111 : decode cX11_number 111 = .ok (.ireturn, 1) := by decide +kernel
theorem dX11_number_112 : decode cX11_number 112 = .ok (.aload_n 0, 1) := by decide +kernel
theorem dX11_number_113 : decode cX11_number 113 = .ok (.getfield 7, 3) := by decide +kernel
theorem dX11_number_116 : decode cX11_number 116 = .ok (.bipush 12, 2) := by decide +kernel
theorem dX11_number_118 : decode cX11_number 118 = .ok (.iaload, 1) := by decide +kernel
