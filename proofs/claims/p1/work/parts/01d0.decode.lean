theorem dX0_init_0 : decode cX0_init 0 = .ok (.aload_n 0, 1) := by decide +kernel
theorem dX0_init_1 : decode cX0_init 1 = .ok (.invokespecial 3, 3) := by decide +kernel
theorem dX0_init_4 : decode cX0_init 4 = .ok (.aload_n 0, 1) := by decide +kernel
theorem dX0_init_5 : decode cX0_init 5 = .ok (.iconst 5, 1) := by decide +kernel
theorem dX0_init_6 : decode cX0_init 6 = .ok (.newarray .int, 2) := by decide +kernel
theorem dX0_init_8 : decode cX0_init 8 = .ok (.dup, 1) := by decide +kernel
theorem dX0_init_9 : decode cX0_init 9 = .ok (.iconst 0, 1) := by decide +kernel
theorem dX0_init_10 : decode cX0_init 10 = .ok (.iconst 0, 1) := by decide +kernel
theorem dX0_init_11 : decode cX0_init 11 = .ok (.iastore, 1) := by decide +kernel
theorem dX0_init_12 : decode cX0_init 12 = .ok (.dup, 1) := by decide +kernel
theorem dX0_init_13 : decode cX0_init 13 = .ok (.iconst 1, 1) := by decide +kernel
theorem dX0_init_14 : decode cX0_init 14 = .ok (.iconst 0, 1) := by decide +kernel
theorem dX0_init_15 : decode cX0_init 15 = .ok (.iastore, 1) := by decide +kernel
theorem dX0_init_16 : decode cX0_init 16 = .ok (.dup, 1) := by decide +kernel
theorem dX0_init_17 : decode cX0_init 17 = .ok (.iconst 2, 1) := by decide +kernel
theorem dX0_init_18 : decode cX0_init 18 = .ok (.bipush 10, 2) := by decide +kernel
theorem dX0_init_20 : decode cX0_init 20 = .ok (.iastore, 1) := by decide +kernel
theorem dX0_init_21 : decode cX0_init 21 = .ok (.dup, 1) := by decide +kernel
theorem dX0_init_22 : decode cX0_init 22 = .ok (.iconst 3, 1) := by decide +kernel
theorem dX0_init_23 : decode cX0_init 23 = .ok (.sipush 500, 3) := by decide +kernel
theorem dX0_init_26 : decode cX0_init 26 = .ok (.iastore, 1) := by decide +kernel
theorem dX0_init_27 : decode cX0_init 27 = .ok (.dup, 1) := by decide +kernel
theorem dX0_init_28 : decode cX0_init 28 = .ok (.iconst 4, 1) := by decide +kernel
theorem dX0_init_29 : decode cX0_init 29 = .ok (.iconst 0, 1) := by decide +kernel
theorem dX0_init_30 : decode cX0_init 30 = .ok (.iastore, 1) := by decide +kernel
theorem dX0_init_31 : decode cX0_init 31 = .ok (.putfield 9, 3) := by decide +kernel
theorem dX0_init_34 : decode cX0_init 34 = .ok (.aload_n 0, 1) := by decide +kernel
theorem dX0_init_35 : decode cX0_init 35 = .ok (.iconst 5, 1) := by decide +kernel
theorem dX0_init_36 : decode cX0_init 36 = .ok (.newarray .int, 2) := by decide +kernel
theorem dX0_init_38 : decode cX0_init 38 = .ok (.putfield 15, 3) := by decide +kernel
theorem dX0_init_41 : decode cX0_init 41 = .ok (.aload_n 0, 1) := by decide +kernel
theorem dX0_init_42 : decode cX0_init 42 = .ok (.new 18, 3) := by decide +kernel
theorem dX0_init_45 : decode cX0_init 45 = .ok (.dup, 1) := by decide +kernel
theorem dX0_init_46 : decode cX0_init 46 = .ok (.invokespecial 20, 3) := by decide +kernel
theorem dX0_init_49 : decode cX0_init 49 = .ok (.putfield 21, 3) := by decide +kernel
theorem dX0_init_52 : decode cX0_init 52 = .ok (.aload_n 0, 1) := by decide +kernel
theorem dX0_init_53 : decode cX0_init 53 = .ok (.new 25, 3) := by decide +kernel
theorem dX0_init_56 : decode cX0_init 56 = .ok (.dup, 1) := by decide +kernel
theorem dX0_init_57 : decode cX0_init 57 = .ok (.invokespecial 27, 3) := by decide +kernel
theorem dX0_init_60 : decode cX0_init 60 = .ok (.putfield 28, 3) := by decide +kernel
theorem dX0_init_63 : decode cX0_init 63 = .ok (.aload_n 0, 1) := by decide +kernel
theorem dX0_init_64 : decode cX0_init 64 = .ok (.new 32, 3) := by decide +kernel
theorem dX0_init_67 : decode cX0_init 67 = .ok (.dup, 1) := by decide +kernel
theorem dX0_init_68 : decode cX0_init 68 = .ok (.invokespecial 34, 3) := by decide +kernel
theorem dX0_init_71 : decode cX0_init 71 = .ok (.putfield 35, 3) := by decide +kernel
theorem dX0_init_74 : decode cX0_init 74 = .ok (.return_, 1) := by decide +kernel
theorem dX0_startLoan_0 : decode cX0_startLoan 0 = .ok (.aload_n 0, 1) := by decide +kernel
theorem dX0_startLoan_1 : decode cX0_startLoan 1 = .ok (.getfield 21, 3) := by decide +kernel
theorem dX0_startLoan_4 : decode cX0_startLoan 4 = .ok (.aload_n 0, 1) := by decide +kernel
theorem dX0_startLoan_5 : decode cX0_startLoan 5 = .ok (.getfield 39, 3) := by decide +kernel
theorem dX0_startLoan_8 : decode cX0_startLoan 8 = .ok (.lload_n 1, 1) := by decide +kernel
theorem dX0_startLoan_9 : decode cX0_startLoan 9 = .ok (.iload_n 3, 1) := by decide +kernel
theorem dX0_startLoan_10 : decode cX0_startLoan 10 = .ok (.iload 4, 2) := by decide +kernel
theorem dX0_startLoan_12 : decode cX0_startLoan 12 = .ok (.iload 5, 2) := by decide +kernel
theorem dX0_startLoan_14 : decode cX0_startLoan 14 = .ok (.invokevirtual 43, 3) := by decide +kernel
theorem dX0_startLoan_17 : decode cX0_startLoan 17 = .ok (.aload_n 0, 1) := by decide +kernel
theorem dX0_startLoan_18 : decode cX0_startLoan 18 = .ok (.getfield 28, 3) := by decide +kernel
theorem dX0_startLoan_21 : decode cX0_startLoan 21 = .ok (.invokevirtual 47, 3) := by decide +kernel
theorem dX0_startLoan_24 : decode cX0_startLoan 24 = .ok (.aload_n 0, 1) := by decide +kernel
theorem dX0_startLoan_25 : decode cX0_startLoan 25 = .ok (.getfield 35, 3) := by decide +kernel
theorem dX0_startLoan_28 : decode cX0_startLoan 28 = .ok (.invokevirtual 50, 3) := by decide +kernel
theorem dX0_startLoan_31 : decode cX0_startLoan 31 = .ok (.aload_n 0, 1) := by decide +kernel
theorem dX0_startLoan_32 : decode cX0_startLoan 32 = .ok (.getfield 9, 3) := by decide +kernel
theorem dX0_startLoan_35 : decode cX0_startLoan 35 = .ok (.iconst 0, 1) := by decide +kernel
theorem dX0_startLoan_36 : decode cX0_startLoan 36 = .ok (.aload_n 0, 1) := by decide +kernel
theorem dX0_startLoan_37 : decode cX0_startLoan 37 = .ok (.getfield 15, 3) := by decide +kernel
theorem dX0_startLoan_40 : decode cX0_startLoan 40 = .ok (.iconst 0, 1) := by decide +kernel
theorem dX0_startLoan_41 : decode cX0_startLoan 41 = .ok (.iconst 5, 1) := by decide +kernel
theorem dX0_startLoan_42 : decode cX0_startLoan 42 = .ok (.invokestatic 51, 3) := by decide +kernel
theorem dX0_startLoan_45 : decode cX0_startLoan 45 = .ok (.aload 6, 2) := by decide +kernel
theorem dX0_startLoan_47 : decode cX0_startLoan 47 = .ok (.aload_n 0, 1) := by decide +kernel
theorem dX0_startLoan_48 : decode cX0_startLoan 48 = .ok (.iload 4, 2) := by decide +kernel
theorem dX0_startLoan_50 : decode cX0_startLoan 50 = .ok (.invokevirtual 57, 3) := by decide +kernel
theorem dX0_startLoan_53 : decode cX0_startLoan 53 = .ok (.aload_n 0, 1) := by decide +kernel
theorem dX0_startLoan_54 : decode cX0_startLoan 54 = .ok (.getfield 21, 3) := by decide +kernel
theorem dX0_startLoan_57 : decode cX0_startLoan 57 = .ok (.aload 6, 2) := by decide +kernel
theorem dX0_startLoan_59 : decode cX0_startLoan 59 = .ok (.iload 4, 2) := by decide +kernel
theorem dX0_startLoan_61 : decode cX0_startLoan 61 = .ok (.invokevirtual 63, 3) := by decide +kernel
theorem dX0_startLoan_64 : decode cX0_startLoan 64 = .ok (.putfield 67, 3) := by decide +kernel
theorem dX0_startLoan_67 : decode cX0_startLoan 67 = .ok (.return_, 1) := by decide +kernel
theorem dX0_takeFrom_0 : decode cX0_takeFrom 0 = .ok (.aload_n 0, 1) := by decide +kernel
theorem dX0_takeFrom_1 : decode cX0_takeFrom 1 = .ok (.aload_n 1, 1) := by decide +kernel
theorem dX0_takeFrom_2 : decode cX0_takeFrom 2 = .ok (.getfield 39, 3) := by decide +kernel
theorem dX0_takeFrom_5 : decode cX0_takeFrom 5 = .ok (.putfield 39, 3) := by decide +kernel
theorem dX0_takeFrom_8 : decode cX0_takeFrom 8 = .ok (.aload_n 0, 1) := by decide +kernel
theorem dX0_takeFrom_9 : decode cX0_takeFrom 9 = .ok (.aload_n 1, 1) := by decide +kernel
theorem dX0_takeFrom_10 : decode cX0_takeFrom 10 = .ok (.getfield 71, 3) := by decide +kernel
theorem dX0_takeFrom_13 : decode cX0_takeFrom 13 = .ok (.putfield 71, 3) := by decide +kernel
theorem dX0_takeFrom_16 : decode cX0_takeFrom 16 = .ok (.aload_n 0, 1) := by decide +kernel
theorem dX0_takeFrom_17 : decode cX0_takeFrom 17 = .ok (.aload_n 1, 1) := by decide +kernel
theorem dX0_takeFrom_18 : decode cX0_takeFrom 18 = .ok (.getfield 74, 3) := by decide +kernel
theorem dX0_takeFrom_21 : decode cX0_takeFrom 21 = .ok (.putfield 74, 3) := by decide +kernel
theorem dX0_takeFrom_24 : decode cX0_takeFrom 24 = .ok (.aload_n 1, 1) := by decide +kernel
theorem dX0_takeFrom_25 : decode cX0_takeFrom 25 = .ok (.getfield 9, 3) := by decide +kernel
theorem dX0_takeFrom_28 : decode cX0_takeFrom 28 = .ok (.iconst 0, 1) := by decide +kernel
theorem dX0_takeFrom_29 : decode cX0_takeFrom 29 = .ok (.aload_n 0, 1) := by decide +kernel
theorem dX0_takeFrom_30 : decode cX0_takeFrom 30 = .ok (.getfield 9, 3) := by decide +kernel
theorem dX0_takeFrom_33 : decode cX0_takeFrom 33 = .ok (.iconst 0, 1) := by decide +kernel
theorem dX0_takeFrom_34 : decode cX0_takeFrom 34 = .ok (.iconst 5, 1) := by decide +kernel
theorem dX0_takeFrom_35 : decode cX0_takeFrom 35 = .ok (.invokestatic 51, 3) := by decide +kernel
theorem dX0_takeFrom_38 : decode cX0_takeFrom 38 = .ok (.aload_n 1, 1) := by decide +kernel
theorem dX0_takeFrom_39 : decode cX0_takeFrom 39 = .ok (.getfield 15, 3) := by decide +kernel
theorem dX0_takeFrom_42 : decode cX0_takeFrom 42 = .ok (.iconst 0, 1) := by decide +kernel
theorem dX0_takeFrom_43 : decode cX0_takeFrom 43 = .ok (.aload_n 0, 1) := by decide +kernel
theorem dX0_takeFrom_44 : decode cX0_takeFrom 44 = .ok (.getfield 15, 3) := by decide +kernel
theorem dX0_takeFrom_47 : decode cX0_takeFrom 47 = .ok (.iconst 0, 1) := by decide +kernel
theorem dX0_takeFrom_48 : decode cX0_takeFrom 48 = .ok (.iconst 5, 1) := by decide +kernel
theorem dX0_takeFrom_49 : decode cX0_takeFrom 49 = .ok (.invokestatic 51, 3) := by decide +kernel
theorem dX0_takeFrom_52 : decode cX0_takeFrom 52 = .ok (.aload_n 0, 1) := by decide +kernel
theorem dX0_takeFrom_53 : decode cX0_takeFrom 53 = .ok (.getfield 21, 3) := by decide +kernel
theorem dX0_takeFrom_56 : decode cX0_takeFrom 56 = .ok (.aload_n 1, 1) := by decide +kernel
theorem dX0_takeFrom_57 : decode cX0_takeFrom 57 = .ok (.getfield 21, 3) := by decide +kernel
theorem dX0_takeFrom_60 : decode cX0_takeFrom 60 = .ok (.invokevirtual 77, 3) := by decide +kernel
theorem dX0_takeFrom_63 : decode cX0_takeFrom 63 = .ok (.aload_n 0, 1) := by decide +kernel
theorem dX0_takeFrom_64 : decode cX0_takeFrom 64 = .ok (.getfield 28, 3) := by decide +kernel
theorem dX0_takeFrom_67 : decode cX0_takeFrom 67 = .ok (.aload_n 1, 1) := by decide +kernel
theorem dX0_takeFrom_68 : decode cX0_takeFrom 68 = .ok (.getfield 28, 3) := by decide +kernel
theorem dX0_takeFrom_71 : decode cX0_takeFrom 71 = .ok (.invokevirtual 81, 3) := by decide +kernel
theorem dX0_takeFrom_74 : decode cX0_takeFrom 74 = .ok (.aload_n 0, 1) := by decide +kernel
theorem dX0_takeFrom_75 : decode cX0_takeFrom 75 = .ok (.getfield 35, 3) := by decide +kernel
theorem dX0_takeFrom_78 : decode cX0_takeFrom 78 = .ok (.aload_n 1, 1) := by decide +kernel
theorem dX0_takeFrom_79 : decode cX0_takeFrom 79 = .ok (.getfield 35, 3) := by decide +kernel
theorem dX0_takeFrom_82 : decode cX0_takeFrom 82 = .ok (.invokevirtual 84, 3) := by decide +kernel
theorem dX0_takeFrom_85 : decode cX0_takeFrom 85 = .ok (.return_, 1) := by decide +kernel
theorem dX0_refusal_0 : decode cX0_refusal 0 = .ok (.iload_n 1, 1) := by decide +kernel
theorem dX0_refusal_1 : decode cX0_refusal 1 = .ok (.tableswitch 231 5 10 #[39, 76, 113, 113, 147, 200], 39) := by decide +kernel
theorem dX0_refusal_40 : decode cX0_refusal 40 = .ok (.iload_n 2, 1) := by decide +kernel
theorem dX0_refusal_41 : decode cX0_refusal 41 = .ok (.iconst 1, 1) := by decide +kernel
theorem dX0_refusal_42 : decode cX0_refusal 42 = .ok (.sipush 1000, 3) := by decide +kernel
theorem dX0_refusal_45 : decode cX0_refusal 45 = .ok (.invokestatic 97, 3) := by decide +kernel
theorem dX0_refusal_48 : decode cX0_refusal 48 = .ok (.ifCond .ne 7, 3) := by decide +kernel
theorem dX0_refusal_51 : decode cX0_refusal 51 = .ok (.iconst 1, 1) := by decide +kernel
theorem dX0_refusal_52 : decode cX0_refusal 52 = .ok (.goto 4, 3) := by decide +kernel
theorem dX0_refusal_55 : decode cX0_refusal 55 = .ok (.iconst 0, 1) := by decide +kernel
theorem dX0_refusal_56 : decode cX0_refusal 56 = .ok (.aload_n 0, 1) := by decide +kernel
theorem dX0_refusal_57 : decode cX0_refusal 57 = .ok (.getfield 39, 3) := by decide +kernel
theorem dX0_refusal_60 : decode cX0_refusal 60 = .ok (.iload_n 2, 1) := by decide +kernel
theorem dX0_refusal_61 : decode cX0_refusal 61 = .ok (.iadd, 1) := by decide +kernel
theorem dX0_refusal_62 : decode cX0_refusal 62 = .ok (.sipush 8000, 3) := by decide +kernel
theorem dX0_refusal_65 : decode cX0_refusal 65 = .ok (.if_icmp .le 7, 3) := by decide +kernel
theorem dX0_refusal_68 : decode cX0_refusal 68 = .ok (.iconst 1, 1) := by decide +kernel
theorem dX0_refusal_69 : decode cX0_refusal 69 = .ok (.goto 4, 3) := by decide +kernel
theorem dX0_refusal_72 : decode cX0_refusal 72 = .ok (.iconst 0, 1) := by decide +kernel
theorem dX0_refusal_73 : decode cX0_refusal 73 = .ok (.invokestatic 101, 3) := by decide +kernel
theorem dX0_refusal_76 : decode cX0_refusal 76 = .ok (.ireturn, 1) := by decide +kernel
theorem dX0_refusal_77 : decode cX0_refusal 77 = .ok (.iload_n 2, 1) := by decide +kernel
theorem dX0_refusal_78 : decode cX0_refusal 78 = .ok (.iconst 0, 1) := by decide +kernel
theorem dX0_refusal_79 : decode cX0_refusal 79 = .ok (.sipush 2000, 3) := by decide +kernel
theorem dX0_refusal_82 : decode cX0_refusal 82 = .ok (.invokestatic 97, 3) := by decide +kernel
theorem dX0_refusal_85 : decode cX0_refusal 85 = .ok (.ifCond .ne 7, 3) := by decide +kernel
theorem dX0_refusal_88 : decode cX0_refusal 88 = .ok (.iconst 1, 1) := by decide +kernel
theorem dX0_refusal_89 : decode cX0_refusal 89 = .ok (.goto 4, 3) := by decide +kernel
theorem dX0_refusal_92 : decode cX0_refusal 92 = .ok (.iconst 0, 1) := by decide +kernel
theorem dX0_refusal_93 : decode cX0_refusal 93 = .ok (.aload_n 0, 1) := by decide +kernel
theorem dX0_refusal_94 : decode cX0_refusal 94 = .ok (.getfield 21, 3) := by decide +kernel
theorem dX0_refusal_97 : decode cX0_refusal 97 = .ok (.invokevirtual 105, 3) := by decide +kernel
theorem dX0_refusal_100 : decode cX0_refusal 100 = .ok (.lconst 0, 1) := by decide +kernel
theorem dX0_refusal_101 : decode cX0_refusal 101 = .ok (.lcmp, 1) := by decide +kernel
theorem dX0_refusal_102 : decode cX0_refusal 102 = .ok (.ifCond .ne 7, 3) := by decide +kernel
theorem dX0_refusal_105 : decode cX0_refusal 105 = .ok (.iconst 1, 1) := by decide +kernel
theorem dX0_refusal_106 : decode cX0_refusal 106 = .ok (.goto 4, 3) := by decide +kernel
theorem dX0_refusal_110 : decode cX0_refusal 110 = .ok (.invokestatic 101, 3) := by decide +kernel
theorem dX0_refusal_113 : decode cX0_refusal 113 = .ok (.ireturn, 1) := by decide +kernel
theorem dX0_refusal_114 : decode cX0_refusal 114 = .ok (.iload_n 2, 1) := by decide +kernel
theorem dX0_refusal_115 : decode cX0_refusal 115 = .ok (.iconst 0, 1) := by decide +kernel
theorem dX0_refusal_116 : decode cX0_refusal 116 = .ok (.bipush 23, 2) := by decide +kernel
theorem dX0_refusal_118 : decode cX0_refusal 118 = .ok (.invokestatic 97, 3) := by decide +kernel
theorem dX0_refusal_121 : decode cX0_refusal 121 = .ok (.ifCond .ne 7, 3) := by decide +kernel
theorem dX0_refusal_124 : decode cX0_refusal 124 = .ok (.iconst 1, 1) := by decide +kernel
theorem dX0_refusal_125 : decode cX0_refusal 125 = .ok (.goto 4, 3) := by decide +kernel
theorem dX0_refusal_128 : decode cX0_refusal 128 = .ok (.iconst 0, 1) := by decide +kernel
theorem dX0_refusal_129 : decode cX0_refusal 129 = .ok (.aload_n 0, 1) := by decide +kernel
theorem dX0_refusal_130 : decode cX0_refusal 130 = .ok (.getfield 21, 3) := by decide +kernel
theorem dX0_refusal_133 : decode cX0_refusal 133 = .ok (.getfield 109, 3) := by decide +kernel
theorem dX0_refusal_136 : decode cX0_refusal 136 = .ok (.ifCond .gt 7, 3) := by decide +kernel
theorem dX0_refusal_139 : decode cX0_refusal 139 = .ok (.iconst 1, 1) := by decide +kernel
theorem dX0_refusal_140 : decode cX0_refusal 140 = .ok (.goto 4, 3) := by decide +kernel
theorem dX0_refusal_144 : decode cX0_refusal 144 = .ok (.invokestatic 101, 3) := by decide +kernel
theorem dX0_refusal_147 : decode cX0_refusal 147 = .ok (.ireturn, 1) := by decide +kernel
theorem dX0_refusal_148 : decode cX0_refusal 148 = .ok (.iload_n 2, 1) := by decide +kernel
theorem dX0_refusal_149 : decode cX0_refusal 149 = .ok (.ifCond .gt 7, 3) := by decide +kernel
theorem dX0_refusal_152 : decode cX0_refusal 152 = .ok (.iconst 1, 1) := by decide +kernel
theorem dX0_refusal_153 : decode cX0_refusal 153 = .ok (.goto 4, 3) := by decide +kernel
theorem dX0_refusal_156 : decode cX0_refusal 156 = .ok (.iconst 0, 1) := by decide +kernel
theorem dX0_refusal_157 : decode cX0_refusal 157 = .ok (.aload_n 0, 1) := by decide +kernel
theorem dX0_refusal_158 : decode cX0_refusal 158 = .ok (.getfield 21, 3) := by decide +kernel
theorem dX0_refusal_161 : decode cX0_refusal 161 = .ok (.invokevirtual 105, 3) := by decide +kernel
theorem dX0_refusal_164 : decode cX0_refusal 164 = .ok (.lconst 0, 1) := by decide +kernel
theorem dX0_refusal_165 : decode cX0_refusal 165 = .ok (.lcmp, 1) := by decide +kernel
theorem dX0_refusal_166 : decode cX0_refusal 166 = .ok (.ifCond .ne 7, 3) := by decide +kernel
theorem dX0_refusal_169 : decode cX0_refusal 169 = .ok (.iconst 1, 1) := by decide +kernel
theorem dX0_refusal_170 : decode cX0_refusal 170 = .ok (.goto 4, 3) := by decide +kernel
theorem dX0_refusal_174 : decode cX0_refusal 174 = .ok (.invokestatic 101, 3) := by decide +kernel
theorem dX0_refusal_177 : decode cX0_refusal 177 = .ok (.istore_n 3, 1) := by decide +kernel
theorem dX0_refusal_178 : decode cX0_refusal 178 = .ok (.iload_n 3, 1) := by decide +kernel
theorem dX0_refusal_179 : decode cX0_refusal 179 = .ok (.ifCond .ne 20, 3) := by decide +kernel
theorem dX0_refusal_199 : decode cX0_refusal 199 = .ok (.iload_n 3, 1) := by decide +kernel
theorem dX0_refusal_200 : decode cX0_refusal 200 = .ok (.ireturn, 1) := by decide +kernel
theorem dX0_refusal_201 : decode cX0_refusal 201 = .ok (.iload_n 2, 1) := by decide +kernel
theorem dX0_refusal_202 : decode cX0_refusal 202 = .ok (.ifCond .gt 7, 3) := by decide +kernel
theorem dX0_refusal_205 : decode cX0_refusal 205 = .ok (.iconst 1, 1) := by decide +kernel
theorem dX0_refusal_206 : decode cX0_refusal 206 = .ok (.goto 4, 3) := by decide +kernel
theorem dX0_refusal_209 : decode cX0_refusal 209 = .ok (.iconst 0, 1) := by decide +kernel
theorem dX0_refusal_210 : decode cX0_refusal 210 = .ok (.iload_n 2, 1) := by decide +kernel
theorem dX0_refusal_211 : decode cX0_refusal 211 = .ok (.i2l, 1) := by decide +kernel
theorem dX0_refusal_212 : decode cX0_refusal 212 = .ok (.aload_n 0, 1) := by decide +kernel
theorem dX0_refusal_213 : decode cX0_refusal 213 = .ok (.getfield 21, 3) := by decide +kernel
theorem dX0_refusal_216 : decode cX0_refusal 216 = .ok (.getfield 115, 3) := by decide +kernel
theorem dX0_refusal_219 : decode cX0_refusal 219 = .ok (.lcmp, 1) := by decide +kernel
theorem dX0_refusal_220 : decode cX0_refusal 220 = .ok (.ifCond .le 7, 3) := by decide +kernel
theorem dX0_refusal_223 : decode cX0_refusal 223 = .ok (.iconst 1, 1) := by decide +kernel
theorem dX0_refusal_224 : decode cX0_refusal 224 = .ok (.goto 4, 3) := by decide +kernel
theorem dX0_refusal_227 : decode cX0_refusal 227 = .ok (.iconst 0, 1) := by decide +kernel
theorem dX0_refusal_228 : decode cX0_refusal 228 = .ok (.invokestatic 101, 3) := by decide +kernel
theorem dX0_refusal_231 : decode cX0_refusal 231 = .ok (.ireturn, 1) := by decide +kernel
theorem dX0_refusal_232 : decode cX0_refusal 232 = .ok (.iload_n 1, 1) := by decide +kernel
theorem dX0_refusal_233 : decode cX0_refusal 233 = .ok (.ifCond .lt 24, 3) := by decide +kernel
theorem dX0_refusal_236 : decode cX0_refusal 236 = .ok (.iload_n 1, 1) := by decide +kernel
theorem dX0_refusal_237 : decode cX0_refusal 237 = .ok (.getstatic 118, 3) := by decide +kernel
theorem dX0_refusal_240 : decode cX0_refusal 240 = .ok (.arraylength, 1) := by decide +kernel
theorem dX0_refusal_241 : decode cX0_refusal 241 = .ok (.if_icmp .ge 16, 3) := by decide +kernel
theorem dX0_refusal_244 : decode cX0_refusal 244 = .ok (.iload_n 2, 1) := by decide +kernel
theorem dX0_refusal_245 : decode cX0_refusal 245 = .ok (.iconst 0, 1) := by decide +kernel
theorem dX0_refusal_246 : decode cX0_refusal 246 = .ok (.getstatic 118, 3) := by decide +kernel
theorem dX0_refusal_249 : decode cX0_refusal 249 = .ok (.iload_n 1, 1) := by decide +kernel
theorem dX0_refusal_250 : decode cX0_refusal 250 = .ok (.iaload, 1) := by decide +kernel
theorem dX0_refusal_251 : decode cX0_refusal 251 = .ok (.invokestatic 97, 3) := by decide +kernel
theorem dX0_refusal_254 : decode cX0_refusal 254 = .ok (.ifCond .ne 7, 3) := by decide +kernel
theorem dX0_refusal_257 : decode cX0_refusal 257 = .ok (.iconst 1, 1) := by decide +kernel
theorem dX0_refusal_258 : decode cX0_refusal 258 = .ok (.goto 4, 3) := by decide +kernel
theorem dX0_refusal_261 : decode cX0_refusal 261 = .ok (.iconst 0, 1) := by decide +kernel
theorem dX0_refusal_262 : decode cX0_refusal 262 = .ok (.iconst 0, 1) := by decide +kernel
theorem dX0_refusal_263 : decode cX0_refusal 263 = .ok (.invokestatic 101, 3) := by decide +kernel
theorem dX0_refusal_266 : decode cX0_refusal 266 = .ok (.ireturn, 1) := by decide +kernel
theorem dX0_refusalIf_0 : decode cX0_refusalIf 0 = .ok (.iload_n 0, 1) := by decide +kernel
theorem dX0_refusalIf_1 : decode cX0_refusalIf 1 = .ok (.ifCond .eq 5, 3) := by decide +kernel
theorem dX0_refusalIf_4 : decode cX0_refusalIf 4 = .ok (.iconst 1, 1) := by decide +kernel
theorem dX0_refusalIf_5 : decode cX0_refusalIf 5 = .ok (.ireturn, 1) := by decide +kernel
theorem dX0_refusalIf_6 : decode cX0_refusalIf 6 = .ok (.iload_n 1, 1) := by decide +kernel
theorem dX0_refusalIf_7 : decode cX0_refusalIf 7 = .ok (.ifCond .eq 7, 3) := by decide +kernel
theorem dX0_refusalIf_10 : decode cX0_refusalIf 10 = .ok (.iconst 2, 1) := by decide +kernel
theorem dX0_refusalIf_11 : decode cX0_refusalIf 11 = .ok (.goto 4, 3) := by decide +kernel
theorem dX0_refusalIf_14 : decode cX0_refusalIf 14 = .ok (.iconst 0, 1) := by decide +kernel
theorem dX0_refusalIf_15 : decode cX0_refusalIf 15 = .ok (.ireturn, 1) := by decide +kernel
theorem dX0_carryOut_0 : decode cX0_carryOut 0 = .ok (.iload_n 1, 1) := by decide +kernel
theorem dX0_carryOut_1 : decode cX0_carryOut 1 = .ok (.tableswitch 178 5 10 #[39, 47, 74, 74, 133, 163], 39) := by decide +kernel
theorem dX0_carryOut_40 : decode cX0_carryOut 40 = .ok (.aload_n 0, 1) := by decide +kernel
theorem dX0_carryOut_41 : decode cX0_carryOut 41 = .ok (.iload_n 2, 1) := by decide +kernel
theorem dX0_carryOut_42 : decode cX0_carryOut 42 = .ok (.iload 4, 2) := by decide +kernel
theorem dX0_carryOut_44 : decode cX0_carryOut 44 = .ok (.invokevirtual 121, 3) := by decide +kernel
theorem dX0_carryOut_47 : decode cX0_carryOut 47 = .ok (.ireturn, 1) := by decide +kernel
theorem dX0_carryOut_179 : decode cX0_carryOut 179 = .ok (.aload_n 0, 1) := by decide +kernel
theorem dX0_carryOut_180 : decode cX0_carryOut 180 = .ok (.iload_n 1, 1) := by decide +kernel
theorem dX0_carryOut_181 : decode cX0_carryOut 181 = .ok (.iload_n 2, 1) := by decide +kernel
theorem dX0_carryOut_182 : decode cX0_carryOut 182 = .ok (.invokevirtual 147, 3) := by decide +kernel
theorem dX0_carryOut_185 : decode cX0_carryOut 185 = .ok (.ireturn, 1) := by decide +kernel
theorem dX0_changeRule_0 : decode cX0_changeRule 0 = .ok (.iload_n 1, 1) := by decide +kernel
theorem dX0_changeRule_1 : decode cX0_changeRule 1 = .ok (.ifCond .lt 12, 3) := by decide +kernel
theorem dX0_changeRule_4 : decode cX0_changeRule 4 = .ok (.iload_n 1, 1) := by decide +kernel
theorem dX0_changeRule_5 : decode cX0_changeRule 5 = .ok (.aload_n 0, 1) := by decide +kernel
theorem dX0_changeRule_6 : decode cX0_changeRule 6 = .ok (.getfield 9, 3) := by decide +kernel
theorem dX0_changeRule_9 : decode cX0_changeRule 9 = .ok (.arraylength, 1) := by decide +kernel
theorem dX0_changeRule_10 : decode cX0_changeRule 10 = .ok (.if_icmp .lt 5, 3) := by decide +kernel
theorem dX0_changeRule_15 : decode cX0_changeRule 15 = .ok (.aload_n 0, 1) := by decide +kernel
theorem dX0_changeRule_16 : decode cX0_changeRule 16 = .ok (.getfield 9, 3) := by decide +kernel
theorem dX0_changeRule_19 : decode cX0_changeRule 19 = .ok (.iload_n 1, 1) := by decide +kernel
theorem dX0_changeRule_20 : decode cX0_changeRule 20 = .ok (.iaload, 1) := by decide +kernel
theorem dX0_changeRule_21 : decode cX0_changeRule 21 = .ok (.istore_n 3, 1) := by decide +kernel
theorem dX0_changeRule_22 : decode cX0_changeRule 22 = .ok (.aload_n 0, 1) := by decide +kernel
theorem dX0_changeRule_23 : decode cX0_changeRule 23 = .ok (.getfield 9, 3) := by decide +kernel
theorem dX0_changeRule_26 : decode cX0_changeRule 26 = .ok (.iload_n 1, 1) := by decide +kernel
theorem dX0_changeRule_27 : decode cX0_changeRule 27 = .ok (.iload_n 2, 1) := by decide +kernel
theorem dX0_changeRule_28 : decode cX0_changeRule 28 = .ok (.iastore, 1) := by decide +kernel
theorem dX0_changeRule_29 : decode cX0_changeRule 29 = .ok (.iload_n 3, 1) := by decide +kernel
theorem dX0_changeRule_30 : decode cX0_changeRule 30 = .ok (.ireturn, 1) := by decide +kernel
theorem dX0_passDays_0 : decode cX0_passDays 0 = .ok (.iconst 0, 1) := by decide +kernel
theorem dX0_passDays_1 : decode cX0_passDays 1 = .ok (.istore_n 3, 1) := by decide +kernel
theorem dX0_passDays_2 : decode cX0_passDays 2 = .ok (.aload_n 0, 1) := by decide +kernel
theorem dX0_passDays_3 : decode cX0_passDays 3 = .ok (.getfield 39, 3) := by decide +kernel
theorem dX0_passDays_6 : decode cX0_passDays 6 = .ok (.istore 4, 2) := by decide +kernel
theorem dX0_passDays_8 : decode cX0_passDays 8 = .ok (.iconst 1, 1) := by decide +kernel
theorem dX0_passDays_9 : decode cX0_passDays 9 = .ok (.istore 5, 2) := by decide +kernel
theorem dX0_passDays_11 : decode cX0_passDays 11 = .ok (.iload 5, 2) := by decide +kernel
theorem dX0_passDays_13 : decode cX0_passDays 13 = .ok (.iload_n 1, 1) := by decide +kernel
theorem dX0_passDays_14 : decode cX0_passDays 14 = .ok (.if_icmp .gt 103, 3) := by decide +kernel
theorem dX0_passDays_17 : decode cX0_passDays 17 = .ok (.aload_n 0, 1) := by decide +kernel
theorem dX0_passDays_18 : decode cX0_passDays 18 = .ok (.dup, 1) := by decide +kernel
theorem dX0_passDays_19 : decode cX0_passDays 19 = .ok (.getfield 39, 3) := by decide +kernel
theorem dX0_passDays_22 : decode cX0_passDays 22 = .ok (.iconst 1, 1) := by decide +kernel
theorem dX0_passDays_23 : decode cX0_passDays 23 = .ok (.iadd, 1) := by decide +kernel
theorem dX0_passDays_24 : decode cX0_passDays 24 = .ok (.putfield 39, 3) := by decide +kernel
theorem dX0_passDays_27 : decode cX0_passDays 27 = .ok (.iload_n 3, 1) := by decide +kernel
theorem dX0_passDays_28 : decode cX0_passDays 28 = .ok (.aload_n 0, 1) := by decide +kernel
theorem dX0_passDays_29 : decode cX0_passDays 29 = .ok (.invokevirtual 151, 3) := by decide +kernel
theorem dX0_passDays_32 : decode cX0_passDays 32 = .ok (.iadd, 1) := by decide +kernel
theorem dX0_passDays_33 : decode cX0_passDays 33 = .ok (.istore_n 3, 1) := by decide +kernel
theorem dX0_passDays_34 : decode cX0_passDays 34 = .ok (.aload_n 0, 1) := by decide +kernel
theorem dX0_passDays_35 : decode cX0_passDays 35 = .ok (.getfield 21, 3) := by decide +kernel
theorem dX0_passDays_38 : decode cX0_passDays 38 = .ok (.getfield 109, 3) := by decide +kernel
theorem dX0_passDays_41 : decode cX0_passDays 41 = .ok (.ifCond .le 21, 3) := by decide +kernel
theorem dX0_passDays_62 : decode cX0_passDays 62 = .ok (.iconst 0, 1) := by decide +kernel
theorem dX0_passDays_63 : decode cX0_passDays 63 = .ok (.istore 6, 2) := by decide +kernel
theorem dX0_passDays_65 : decode cX0_passDays 65 = .ok (.iload 6, 2) := by decide +kernel
theorem dX0_passDays_67 : decode cX0_passDays 67 = .ok (.ifCond .ne 13, 3) := by decide +kernel
theorem dX0_passDays_70 : decode cX0_passDays 70 = .ok (.iload_n 2, 1) := by decide +kernel
theorem dX0_passDays_71 : decode cX0_passDays 71 = .ok (.ifCond .ne 9, 3) := by decide +kernel
theorem dX0_passDays_74 : decode cX0_passDays 74 = .ok (.iload 5, 2) := by decide +kernel
theorem dX0_passDays_76 : decode cX0_passDays 76 = .ok (.iload_n 1, 1) := by decide +kernel
theorem dX0_passDays_77 : decode cX0_passDays 77 = .ok (.if_icmp .ne 22, 3) := by decide +kernel
theorem dX0_passDays_80 : decode cX0_passDays 80 = .ok (.aload_n 0, 1) := by decide +kernel
theorem dX0_passDays_81 : decode cX0_passDays 81 = .ok (.getfield 21, 3) := by decide +kernel
theorem dX0_passDays_84 : decode cX0_passDays 84 = .ok (.iload 4, 2) := by decide +kernel
theorem dX0_passDays_86 : decode cX0_passDays 86 = .ok (.aload_n 0, 1) := by decide +kernel
theorem dX0_passDays_87 : decode cX0_passDays 87 = .ok (.getfield 39, 3) := by decide +kernel
theorem dX0_passDays_90 : decode cX0_passDays 90 = .ok (.invokevirtual 158, 3) := by decide +kernel
theorem dX0_passDays_93 : decode cX0_passDays 93 = .ok (.aload_n 0, 1) := by decide +kernel
theorem dX0_passDays_94 : decode cX0_passDays 94 = .ok (.getfield 39, 3) := by decide +kernel
theorem dX0_passDays_97 : decode cX0_passDays 97 = .ok (.istore 4, 2) := by decide +kernel
theorem dX0_passDays_99 : decode cX0_passDays 99 = .ok (.iload 6, 2) := by decide +kernel
theorem dX0_passDays_101 : decode cX0_passDays 101 = .ok (.ifCond .eq 10, 3) := by decide +kernel
theorem dX0_passDays_111 : decode cX0_passDays 111 = .ok (.iinc 5 1, 3) := by decide +kernel
theorem dX0_passDays_114 : decode cX0_passDays 114 = .ok (.goto (-103), 3) := by decide +kernel
theorem dX0_passDays_117 : decode cX0_passDays 117 = .ok (.iload_n 3, 1) := by decide +kernel
theorem dX0_passDays_118 : decode cX0_passDays 118 = .ok (.ireturn, 1) := by decide +kernel
theorem dX0_chargeLateBills_0 : decode cX0_chargeLateBills 0 = .ok (.aload_n 0, 1) := by decide +kernel
theorem dX0_chargeLateBills_1 : decode cX0_chargeLateBills 1 = .ok (.getfield 28, 3) := by decide +kernel
theorem dX0_chargeLateBills_4 : decode cX0_chargeLateBills 4 = .ok (.aload_n 0, 1) := by decide +kernel
theorem dX0_chargeLateBills_5 : decode cX0_chargeLateBills 5 = .ok (.getfield 39, 3) := by decide +kernel
theorem dX0_chargeLateBills_8 : decode cX0_chargeLateBills 8 = .ok (.aload_n 0, 1) := by decide +kernel
theorem dX0_chargeLateBills_9 : decode cX0_chargeLateBills 9 = .ok (.getfield 9, 3) := by decide +kernel
theorem dX0_chargeLateBills_12 : decode cX0_chargeLateBills 12 = .ok (.iconst 2, 1) := by decide +kernel
theorem dX0_chargeLateBills_13 : decode cX0_chargeLateBills 13 = .ok (.iaload, 1) := by decide +kernel
theorem dX0_chargeLateBills_14 : decode cX0_chargeLateBills 14 = .ok (.invokevirtual 165, 3) := by decide +kernel
theorem dX0_chargeLateBills_17 : decode cX0_chargeLateBills 17 = .ok (.istore_n 1, 1) := by decide +kernel
theorem dX0_chargeLateBills_18 : decode cX0_chargeLateBills 18 = .ok (.iconst 0, 1) := by decide +kernel
theorem dX0_chargeLateBills_19 : decode cX0_chargeLateBills 19 = .ok (.istore_n 2, 1) := by decide +kernel
theorem dX0_chargeLateBills_20 : decode cX0_chargeLateBills 20 = .ok (.iload_n 2, 1) := by decide +kernel
theorem dX0_chargeLateBills_21 : decode cX0_chargeLateBills 21 = .ok (.iload_n 1, 1) := by decide +kernel
theorem dX0_chargeLateBills_22 : decode cX0_chargeLateBills 22 = .ok (.if_icmp .ge 66, 3) := by decide +kernel
theorem dX0_chargeLateBills_88 : decode cX0_chargeLateBills 88 = .ok (.iload_n 1, 1) := by decide +kernel
theorem dX0_chargeLateBills_89 : decode cX0_chargeLateBills 89 = .ok (.ireturn, 1) := by decide +kernel
theorem dX1_init_0 : decode cX1_init 0 = .ok (.aload_n 0, 1) := by decide +kernel
theorem dX1_init_1 : decode cX1_init 1 = .ok (.invokespecial 1, 3) := by decide +kernel
theorem dX1_init_4 : decode cX1_init 4 = .ok (.aload_n 0, 1) := by decide +kernel
theorem dX1_init_5 : decode cX1_init 5 = .ok (.sipush 264, 3) := by decide +kernel
theorem dX1_init_8 : decode cX1_init 8 = .ok (.newarray .long, 2) := by decide +kernel
theorem dX1_init_10 : decode cX1_init 10 = .ok (.putfield 9, 3) := by decide +kernel
theorem dX1_init_13 : decode cX1_init 13 = .ok (.aload_n 0, 1) := by decide +kernel
theorem dX1_init_14 : decode cX1_init 14 = .ok (.sipush 264, 3) := by decide +kernel
theorem dX1_init_17 : decode cX1_init 17 = .ok (.newarray .int, 2) := by decide +kernel
theorem dX1_init_19 : decode cX1_init 19 = .ok (.putfield 13, 3) := by decide +kernel
theorem dX1_init_22 : decode cX1_init 22 = .ok (.return_, 1) := by decide +kernel
theorem dX1_clear_0 : decode cX1_clear 0 = .ok (.aload_n 0, 1) := by decide +kernel
theorem dX1_clear_1 : decode cX1_clear 1 = .ok (.iconst 0, 1) := by decide +kernel
theorem dX1_clear_2 : decode cX1_clear 2 = .ok (.putfield 17, 3) := by decide +kernel
theorem dX1_clear_5 : decode cX1_clear 5 = .ok (.aload_n 0, 1) := by decide +kernel
theorem dX1_clear_6 : decode cX1_clear 6 = .ok (.iconst 0, 1) := by decide +kernel
theorem dX1_clear_7 : decode cX1_clear 7 = .ok (.putfield 21, 3) := by decide +kernel
theorem dX1_clear_10 : decode cX1_clear 10 = .ok (.aload_n 0, 1) := by decide +kernel
theorem dX1_clear_11 : decode cX1_clear 11 = .ok (.iconst 0, 1) := by decide +kernel
theorem dX1_clear_12 : decode cX1_clear 12 = .ok (.putfield 24, 3) := by decide +kernel
theorem dX1_clear_15 : decode cX1_clear 15 = .ok (.return_, 1) := by decide +kernel
theorem dX1_becomeLate_0 : decode cX1_becomeLate 0 = .ok (.iconst 0, 1) := by decide +kernel
theorem dX1_becomeLate_1 : decode cX1_becomeLate 1 = .ok (.istore_n 3, 1) := by decide +kernel
theorem dX1_becomeLate_2 : decode cX1_becomeLate 2 = .ok (.aload_n 0, 1) := by decide +kernel
theorem dX1_becomeLate_3 : decode cX1_becomeLate 3 = .ok (.getfield 21, 3) := by decide +kernel
theorem dX1_becomeLate_6 : decode cX1_becomeLate 6 = .ok (.aload_n 0, 1) := by decide +kernel
theorem dX1_becomeLate_7 : decode cX1_becomeLate 7 = .ok (.getfield 24, 3) := by decide +kernel
theorem dX1_becomeLate_10 : decode cX1_becomeLate 10 = .ok (.invokestatic 27, 3) := by decide +kernel
theorem dX1_becomeLate_13 : decode cX1_becomeLate 13 = .ok (.iconst 0, 1) := by decide +kernel
theorem dX1_becomeLate_14 : decode cX1_becomeLate 14 = .ok (.invokestatic 27, 3) := by decide +kernel
theorem dX1_becomeLate_17 : decode cX1_becomeLate 17 = .ok (.istore 4, 2) := by decide +kernel
theorem dX1_becomeLate_19 : decode cX1_becomeLate 19 = .ok (.iload 4, 2) := by decide +kernel
theorem dX1_becomeLate_21 : decode cX1_becomeLate 21 = .ok (.aload_n 0, 1) := by decide +kernel
theorem dX1_becomeLate_22 : decode cX1_becomeLate 22 = .ok (.getfield 17, 3) := by decide +kernel
theorem dX1_becomeLate_25 : decode cX1_becomeLate 25 = .ok (.if_icmp .ge 46, 3) := by decide +kernel
theorem dX1_becomeLate_71 : decode cX1_becomeLate 71 = .ok (.iload_n 3, 1) := by decide +kernel
theorem dX1_becomeLate_72 : decode cX1_becomeLate 72 = .ok (.ireturn, 1) := by decide +kernel
theorem dX1_hasLate_0 : decode cX1_hasLate 0 = .ok (.aload_n 0, 1) := by decide +kernel
theorem dX1_hasLate_1 : decode cX1_hasLate 1 = .ok (.getfield 24, 3) := by decide +kernel
theorem dX1_hasLate_4 : decode cX1_hasLate 4 = .ok (.aload_n 0, 1) := by decide +kernel
theorem dX1_hasLate_5 : decode cX1_hasLate 5 = .ok (.getfield 21, 3) := by decide +kernel
theorem dX1_hasLate_8 : decode cX1_hasLate 8 = .ok (.if_icmp .le 7, 3) := by decide +kernel
theorem dX1_hasLate_15 : decode cX1_hasLate 15 = .ok (.iconst 0, 1) := by decide +kernel
theorem dX1_hasLate_16 : decode cX1_hasLate 16 = .ok (.ireturn, 1) := by decide +kernel
theorem dX1_unpaidCount_0 : decode cX1_unpaidCount 0 = .ok (.aload_n 0, 1) := by decide +kernel
theorem dX1_unpaidCount_1 : decode cX1_unpaidCount 1 = .ok (.getfield 17, 3) := by decide +kernel
theorem dX1_unpaidCount_4 : decode cX1_unpaidCount 4 = .ok (.aload_n 0, 1) := by decide +kernel
theorem dX1_unpaidCount_5 : decode cX1_unpaidCount 5 = .ok (.getfield 21, 3) := by decide +kernel
theorem dX1_unpaidCount_8 : decode cX1_unpaidCount 8 = .ok (.isub, 1) := by decide +kernel
theorem dX1_unpaidCount_9 : decode cX1_unpaidCount 9 = .ok (.ireturn, 1) := by decide +kernel
theorem dX1_unpaidSum_0 : decode cX1_unpaidSum 0 = .ok (.lconst 0, 1) := by decide +kernel
theorem dX1_unpaidSum_1 : decode cX1_unpaidSum 1 = .ok (.lstore_n 1, 1) := by decide +kernel
theorem dX1_unpaidSum_2 : decode cX1_unpaidSum 2 = .ok (.aload_n 0, 1) := by decide +kernel
theorem dX1_unpaidSum_3 : decode cX1_unpaidSum 3 = .ok (.getfield 21, 3) := by decide +kernel
theorem dX1_unpaidSum_6 : decode cX1_unpaidSum 6 = .ok (.iconst 0, 1) := by decide +kernel
theorem dX1_unpaidSum_7 : decode cX1_unpaidSum 7 = .ok (.invokestatic 27, 3) := by decide +kernel
theorem dX1_unpaidSum_10 : decode cX1_unpaidSum 10 = .ok (.istore_n 3, 1) := by decide +kernel
theorem dX1_unpaidSum_11 : decode cX1_unpaidSum 11 = .ok (.iload_n 3, 1) := by decide +kernel
theorem dX1_unpaidSum_12 : decode cX1_unpaidSum 12 = .ok (.aload_n 0, 1) := by decide +kernel
theorem dX1_unpaidSum_13 : decode cX1_unpaidSum 13 = .ok (.getfield 17, 3) := by decide +kernel
theorem dX1_unpaidSum_16 : decode cX1_unpaidSum 16 = .ok (.if_icmp .ge 25, 3) := by decide +kernel
theorem dX1_unpaidSum_41 : decode cX1_unpaidSum 41 = .ok (.lload_n 1, 1) := by decide +kernel
theorem dX1_unpaidSum_42 : decode cX1_unpaidSum 42 = .ok (.lreturn, 1) := by decide +kernel
theorem dX1_takeFrom_0 : decode cX1_takeFrom 0 = .ok (.aload_n 0, 1) := by decide +kernel
theorem dX1_takeFrom_1 : decode cX1_takeFrom 1 = .ok (.aload_n 1, 1) := by decide +kernel
theorem dX1_takeFrom_2 : decode cX1_takeFrom 2 = .ok (.getfield 17, 3) := by decide +kernel
theorem dX1_takeFrom_5 : decode cX1_takeFrom 5 = .ok (.putfield 17, 3) := by decide +kernel
theorem dX1_takeFrom_8 : decode cX1_takeFrom 8 = .ok (.aload_n 0, 1) := by decide +kernel
theorem dX1_takeFrom_9 : decode cX1_takeFrom 9 = .ok (.aload_n 1, 1) := by decide +kernel
theorem dX1_takeFrom_10 : decode cX1_takeFrom 10 = .ok (.getfield 21, 3) := by decide +kernel
theorem dX1_takeFrom_13 : decode cX1_takeFrom 13 = .ok (.putfield 21, 3) := by decide +kernel
theorem dX1_takeFrom_16 : decode cX1_takeFrom 16 = .ok (.aload_n 0, 1) := by decide +kernel
theorem dX1_takeFrom_17 : decode cX1_takeFrom 17 = .ok (.aload_n 1, 1) := by decide +kernel
theorem dX1_takeFrom_18 : decode cX1_takeFrom 18 = .ok (.getfield 24, 3) := by decide +kernel
theorem dX1_takeFrom_21 : decode cX1_takeFrom 21 = .ok (.putfield 24, 3) := by decide +kernel
theorem dX1_takeFrom_24 : decode cX1_takeFrom 24 = .ok (.aload_n 1, 1) := by decide +kernel
theorem dX1_takeFrom_25 : decode cX1_takeFrom 25 = .ok (.getfield 9, 3) := by decide +kernel
theorem dX1_takeFrom_28 : decode cX1_takeFrom 28 = .ok (.iconst 0, 1) := by decide +kernel
theorem dX1_takeFrom_29 : decode cX1_takeFrom 29 = .ok (.aload_n 0, 1) := by decide +kernel
theorem dX1_takeFrom_30 : decode cX1_takeFrom 30 = .ok (.getfield 9, 3) := by decide +kernel
theorem dX1_takeFrom_33 : decode cX1_takeFrom 33 = .ok (.iconst 0, 1) := by decide +kernel
theorem dX1_takeFrom_34 : decode cX1_takeFrom 34 = .ok (.sipush 264, 3) := by decide +kernel
theorem dX1_takeFrom_37 : decode cX1_takeFrom 37 = .ok (.invokestatic 37, 3) := by decide +kernel
theorem dX1_takeFrom_40 : decode cX1_takeFrom 40 = .ok (.aload_n 1, 1) := by decide +kernel
theorem dX1_takeFrom_41 : decode cX1_takeFrom 41 = .ok (.getfield 13, 3) := by decide +kernel
theorem dX1_takeFrom_44 : decode cX1_takeFrom 44 = .ok (.iconst 0, 1) := by decide +kernel
theorem dX1_takeFrom_45 : decode cX1_takeFrom 45 = .ok (.aload_n 0, 1) := by decide +kernel
theorem dX1_takeFrom_46 : decode cX1_takeFrom 46 = .ok (.getfield 13, 3) := by decide +kernel
theorem dX1_takeFrom_49 : decode cX1_takeFrom 49 = .ok (.iconst 0, 1) := by decide +kernel
theorem dX1_takeFrom_50 : decode cX1_takeFrom 50 = .ok (.sipush 264, 3) := by decide +kernel
theorem dX1_takeFrom_53 : decode cX1_takeFrom 53 = .ok (.invokestatic 37, 3) := by decide +kernel
theorem dX1_takeFrom_56 : decode cX1_takeFrom 56 = .ok (.return_, 1) := by decide +kernel
theorem dX2_yearOf_0 : decode cX2_yearOf 0 = .ok (.iload_n 0, 1) := by decide +kernel
theorem dX2_yearOf_1 : decode cX2_yearOf 1 = .ok (.sipush 365, 3) := by decide +kernel
theorem dX2_yearOf_4 : decode cX2_yearOf 4 = .ok (.idiv, 1) := by decide +kernel
theorem dX2_yearOf_5 : decode cX2_yearOf 5 = .ok (.ireturn, 1) := by decide +kernel
theorem dX2_monthOf_0 : decode cX2_monthOf 0 = .ok (.iload_n 0, 1) := by decide +kernel
theorem dX2_monthOf_1 : decode cX2_monthOf 1 = .ok (.sipush 365, 3) := by decide +kernel
theorem dX2_monthOf_4 : decode cX2_monthOf 4 = .ok (.irem, 1) := by decide +kernel
theorem dX2_monthOf_5 : decode cX2_monthOf 5 = .ok (.istore_n 1, 1) := by decide +kernel
theorem dX2_monthOf_6 : decode cX2_monthOf 6 = .ok (.iload_n 1, 1) := by decide +kernel
theorem dX2_monthOf_7 : decode cX2_monthOf 7 = .ok (.bipush 32, 2) := by decide +kernel
theorem dX2_monthOf_9 : decode cX2_monthOf 9 = .ok (.idiv, 1) := by decide +kernel
theorem dX2_monthOf_10 : decode cX2_monthOf 10 = .ok (.iconst 1, 1) := by decide +kernel
theorem dX2_monthOf_11 : decode cX2_monthOf 11 = .ok (.iadd, 1) := by decide +kernel
theorem dX2_monthOf_12 : decode cX2_monthOf 12 = .ok (.istore_n 2, 1) := by decide +kernel
theorem dX2_monthOf_13 : decode cX2_monthOf 13 = .ok (.iload_n 2, 1) := by decide +kernel
theorem dX2_monthOf_14 : decode cX2_monthOf 14 = .ok (.ifCond .lt 24, 3) := by decide +kernel
theorem dX2_monthOf_17 : decode cX2_monthOf 17 = .ok (.iload_n 2, 1) := by decide +kernel
theorem dX2_monthOf_18 : decode cX2_monthOf 18 = .ok (.getstatic 9, 3) := by decide +kernel
theorem dX2_monthOf_21 : decode cX2_monthOf 21 = .ok (.arraylength, 1) := by decide +kernel
theorem dX2_monthOf_22 : decode cX2_monthOf 22 = .ok (.if_icmp .ge 16, 3) := by decide +kernel
theorem dX2_monthOf_25 : decode cX2_monthOf 25 = .ok (.getstatic 9, 3) := by decide +kernel
theorem dX2_monthOf_28 : decode cX2_monthOf 28 = .ok (.iload_n 2, 1) := by decide +kernel
theorem dX2_monthOf_29 : decode cX2_monthOf 29 = .ok (.iaload, 1) := by decide +kernel
theorem dX2_monthOf_30 : decode cX2_monthOf 30 = .ok (.iload_n 1, 1) := by decide +kernel
theorem dX2_monthOf_31 : decode cX2_monthOf 31 = .ok (.if_icmp .gt 7, 3) := by decide +kernel
theorem dX2_monthOf_34 : decode cX2_monthOf 34 = .ok (.iload_n 2, 1) := by decide +kernel
theorem dX2_monthOf_35 : decode cX2_monthOf 35 = .ok (.goto 6, 3) := by decide +kernel
theorem dX2_monthOf_38 : decode cX2_monthOf 38 = .ok (.iload_n 2, 1) := by decide +kernel
theorem dX2_monthOf_39 : decode cX2_monthOf 39 = .ok (.iconst 1, 1) := by decide +kernel
theorem dX2_monthOf_40 : decode cX2_monthOf 40 = .ok (.isub, 1) := by decide +kernel
theorem dX2_monthOf_41 : decode cX2_monthOf 41 = .ok (.ireturn, 1) := by decide +kernel
theorem dX2_numberOf_0 : decode cX2_numberOf 0 = .ok (.iload_n 0, 1) := by decide +kernel
theorem dX2_numberOf_1 : decode cX2_numberOf 1 = .ok (.sipush 365, 3) := by decide +kernel
theorem dX2_numberOf_4 : decode cX2_numberOf 4 = .ok (.irem, 1) := by decide +kernel
theorem dX2_numberOf_5 : decode cX2_numberOf 5 = .ok (.iload_n 0, 1) := by decide +kernel
theorem dX2_numberOf_6 : decode cX2_numberOf 6 = .ok (.invokestatic 13, 3) := by decide +kernel
theorem dX2_numberOf_9 : decode cX2_numberOf 9 = .ok (.invokestatic 17, 3) := by decide +kernel
theorem dX2_numberOf_12 : decode cX2_numberOf 12 = .ok (.isub, 1) := by decide +kernel
theorem dX2_numberOf_13 : decode cX2_numberOf 13 = .ok (.iconst 1, 1) := by decide +kernel
theorem dX2_numberOf_14 : decode cX2_numberOf 14 = .ok (.iadd, 1) := by decide +kernel
theorem dX2_numberOf_15 : decode cX2_numberOf 15 = .ok (.ireturn, 1) := by decide +kernel
theorem dX2_monthsAfter_0 : decode cX2_monthsAfter 0 = .ok (.iload_n 0, 1) := by decide +kernel
theorem dX2_monthsAfter_1 : decode cX2_monthsAfter 1 = .ok (.invokestatic 13, 3) := by decide +kernel
theorem dX2_monthsAfter_4 : decode cX2_monthsAfter 4 = .ok (.istore_n 2, 1) := by decide +kernel
theorem dX2_monthsAfter_5 : decode cX2_monthsAfter 5 = .ok (.iload_n 0, 1) := by decide +kernel
theorem dX2_monthsAfter_6 : decode cX2_monthsAfter 6 = .ok (.sipush 365, 3) := by decide +kernel
theorem dX2_monthsAfter_9 : decode cX2_monthsAfter 9 = .ok (.irem, 1) := by decide +kernel
theorem dX2_monthsAfter_10 : decode cX2_monthsAfter 10 = .ok (.iload_n 2, 1) := by decide +kernel
theorem dX2_monthsAfter_11 : decode cX2_monthsAfter 11 = .ok (.invokestatic 17, 3) := by decide +kernel
theorem dX2_monthsAfter_14 : decode cX2_monthsAfter 14 = .ok (.isub, 1) := by decide +kernel
theorem dX2_monthsAfter_15 : decode cX2_monthsAfter 15 = .ok (.istore_n 3, 1) := by decide +kernel
theorem dX2_monthsAfter_16 : decode cX2_monthsAfter 16 = .ok (.iload_n 0, 1) := by decide +kernel
theorem dX2_monthsAfter_17 : decode cX2_monthsAfter 17 = .ok (.sipush 365, 3) := by decide +kernel
theorem dX2_monthsAfter_20 : decode cX2_monthsAfter 20 = .ok (.idiv, 1) := by decide +kernel
theorem dX2_monthsAfter_21 : decode cX2_monthsAfter 21 = .ok (.bipush 12, 2) := by decide +kernel
theorem dX2_monthsAfter_23 : decode cX2_monthsAfter 23 = .ok (.imul, 1) := by decide +kernel
theorem dX2_monthsAfter_24 : decode cX2_monthsAfter 24 = .ok (.iload_n 2, 1) := by decide +kernel
theorem dX2_monthsAfter_25 : decode cX2_monthsAfter 25 = .ok (.iadd, 1) := by decide +kernel
theorem dX2_monthsAfter_26 : decode cX2_monthsAfter 26 = .ok (.iload_n 1, 1) := by decide +kernel
theorem dX2_monthsAfter_27 : decode cX2_monthsAfter 27 = .ok (.iadd, 1) := by decide +kernel
theorem dX2_monthsAfter_28 : decode cX2_monthsAfter 28 = .ok (.istore 4, 2) := by decide +kernel
theorem dX2_monthsAfter_30 : decode cX2_monthsAfter 30 = .ok (.iload 4, 2) := by decide +kernel
theorem dX2_monthsAfter_32 : decode cX2_monthsAfter 32 = .ok (.bipush 12, 2) := by decide +kernel
theorem dX2_monthsAfter_34 : decode cX2_monthsAfter 34 = .ok (.irem, 1) := by decide +kernel
theorem dX2_monthsAfter_35 : decode cX2_monthsAfter 35 = .ok (.istore 5, 2) := by decide +kernel
theorem dX2_monthsAfter_37 : decode cX2_monthsAfter 37 = .ok (.iload 5, 2) := by decide +kernel
theorem dX2_monthsAfter_39 : decode cX2_monthsAfter 39 = .ok (.iconst 1, 1) := by decide +kernel
theorem dX2_monthsAfter_40 : decode cX2_monthsAfter 40 = .ok (.iadd, 1) := by decide +kernel
theorem dX2_monthsAfter_41 : decode cX2_monthsAfter 41 = .ok (.invokestatic 17, 3) := by decide +kernel
theorem dX2_monthsAfter_44 : decode cX2_monthsAfter 44 = .ok (.iload 5, 2) := by decide +kernel
theorem dX2_monthsAfter_46 : decode cX2_monthsAfter 46 = .ok (.invokestatic 17, 3) := by decide +kernel
theorem dX2_monthsAfter_49 : decode cX2_monthsAfter 49 = .ok (.isub, 1) := by decide +kernel
theorem dX2_monthsAfter_50 : decode cX2_monthsAfter 50 = .ok (.iconst 1, 1) := by decide +kernel
theorem dX2_monthsAfter_51 : decode cX2_monthsAfter 51 = .ok (.isub, 1) := by decide +kernel
theorem dX2_monthsAfter_52 : decode cX2_monthsAfter 52 = .ok (.istore 6, 2) := by decide +kernel
theorem dX2_monthsAfter_54 : decode cX2_monthsAfter 54 = .ok (.iload 4, 2) := by decide +kernel
theorem dX2_monthsAfter_56 : decode cX2_monthsAfter 56 = .ok (.bipush 12, 2) := by decide +kernel
theorem dX2_monthsAfter_58 : decode cX2_monthsAfter 58 = .ok (.idiv, 1) := by decide +kernel
theorem dX2_monthsAfter_59 : decode cX2_monthsAfter 59 = .ok (.sipush 365, 3) := by decide +kernel
theorem dX2_monthsAfter_62 : decode cX2_monthsAfter 62 = .ok (.imul, 1) := by decide +kernel
theorem dX2_monthsAfter_63 : decode cX2_monthsAfter 63 = .ok (.iload 5, 2) := by decide +kernel
theorem dX2_monthsAfter_65 : decode cX2_monthsAfter 65 = .ok (.invokestatic 17, 3) := by decide +kernel
theorem dX2_monthsAfter_68 : decode cX2_monthsAfter 68 = .ok (.iadd, 1) := by decide +kernel
theorem dX2_monthsAfter_69 : decode cX2_monthsAfter 69 = .ok (.iload_n 3, 1) := by decide +kernel
theorem dX2_monthsAfter_70 : decode cX2_monthsAfter 70 = .ok (.iload 6, 2) := by decide +kernel
theorem dX2_monthsAfter_72 : decode cX2_monthsAfter 72 = .ok (.invokestatic 20, 3) := by decide +kernel
theorem dX2_monthsAfter_75 : decode cX2_monthsAfter 75 = .ok (.iadd, 1) := by decide +kernel
theorem dX2_monthsAfter_76 : decode cX2_monthsAfter 76 = .ok (.ireturn, 1) := by decide +kernel
theorem dX2_counted_0 : decode cX2_counted 0 = .ok (.iload_n 2, 1) := by decide +kernel
theorem dX2_counted_1 : decode cX2_counted 1 = .ok (.iconst 2, 1) := by decide +kernel
theorem dX2_counted_2 : decode cX2_counted 2 = .ok (.if_icmp .ne 15, 3) := by decide +kernel
theorem dX2_counted_5 : decode cX2_counted 5 = .ok (.iload_n 1, 1) := by decide +kernel
theorem dX2_counted_6 : decode cX2_counted 6 = .ok (.invokestatic 26, 3) := by decide +kernel
theorem dX2_counted_9 : decode cX2_counted 9 = .ok (.iload_n 0, 1) := by decide +kernel
theorem dX2_counted_10 : decode cX2_counted 10 = .ok (.invokestatic 26, 3) := by decide +kernel
theorem dX2_counted_13 : decode cX2_counted 13 = .ok (.isub, 1) := by decide +kernel
theorem dX2_counted_14 : decode cX2_counted 14 = .ok (.goto 6, 3) := by decide +kernel
theorem dX2_counted_17 : decode cX2_counted 17 = .ok (.iload_n 1, 1) := by decide +kernel
theorem dX2_counted_18 : decode cX2_counted 18 = .ok (.iload_n 0, 1) := by decide +kernel
theorem dX2_counted_19 : decode cX2_counted 19 = .ok (.isub, 1) := by decide +kernel
theorem dX2_counted_20 : decode cX2_counted 20 = .ok (.ireturn, 1) := by decide +kernel
theorem dX2_in360_0 : decode cX2_in360 0 = .ok (.iload_n 0, 1) := by decide +kernel
theorem dX2_in360_1 : decode cX2_in360 1 = .ok (.invokestatic 13, 3) := by decide +kernel
theorem dX2_in360_4 : decode cX2_in360 4 = .ok (.istore_n 1, 1) := by decide +kernel
theorem dX2_in360_5 : decode cX2_in360 5 = .ok (.iload_n 0, 1) := by decide +kernel
theorem dX2_in360_6 : decode cX2_in360 6 = .ok (.sipush 365, 3) := by decide +kernel
theorem dX2_in360_9 : decode cX2_in360 9 = .ok (.irem, 1) := by decide +kernel
theorem dX2_in360_10 : decode cX2_in360 10 = .ok (.iload_n 1, 1) := by decide +kernel
theorem dX2_in360_11 : decode cX2_in360 11 = .ok (.invokestatic 17, 3) := by decide +kernel
theorem dX2_in360_14 : decode cX2_in360 14 = .ok (.isub, 1) := by decide +kernel
theorem dX2_in360_15 : decode cX2_in360 15 = .ok (.istore_n 2, 1) := by decide +kernel
theorem dX2_in360_16 : decode cX2_in360 16 = .ok (.iload_n 0, 1) := by decide +kernel
theorem dX2_in360_17 : decode cX2_in360 17 = .ok (.sipush 365, 3) := by decide +kernel
theorem dX2_in360_20 : decode cX2_in360 20 = .ok (.idiv, 1) := by decide +kernel
theorem dX2_in360_21 : decode cX2_in360 21 = .ok (.sipush 360, 3) := by decide +kernel
theorem dX2_in360_24 : decode cX2_in360 24 = .ok (.imul, 1) := by decide +kernel
theorem dX2_in360_25 : decode cX2_in360 25 = .ok (.iload_n 1, 1) := by decide +kernel
theorem dX2_in360_26 : decode cX2_in360 26 = .ok (.bipush 30, 2) := by decide +kernel
theorem dX2_in360_28 : decode cX2_in360 28 = .ok (.imul, 1) := by decide +kernel
theorem dX2_in360_29 : decode cX2_in360 29 = .ok (.iadd, 1) := by decide +kernel
theorem dX2_in360_30 : decode cX2_in360 30 = .ok (.iload_n 2, 1) := by decide +kernel
theorem dX2_in360_31 : decode cX2_in360 31 = .ok (.bipush 29, 2) := by decide +kernel
theorem dX2_in360_33 : decode cX2_in360 33 = .ok (.invokestatic 20, 3) := by decide +kernel
theorem dX2_in360_36 : decode cX2_in360 36 = .ok (.iadd, 1) := by decide +kernel
theorem dX2_in360_37 : decode cX2_in360 37 = .ok (.ireturn, 1) := by decide +kernel
theorem dX2_monthStart_0 : decode cX2_monthStart 0 = .ok (.iload_n 0, 1) := by decide +kernel
theorem dX2_monthStart_1 : decode cX2_monthStart 1 = .ok (.ifCond .lt 19, 3) := by decide +kernel
theorem dX2_monthStart_4 : decode cX2_monthStart 4 = .ok (.iload_n 0, 1) := by decide +kernel
theorem dX2_monthStart_5 : decode cX2_monthStart 5 = .ok (.getstatic 9, 3) := by decide +kernel
theorem dX2_monthStart_8 : decode cX2_monthStart 8 = .ok (.arraylength, 1) := by decide +kernel
theorem dX2_monthStart_9 : decode cX2_monthStart 9 = .ok (.if_icmp .ge 11, 3) := by decide +kernel
theorem dX2_monthStart_12 : decode cX2_monthStart 12 = .ok (.getstatic 9, 3) := by decide +kernel
theorem dX2_monthStart_15 : decode cX2_monthStart 15 = .ok (.iload_n 0, 1) := by decide +kernel
theorem dX2_monthStart_16 : decode cX2_monthStart 16 = .ok (.iaload, 1) := by decide +kernel
theorem dX2_monthStart_17 : decode cX2_monthStart 17 = .ok (.goto 6, 3) := by decide +kernel
theorem dX2_monthStart_20 : decode cX2_monthStart 20 = .ok (.sipush 365, 3) := by decide +kernel
theorem dX2_monthStart_23 : decode cX2_monthStart 23 = .ok (.ireturn, 1) := by decide +kernel
theorem dX3_init_0 : decode cX3_init 0 = .ok (.aload_n 0, 1) := by decide +kernel
theorem dX3_init_1 : decode cX3_init 1 = .ok (.invokespecial 1, 3) := by decide +kernel
theorem dX3_init_4 : decode cX3_init 4 = .ok (.aload_n 0, 1) := by decide +kernel
theorem dX3_init_5 : decode cX3_init 5 = .ok (.sipush 512, 3) := by decide +kernel
theorem dX3_init_8 : decode cX3_init 8 = .ok (.newarray .int, 2) := by decide +kernel
theorem dX3_init_10 : decode cX3_init 10 = .ok (.putfield 9, 3) := by decide +kernel
theorem dX3_init_13 : decode cX3_init 13 = .ok (.aload_n 0, 1) := by decide +kernel
theorem dX3_init_14 : decode cX3_init 14 = .ok (.sipush 512, 3) := by decide +kernel
theorem dX3_init_17 : decode cX3_init 17 = .ok (.newarray .int, 2) := by decide +kernel
theorem dX3_init_19 : decode cX3_init 19 = .ok (.putfield 13, 3) := by decide +kernel
theorem dX3_init_22 : decode cX3_init 22 = .ok (.return_, 1) := by decide +kernel
theorem dX3_note_0 : decode cX3_note 0 = .ok (.aload_n 1, 1) := by decide +kernel
theorem dX3_note_1 : decode cX3_note 1 = .ok (.getfield 16, 3) := by decide +kernel
theorem dX3_note_4 : decode cX3_note 4 = .ok (.istore 4, 2) := by decide +kernel
theorem dX3_note_6 : decode cX3_note 6 = .ok (.iload 4, 2) := by decide +kernel
theorem dX3_note_8 : decode cX3_note 8 = .ok (.ifCond .lt 37, 3) := by decide +kernel
theorem dX3_note_11 : decode cX3_note 11 = .ok (.iload 4, 2) := by decide +kernel
theorem dX3_note_13 : decode cX3_note 13 = .ok (.sipush 512, 3) := by decide +kernel
theorem dX3_note_16 : decode cX3_note 16 = .ok (.if_icmp .ge 29, 3) := by decide +kernel
theorem dX3_note_19 : decode cX3_note 19 = .ok (.aload_n 0, 1) := by decide +kernel
theorem dX3_note_20 : decode cX3_note 20 = .ok (.getfield 9, 3) := by decide +kernel
theorem dX3_note_23 : decode cX3_note 23 = .ok (.iload 4, 2) := by decide +kernel
theorem dX3_note_25 : decode cX3_note 25 = .ok (.iload_n 2, 1) := by decide +kernel
theorem dX3_note_26 : decode cX3_note 26 = .ok (.iastore, 1) := by decide +kernel
theorem dX3_note_27 : decode cX3_note 27 = .ok (.aload_n 0, 1) := by decide +kernel
theorem dX3_note_28 : decode cX3_note 28 = .ok (.getfield 13, 3) := by decide +kernel
theorem dX3_note_31 : decode cX3_note 31 = .ok (.iload 4, 2) := by decide +kernel
theorem dX3_note_33 : decode cX3_note 33 = .ok (.iload_n 3, 1) := by decide +kernel
theorem dX3_note_34 : decode cX3_note 34 = .ok (.iastore, 1) := by decide +kernel
theorem dX3_note_35 : decode cX3_note 35 = .ok (.aload_n 1, 1) := by decide +kernel
theorem dX3_note_36 : decode cX3_note 36 = .ok (.dup, 1) := by decide +kernel
theorem dX3_note_37 : decode cX3_note 37 = .ok (.getfield 16, 3) := by decide +kernel
theorem dX3_note_40 : decode cX3_note 40 = .ok (.iconst 1, 1) := by decide +kernel
theorem dX3_note_41 : decode cX3_note 41 = .ok (.iadd, 1) := by decide +kernel
theorem dX3_note_42 : decode cX3_note 42 = .ok (.putfield 16, 3) := by decide +kernel
theorem dX3_note_45 : decode cX3_note 45 = .ok (.return_, 1) := by decide +kernel
theorem dX3_takeFrom_0 : decode cX3_takeFrom 0 = .ok (.aload_n 1, 1) := by decide +kernel
theorem dX3_takeFrom_1 : decode cX3_takeFrom 1 = .ok (.getfield 9, 3) := by decide +kernel
theorem dX3_takeFrom_4 : decode cX3_takeFrom 4 = .ok (.iconst 0, 1) := by decide +kernel
theorem dX3_takeFrom_5 : decode cX3_takeFrom 5 = .ok (.aload_n 0, 1) := by decide +kernel
theorem dX3_takeFrom_6 : decode cX3_takeFrom 6 = .ok (.getfield 9, 3) := by decide +kernel
theorem dX3_takeFrom_9 : decode cX3_takeFrom 9 = .ok (.iconst 0, 1) := by decide +kernel
theorem dX3_takeFrom_10 : decode cX3_takeFrom 10 = .ok (.sipush 512, 3) := by decide +kernel
theorem dX3_takeFrom_13 : decode cX3_takeFrom 13 = .ok (.invokestatic 22, 3) := by decide +kernel
theorem dX3_takeFrom_16 : decode cX3_takeFrom 16 = .ok (.aload_n 1, 1) := by decide +kernel
theorem dX3_takeFrom_17 : decode cX3_takeFrom 17 = .ok (.getfield 13, 3) := by decide +kernel
theorem dX3_takeFrom_20 : decode cX3_takeFrom 20 = .ok (.iconst 0, 1) := by decide +kernel
theorem dX3_takeFrom_21 : decode cX3_takeFrom 21 = .ok (.aload_n 0, 1) := by decide +kernel
theorem dX3_takeFrom_22 : decode cX3_takeFrom 22 = .ok (.getfield 13, 3) := by decide +kernel
theorem dX3_takeFrom_25 : decode cX3_takeFrom 25 = .ok (.iconst 0, 1) := by decide +kernel
theorem dX3_takeFrom_26 : decode cX3_takeFrom 26 = .ok (.sipush 512, 3) := by decide +kernel
theorem dX3_takeFrom_29 : decode cX3_takeFrom 29 = .ok (.invokestatic 22, 3) := by decide +kernel
theorem dX3_takeFrom_32 : decode cX3_takeFrom 32 = .ok (.return_, 1) := by decide +kernel
theorem dX4_init_0 : decode cX4_init 0 = .ok (.aload_n 0, 1) := by decide +kernel
theorem dX4_init_1 : decode cX4_init 1 = .ok (.invokespecial 3, 3) := by decide +kernel
theorem dX4_init_4 : decode cX4_init 4 = .ok (.aload_n 0, 1) := by decide +kernel
theorem dX4_init_5 : decode cX4_init 5 = .ok (.bipush 60, 2) := by decide +kernel
theorem dX4_init_7 : decode cX4_init 7 = .ok (.newarray .char, 2) := by decide +kernel
theorem dX4_init_9 : decode cX4_init 9 = .ok (.putfield 11, 3) := by decide +kernel
theorem dX4_init_12 : decode cX4_init 12 = .ok (.aload_n 0, 1) := by decide +kernel
theorem dX4_init_13 : decode cX4_init 13 = .ok (.bipush 20, 2) := by decide +kernel
theorem dX4_init_15 : decode cX4_init 15 = .ok (.newarray .int, 2) := by decide +kernel
theorem dX4_init_17 : decode cX4_init 17 = .ok (.putfield 15, 3) := by decide +kernel
theorem dX4_init_20 : decode cX4_init 20 = .ok (.aload_n 0, 1) := by decide +kernel
theorem dX4_init_21 : decode cX4_init 21 = .ok (.bipush 20, 2) := by decide +kernel
theorem dX4_init_23 : decode cX4_init 23 = .ok (.newarray .int, 2) := by decide +kernel
theorem dX4_init_25 : decode cX4_init 25 = .ok (.putfield 19, 3) := by decide +kernel
theorem dX4_init_28 : decode cX4_init 28 = .ok (.return_, 1) := by decide +kernel
theorem dX4_hasRoom_0 : decode cX4_hasRoom 0 = .ok (.aload_n 0, 1) := by decide +kernel
theorem dX4_hasRoom_1 : decode cX4_hasRoom 1 = .ok (.getfield 22, 3) := by decide +kernel
theorem dX4_hasRoom_4 : decode cX4_hasRoom 4 = .ok (.bipush 60, 2) := by decide +kernel
theorem dX4_hasRoom_6 : decode cX4_hasRoom 6 = .ok (.if_icmp .ge 7, 3) := by decide +kernel
theorem dX4_hasRoom_9 : decode cX4_hasRoom 9 = .ok (.iconst 1, 1) := by decide +kernel
theorem dX4_hasRoom_10 : decode cX4_hasRoom 10 = .ok (.goto 4, 3) := by decide +kernel
theorem dX4_hasRoom_14 : decode cX4_hasRoom 14 = .ok (.ireturn, 1) := by decide +kernel
theorem dX4_put_0 : decode cX4_put 0 = .ok (.aload_n 0, 1) := by decide +kernel
theorem dX4_put_1 : decode cX4_put 1 = .ok (.getfield 22, 3) := by decide +kernel
theorem dX4_put_4 : decode cX4_put 4 = .ok (.ifCond .lt 32, 3) := by decide +kernel
theorem dX4_put_7 : decode cX4_put 7 = .ok (.aload_n 0, 1) := by decide +kernel
theorem dX4_put_8 : decode cX4_put 8 = .ok (.getfield 22, 3) := by decide +kernel
theorem dX4_put_11 : decode cX4_put 11 = .ok (.bipush 60, 2) := by decide +kernel
theorem dX4_put_13 : decode cX4_put 13 = .ok (.if_icmp .ge 23, 3) := by decide +kernel
theorem dX4_put_16 : decode cX4_put 16 = .ok (.aload_n 0, 1) := by decide +kernel
theorem dX4_put_17 : decode cX4_put 17 = .ok (.getfield 11, 3) := by decide +kernel
theorem dX4_put_20 : decode cX4_put 20 = .ok (.aload_n 0, 1) := by decide +kernel
theorem dX4_put_21 : decode cX4_put 21 = .ok (.getfield 22, 3) := by decide +kernel
theorem dX4_put_24 : decode cX4_put 24 = .ok (.iload_n 1, 1) := by decide +kernel
theorem dX4_put_25 : decode cX4_put 25 = .ok (.castore, 1) := by decide +kernel
theorem dX4_put_26 : decode cX4_put 26 = .ok (.aload_n 0, 1) := by decide +kernel
theorem dX4_put_27 : decode cX4_put 27 = .ok (.dup, 1) := by decide +kernel
theorem dX4_put_28 : decode cX4_put 28 = .ok (.getfield 22, 3) := by decide +kernel
theorem dX4_put_31 : decode cX4_put 31 = .ok (.iconst 1, 1) := by decide +kernel
theorem dX4_put_32 : decode cX4_put 32 = .ok (.iadd, 1) := by decide +kernel
theorem dX4_put_33 : decode cX4_put 33 = .ok (.putfield 22, 3) := by decide +kernel
theorem dX4_put_36 : decode cX4_put 36 = .ok (.return_, 1) := by decide +kernel
theorem dX4_empty_0 : decode cX4_empty 0 = .ok (.aload_n 0, 1) := by decide +kernel
theorem dX4_empty_1 : decode cX4_empty 1 = .ok (.iconst 0, 1) := by decide +kernel
theorem dX4_empty_2 : decode cX4_empty 2 = .ok (.putfield 22, 3) := by decide +kernel
theorem dX4_empty_5 : decode cX4_empty 5 = .ok (.return_, 1) := by decide +kernel
theorem dX4_read_0 : decode cX4_read 0 = .ok (.aload_n 0, 1) := by decide +kernel
theorem dX4_read_1 : decode cX4_read 1 = .ok (.iconst 0, 1) := by decide +kernel
theorem dX4_read_2 : decode cX4_read 2 = .ok (.putfield 26, 3) := by decide +kernel
theorem dX4_read_5 : decode cX4_read 5 = .ok (.iconst 0, 1) := by decide +kernel
theorem dX4_read_6 : decode cX4_read 6 = .ok (.istore_n 1, 1) := by decide +kernel
theorem dX4_read_7 : decode cX4_read 7 = .ok (.iconst 0, 1) := by decide +kernel
theorem dX4_read_8 : decode cX4_read 8 = .ok (.istore_n 2, 1) := by decide +kernel
theorem dX4_read_9 : decode cX4_read 9 = .ok (.iconst (-1), 1) := by decide +kernel
theorem dX4_read_10 : decode cX4_read 10 = .ok (.istore_n 3, 1) := by decide +kernel
theorem dX4_read_11 : decode cX4_read 11 = .ok (.iconst 0, 1) := by decide +kernel
theorem dX4_read_12 : decode cX4_read 12 = .ok (.istore 4, 2) := by decide +kernel
theorem dX4_read_14 : decode cX4_read 14 = .ok (.iload 4, 2) := by decide +kernel
theorem dX4_read_16 : decode cX4_read 16 = .ok (.aload_n 0, 1) := by decide +kernel
theorem dX4_read_17 : decode cX4_read 17 = .ok (.getfield 22, 3) := by decide +kernel
theorem dX4_read_20 : decode cX4_read 20 = .ok (.if_icmp .ge 114, 3) := by decide +kernel
theorem dX4_read_134 : decode cX4_read 134 = .ok (.iload_n 3, 1) := by decide +kernel
theorem dX4_read_135 : decode cX4_read 135 = .ok (.ifCond .gt 8, 3) := by decide +kernel
theorem dX4_read_138 : decode cX4_read 138 = .ok (.aload_n 0, 1) := by decide +kernel
theorem dX4_read_139 : decode cX4_read 139 = .ok (.getfield 22, 3) := by decide +kernel
theorem dX4_read_142 : decode cX4_read 142 = .ok (.ireturn, 1) := by decide +kernel
theorem dX5_init_0 : decode cX5_init 0 = .ok (.aload_n 0, 1) := by decide +kernel
theorem dX5_init_1 : decode cX5_init 1 = .ok (.invokespecial 1, 3) := by decide +kernel
theorem dX5_init_4 : decode cX5_init 4 = .ok (.aload_n 0, 1) := by decide +kernel
theorem dX5_init_5 : decode cX5_init 5 = .ok (.bipush 60, 2) := by decide +kernel
theorem dX5_init_7 : decode cX5_init 7 = .ok (.newarray .int, 2) := by decide +kernel
theorem dX5_init_9 : decode cX5_init 9 = .ok (.putfield 9, 3) := by decide +kernel
theorem dX5_init_12 : decode cX5_init 12 = .ok (.aload_n 0, 1) := by decide +kernel
theorem dX5_init_13 : decode cX5_init 13 = .ok (.bipush 60, 2) := by decide +kernel
theorem dX5_init_15 : decode cX5_init 15 = .ok (.newarray .int, 2) := by decide +kernel
theorem dX5_init_17 : decode cX5_init 17 = .ok (.putfield 13, 3) := by decide +kernel
theorem dX5_init_20 : decode cX5_init 20 = .ok (.aload_n 0, 1) := by decide +kernel
theorem dX5_init_21 : decode cX5_init 21 = .ok (.bipush 60, 2) := by decide +kernel
theorem dX5_init_23 : decode cX5_init 23 = .ok (.newarray .long, 2) := by decide +kernel
theorem dX5_init_25 : decode cX5_init 25 = .ok (.putfield 16, 3) := by decide +kernel
theorem dX5_init_28 : decode cX5_init 28 = .ok (.return_, 1) := by decide +kernel
theorem dX5_clear_0 : decode cX5_clear 0 = .ok (.aload_n 0, 1) := by decide +kernel
theorem dX5_clear_1 : decode cX5_clear 1 = .ok (.iconst 0, 1) := by decide +kernel
theorem dX5_clear_2 : decode cX5_clear 2 = .ok (.putfield 20, 3) := by decide +kernel
theorem dX5_clear_5 : decode cX5_clear 5 = .ok (.aload_n 0, 1) := by decide +kernel
theorem dX5_clear_6 : decode cX5_clear 6 = .ok (.iconst 0, 1) := by decide +kernel
theorem dX5_clear_7 : decode cX5_clear 7 = .ok (.putfield 24, 3) := by decide +kernel
theorem dX5_clear_10 : decode cX5_clear 10 = .ok (.return_, 1) := by decide +kernel
theorem dX5_takeFrom_0 : decode cX5_takeFrom 0 = .ok (.aload_n 0, 1) := by decide +kernel
theorem dX5_takeFrom_1 : decode cX5_takeFrom 1 = .ok (.aload_n 1, 1) := by decide +kernel
theorem dX5_takeFrom_2 : decode cX5_takeFrom 2 = .ok (.getfield 20, 3) := by decide +kernel
theorem dX5_takeFrom_5 : decode cX5_takeFrom 5 = .ok (.putfield 20, 3) := by decide +kernel
theorem dX5_takeFrom_8 : decode cX5_takeFrom 8 = .ok (.aload_n 0, 1) := by decide +kernel
theorem dX5_takeFrom_9 : decode cX5_takeFrom 9 = .ok (.aload_n 1, 1) := by decide +kernel
theorem dX5_takeFrom_10 : decode cX5_takeFrom 10 = .ok (.getfield 24, 3) := by decide +kernel
theorem dX5_takeFrom_13 : decode cX5_takeFrom 13 = .ok (.putfield 24, 3) := by decide +kernel
theorem dX5_takeFrom_16 : decode cX5_takeFrom 16 = .ok (.aload_n 1, 1) := by decide +kernel
theorem dX5_takeFrom_17 : decode cX5_takeFrom 17 = .ok (.getfield 9, 3) := by decide +kernel
theorem dX5_takeFrom_20 : decode cX5_takeFrom 20 = .ok (.iconst 0, 1) := by decide +kernel
theorem dX5_takeFrom_21 : decode cX5_takeFrom 21 = .ok (.aload_n 0, 1) := by decide +kernel
theorem dX5_takeFrom_22 : decode cX5_takeFrom 22 = .ok (.getfield 9, 3) := by decide +kernel
theorem dX5_takeFrom_25 : decode cX5_takeFrom 25 = .ok (.iconst 0, 1) := by decide +kernel
theorem dX5_takeFrom_26 : decode cX5_takeFrom 26 = .ok (.bipush 60, 2) := by decide +kernel
theorem dX5_takeFrom_28 : decode cX5_takeFrom 28 = .ok (.invokestatic 33, 3) := by decide +kernel
theorem dX5_takeFrom_31 : decode cX5_takeFrom 31 = .ok (.aload_n 1, 1) := by decide +kernel
theorem dX5_takeFrom_32 : decode cX5_takeFrom 32 = .ok (.getfield 13, 3) := by decide +kernel
theorem dX5_takeFrom_35 : decode cX5_takeFrom 35 = .ok (.iconst 0, 1) := by decide +kernel
theorem dX5_takeFrom_36 : decode cX5_takeFrom 36 = .ok (.aload_n 0, 1) := by decide +kernel
theorem dX5_takeFrom_37 : decode cX5_takeFrom 37 = .ok (.getfield 13, 3) := by decide +kernel
theorem dX5_takeFrom_40 : decode cX5_takeFrom 40 = .ok (.iconst 0, 1) := by decide +kernel
theorem dX5_takeFrom_41 : decode cX5_takeFrom 41 = .ok (.bipush 60, 2) := by decide +kernel
theorem dX5_takeFrom_43 : decode cX5_takeFrom 43 = .ok (.invokestatic 33, 3) := by decide +kernel
theorem dX5_takeFrom_46 : decode cX5_takeFrom 46 = .ok (.aload_n 1, 1) := by decide +kernel
theorem dX5_takeFrom_47 : decode cX5_takeFrom 47 = .ok (.getfield 16, 3) := by decide +kernel
theorem dX5_takeFrom_50 : decode cX5_takeFrom 50 = .ok (.iconst 0, 1) := by decide +kernel
theorem dX5_takeFrom_51 : decode cX5_takeFrom 51 = .ok (.aload_n 0, 1) := by decide +kernel
theorem dX5_takeFrom_52 : decode cX5_takeFrom 52 = .ok (.getfield 16, 3) := by decide +kernel
theorem dX5_takeFrom_55 : decode cX5_takeFrom 55 = .ok (.iconst 0, 1) := by decide +kernel
theorem dX5_takeFrom_56 : decode cX5_takeFrom 56 = .ok (.bipush 60, 2) := by decide +kernel
theorem dX5_takeFrom_58 : decode cX5_takeFrom 58 = .ok (.invokestatic 33, 3) := by decide +kernel
theorem dX5_takeFrom_61 : decode cX5_takeFrom 61 = .ok (.return_, 1) := by decide +kernel
theorem dX6_init_0 : decode cX6_init 0 = .ok (.aload_n 0, 1) := by decide +kernel
theorem dX6_init_1 : decode cX6_init 1 = .ok (.invokespecial 3, 3) := by decide +kernel
theorem dX6_init_4 : decode cX6_init 4 = .ok (.aload_n 0, 1) := by decide +kernel
theorem dX6_init_5 : decode cX6_init 5 = .ok (.bipush 8, 2) := by decide +kernel
theorem dX6_init_7 : decode cX6_init 7 = .ok (.newarray .long, 2) := by decide +kernel
theorem dX6_init_9 : decode cX6_init 9 = .ok (.putfield 9, 3) := by decide +kernel
theorem dX6_init_12 : decode cX6_init 12 = .ok (.return_, 1) := by decide +kernel
theorem dX6_start_0 : decode cX6_start 0 = .ok (.aload_n 0, 1) := by decide +kernel
theorem dX6_start_1 : decode cX6_start 1 = .ok (.iconst 1, 1) := by decide +kernel
theorem dX6_start_2 : decode cX6_start 2 = .ok (.putfield 15, 3) := by decide +kernel
theorem dX6_start_5 : decode cX6_start 5 = .ok (.aload_n 0, 1) := by decide +kernel
theorem dX6_start_6 : decode cX6_start 6 = .ok (.iload 6, 2) := by decide +kernel
theorem dX6_start_8 : decode cX6_start 8 = .ok (.putfield 19, 3) := by decide +kernel
theorem dX6_start_11 : decode cX6_start 11 = .ok (.aload_n 0, 1) := by decide +kernel
theorem dX6_start_12 : decode cX6_start 12 = .ok (.iload_n 1, 1) := by decide +kernel
theorem dX6_start_13 : decode cX6_start 13 = .ok (.putfield 23, 3) := by decide +kernel
theorem dX6_start_16 : decode cX6_start 16 = .ok (.aload_n 0, 1) := by decide +kernel
theorem dX6_start_17 : decode cX6_start 17 = .ok (.lload_n 2, 1) := by decide +kernel
theorem dX6_start_18 : decode cX6_start 18 = .ok (.putfield 26, 3) := by decide +kernel
theorem dX6_start_21 : decode cX6_start 21 = .ok (.aload_n 0, 1) := by decide +kernel
theorem dX6_start_22 : decode cX6_start 22 = .ok (.iload 4, 2) := by decide +kernel
theorem dX6_start_24 : decode cX6_start 24 = .ok (.putfield 30, 3) := by decide +kernel
theorem dX6_start_27 : decode cX6_start 27 = .ok (.aload_n 0, 1) := by decide +kernel
theorem dX6_start_28 : decode cX6_start 28 = .ok (.iload 5, 2) := by decide +kernel
theorem dX6_start_30 : decode cX6_start 30 = .ok (.putfield 33, 3) := by decide +kernel
theorem dX6_start_33 : decode cX6_start 33 = .ok (.aload_n 0, 1) := by decide +kernel
theorem dX6_start_34 : decode cX6_start 34 = .ok (.iload 4, 2) := by decide +kernel
theorem dX6_start_36 : decode cX6_start 36 = .ok (.putfield 36, 3) := by decide +kernel
theorem dX6_start_39 : decode cX6_start 39 = .ok (.aload_n 0, 1) := by decide +kernel
theorem dX6_start_40 : decode cX6_start 40 = .ok (.lload_n 2, 1) := by decide +kernel
theorem dX6_start_41 : decode cX6_start 41 = .ok (.putfield 39, 3) := by decide +kernel
theorem dX6_start_44 : decode cX6_start 44 = .ok (.aload_n 0, 1) := by decide +kernel
theorem dX6_start_45 : decode cX6_start 45 = .ok (.lconst 0, 1) := by decide +kernel
theorem dX6_start_46 : decode cX6_start 46 = .ok (.putfield 42, 3) := by decide +kernel
theorem dX6_start_49 : decode cX6_start 49 = .ok (.aload_n 0, 1) := by decide +kernel
theorem dX6_start_50 : decode cX6_start 50 = .ok (.lconst 0, 1) := by decide +kernel
theorem dX6_start_51 : decode cX6_start 51 = .ok (.putfield 45, 3) := by decide +kernel
theorem dX6_start_54 : decode cX6_start 54 = .ok (.aload_n 0, 1) := by decide +kernel
theorem dX6_start_55 : decode cX6_start 55 = .ok (.lconst 0, 1) := by decide +kernel
theorem dX6_start_56 : decode cX6_start 56 = .ok (.putfield 48, 3) := by decide +kernel
theorem dX6_start_59 : decode cX6_start 59 = .ok (.aload_n 0, 1) := by decide +kernel
theorem dX6_start_60 : decode cX6_start 60 = .ok (.iload 5, 2) := by decide +kernel
theorem dX6_start_62 : decode cX6_start 62 = .ok (.putfield 51, 3) := by decide +kernel
theorem dX6_start_65 : decode cX6_start 65 = .ok (.aload_n 0, 1) := by decide +kernel
theorem dX6_start_66 : decode cX6_start 66 = .ok (.iconst 1, 1) := by decide +kernel
theorem dX6_start_67 : decode cX6_start 67 = .ok (.putfield 54, 3) := by decide +kernel
theorem dX6_start_70 : decode cX6_start 70 = .ok (.aload_n 0, 1) := by decide +kernel
theorem dX6_start_71 : decode cX6_start 71 = .ok (.iload_n 1, 1) := by decide +kernel
theorem dX6_start_72 : decode cX6_start 72 = .ok (.aload_n 0, 1) := by decide +kernel
theorem dX6_start_73 : decode cX6_start 73 = .ok (.getfield 54, 3) := by decide +kernel
theorem dX6_start_76 : decode cX6_start 76 = .ok (.invokestatic 57, 3) := by decide +kernel
theorem dX6_start_79 : decode cX6_start 79 = .ok (.putfield 63, 3) := by decide +kernel
theorem dX6_start_82 : decode cX6_start 82 = .ok (.aload_n 0, 1) := by decide +kernel
theorem dX6_start_83 : decode cX6_start 83 = .ok (.iconst 0, 1) := by decide +kernel
theorem dX6_start_84 : decode cX6_start 84 = .ok (.putfield 66, 3) := by decide +kernel
theorem dX6_start_87 : decode cX6_start 87 = .ok (.iconst 0, 1) := by decide +kernel
