theorem dX11_begin_68 : decode cX11_begin 68 = .ok (.iaload, 1) := by decide +kernel
theorem dX11_begin_69 : decode cX11_begin 69 = .ok (.istore 5, 2) := by decide +kernel
theorem dX11_begin_71 : decode cX11_begin 71 = .ok (.bipush 7, 2) := by decide +kernel
theorem dX11_begin_73 : decode cX11_begin 73 = .ok (.istore 6, 2) := by decide +kernel
theorem dX11_begin_75 : decode cX11_begin 75 = .ok (.iload 6, 2) := by decide +kernel
theorem dX11_begin_77 : decode cX11_begin 77 = .ok (.sipush 1460, 3) := by decide +kernel
theorem dX11_begin_80 : decode cX11_begin 80 = .ok (.if_icmp .ge 17, 3) := by decide +kernel
theorem dX11_begin_83 : decode cX11_begin 83 = .ok (.aload_n 0, 1) := by decide +kernel
theorem dX11_begin_84 : decode cX11_begin 84 = .ok (.getfield 7, 3) := by decide +kernel
theorem dX11_begin_87 : decode cX11_begin 87 = .ok (.iload 6, 2) := by decide +kernel
theorem dX11_begin_89 : decode cX11_begin 89 = .ok (.iconst 0, 1) := by decide +kernel
theorem dX11_begin_90 : decode cX11_begin 90 = .ok (.iastore, 1) := by decide +kernel
theorem dX11_begin_91 : decode cX11_begin 91 = .ok (.iinc 6 1, 3) := by decide +kernel
theorem dX11_begin_94 : decode cX11_begin 94 = .ok (.goto (-19), 3) := by decide +kernel
theorem dX11_begin_97 : decode cX11_begin 97 = .ok (.aload_n 0, 1) := by decide +kernel
theorem dX11_begin_98 : decode cX11_begin 98 = .ok (.lconst 0, 1) := by decide +kernel
theorem dX11_begin_99 : decode cX11_begin 99 = .ok (.putfield 59, 3) := by decide +kernel
theorem dX11_begin_102 : decode cX11_begin 102 = .ok (.aload_n 0, 1) := by decide +kernel
theorem dX11_begin_103 : decode cX11_begin 103 = .ok (.getfield 7, 3) := by decide +kernel
theorem dX11_begin_106 : decode cX11_begin 106 = .ok (.iconst 0, 1) := by decide +kernel
theorem dX11_begin_107 : decode cX11_begin 107 = .ok (.iconst 1, 1) := by decide +kernel
theorem dX11_begin_108 : decode cX11_begin 108 = .ok (.iastore, 1) := by decide +kernel
theorem dX11_begin_109 : decode cX11_begin 109 = .ok (.aload_n 0, 1) := by decide +kernel
theorem dX11_begin_110 : decode cX11_begin 110 = .ok (.getfield 7, 3) := by decide +kernel
theorem dX11_begin_113 : decode cX11_begin 113 = .ok (.bipush 7, 2) := by decide +kernel
theorem dX11_begin_115 : decode cX11_begin 115 = .ok (.iload_n 1, 1) := by decide +kernel
theorem dX11_begin_116 : decode cX11_begin 116 = .ok (.iastore, 1) := by decide +kernel
theorem dX11_begin_117 : decode cX11_begin 117 = .ok (.aload_n 0, 1) := by decide +kernel
theorem dX11_begin_118 : decode cX11_begin 118 = .ok (.getfield 7, 3) := by decide +kernel
theorem dX11_begin_121 : decode cX11_begin 121 = .ok (.bipush 16, 2) := by decide +kernel
theorem dX11_begin_123 : decode cX11_begin 123 = .ok (.iload_n 1, 1) := by decide +kernel
theorem dX11_begin_124 : decode cX11_begin 124 = .ok (.iastore, 1) := by decide +kernel
theorem dX11_begin_125 : decode cX11_begin 125 = .ok (.aload_n 0, 1) := by decide +kernel
theorem dX11_begin_126 : decode cX11_begin 126 = .ok (.getfield 7, 3) := by decide +kernel
theorem dX11_begin_129 : decode cX11_begin 129 = .ok (.bipush 10, 2) := by decide +kernel
theorem dX11_begin_131 : decode cX11_begin 131 = .ok (.iload_n 2, 1) := by decide +kernel
theorem dX11_begin_132 : decode cX11_begin 132 = .ok (.iastore, 1) := by decide +kernel
theorem dX11_begin_133 : decode cX11_begin 133 = .ok (.aload_n 0, 1) := by decide +kernel
theorem dX11_begin_134 : decode cX11_begin 134 = .ok (.getfield 7, 3) := by decide +kernel
theorem dX11_begin_137 : decode cX11_begin 137 = .ok (.bipush 11, 2) := by decide +kernel
theorem dX11_begin_139 : decode cX11_begin 139 = .ok (.iload 4, 2) := by decide +kernel
theorem dX11_begin_141 : decode cX11_begin 141 = .ok (.iastore, 1) := by decide +kernel
theorem dX11_begin_142 : decode cX11_begin 142 = .ok (.aload_n 0, 1) := by decide +kernel
theorem dX11_begin_143 : decode cX11_begin 143 = .ok (.getfield 7, 3) := by decide +kernel
theorem dX11_begin_146 : decode cX11_begin 146 = .ok (.bipush 13, 2) := by decide +kernel
theorem dX11_begin_148 : decode cX11_begin 148 = .ok (.iload_n 3, 1) := by decide +kernel
theorem dX11_begin_149 : decode cX11_begin 149 = .ok (.iastore, 1) := by decide +kernel
theorem dX11_begin_150 : decode cX11_begin 150 = .ok (.aload_n 0, 1) := by decide +kernel
theorem dX11_begin_151 : decode cX11_begin 151 = .ok (.getfield 7, 3) := by decide +kernel
theorem dX11_begin_154 : decode cX11_begin 154 = .ok (.bipush 14, 2) := by decide +kernel
theorem dX11_begin_156 : decode cX11_begin 156 = .ok (.iconst 1, 1) := by decide +kernel
theorem dX11_begin_157 : decode cX11_begin 157 = .ok (.iastore, 1) := by decide +kernel
theorem dX11_begin_158 : decode cX11_begin 158 = .ok (.aload_n 0, 1) := by decide +kernel
theorem dX11_begin_159 : decode cX11_begin 159 = .ok (.getfield 7, 3) := by decide +kernel
theorem dX11_begin_162 : decode cX11_begin 162 = .ok (.bipush 15, 2) := by decide +kernel
theorem dX11_begin_164 : decode cX11_begin 164 = .ok (.iload 5, 2) := by decide +kernel
theorem dX11_begin_166 : decode cX11_begin 166 = .ok (.iastore, 1) := by decide +kernel
theorem dX11_begin_167 : decode cX11_begin 167 = .ok (.aload_n 0, 1) := by decide +kernel
theorem dX11_begin_168 : decode cX11_begin 168 = .ok (.getfield 7, 3) := by decide +kernel
theorem dX11_begin_171 : decode cX11_begin 171 = .ok (.bipush 12, 2) := by decide +kernel
theorem dX11_begin_173 : decode cX11_begin 173 = .ok (.aload_n 0, 1) := by decide +kernel
theorem dX11_begin_174 : decode cX11_begin 174 = .ok (.iload_n 3, 1) := by decide +kernel
theorem dX11_begin_175 : decode cX11_begin 175 = .ok (.invokevirtual 172, 3) := by decide +kernel
theorem dX11_begin_178 : decode cX11_begin 178 = .ok (.iastore, 1) := by decide +kernel
theorem dX11_begin_179 : decode cX11_begin 179 = .ok (.aload_n 0, 1) := by decide +kernel
theorem dX11_begin_180 : decode cX11_begin 180 = .ok (.getfield 7, 3) := by decide +kernel
theorem dX11_begin_183 : decode cX11_begin 183 = .ok (.bipush 12, 2) := by decide +kernel
theorem dX11_begin_185 : decode cX11_begin 185 = .ok (.iaload, 1) := by decide +kernel
theorem dX11_begin_186 : decode cX11_begin 186 = .ok (.ireturn, 1) := by decide +kernel
theorem dX11_bound_0 : decode cX11_bound 0 = .ok (.iload_n 0, 1) := by decide +kernel
theorem dX11_bound_1 : decode cX11_bound 1 = .ok (.tableswitch 39 0 3 #[31, 39, 33, 36], 31) := by decide +kernel
theorem dX11_bound_32 : decode cX11_bound 32 = .ok (.iconst 5, 1) := by decide +kernel
theorem dX11_bound_33 : decode cX11_bound 33 = .ok (.ireturn, 1) := by decide +kernel
theorem dX11_bound_34 : decode cX11_bound 34 = .ok (.bipush 30, 2) := by decide +kernel
theorem dX11_bound_36 : decode cX11_bound 36 = .ok (.ireturn, 1) := by decide +kernel
theorem dX11_bound_37 : decode cX11_bound 37 = .ok (.ldc 179, 2) := by decide +kernel
theorem dX11_bound_39 : decode cX11_bound 39 = .ok (.ireturn, 1) := by decide +kernel
theorem dX11_bound_40 : decode cX11_bound 40 = .ok (.iconst 1, 1) := by decide +kernel
theorem dX11_bound_41 : decode cX11_bound 41 = .ok (.ireturn, 1) := by decide +kernel
theorem dX11_set_0 : decode cX11_set 0 = .ok (.aload_n 0, 1) := by decide +kernel
theorem dX11_set_1 : decode cX11_set 1 = .ok (.iload_n 1, 1) := by decide +kernel
theorem dX11_set_2 : decode cX11_set 2 = .ok (.iconst 0, 1) := by decide +kernel
theorem dX11_set_3 : decode cX11_set 3 = .ok (.iconst 4, 1) := by decide +kernel
theorem dX11_set_4 : decode cX11_set 4 = .ok (.invokestatic 95, 3) := by decide +kernel
theorem dX11_set_7 : decode cX11_set 7 = .ok (.ifCond .eq 23, 3) := by decide +kernel
theorem dX11_set_10 : decode cX11_set 10 = .ok (.iload_n 2, 1) := by decide +kernel
theorem dX11_set_11 : decode cX11_set 11 = .ok (.iconst 0, 1) := by decide +kernel
theorem dX11_set_12 : decode cX11_set 12 = .ok (.iload_n 1, 1) := by decide +kernel
theorem dX11_set_13 : decode cX11_set 13 = .ok (.invokestatic 180, 3) := by decide +kernel
theorem dX11_set_16 : decode cX11_set 16 = .ok (.invokestatic 95, 3) := by decide +kernel
theorem dX11_set_19 : decode cX11_set 19 = .ok (.ifCond .eq 7, 3) := by decide +kernel
theorem dX11_set_22 : decode cX11_set 22 = .ok (.iconst 0, 1) := by decide +kernel
theorem dX11_set_23 : decode cX11_set 23 = .ok (.goto 8, 3) := by decide +kernel
theorem dX11_set_26 : decode cX11_set 26 = .ok (.iconst 2, 1) := by decide +kernel
theorem dX11_set_27 : decode cX11_set 27 = .ok (.goto 4, 3) := by decide +kernel
theorem dX11_set_30 : decode cX11_set 30 = .ok (.iconst 1, 1) := by decide +kernel
theorem dX11_set_31 : decode cX11_set 31 = .ok (.putfield 56, 3) := by decide +kernel
theorem dX11_set_34 : decode cX11_set 34 = .ok (.aload_n 0, 1) := by decide +kernel
theorem dX11_set_35 : decode cX11_set 35 = .ok (.getfield 56, 3) := by decide +kernel
theorem dX11_set_38 : decode cX11_set 38 = .ok (.ifCond .le 5, 3) := by decide +kernel
theorem dX11_set_41 : decode cX11_set 41 = .ok (.iconst 0, 1) := by decide +kernel
theorem dX11_set_42 : decode cX11_set 42 = .ok (.ireturn, 1) := by decide +kernel
theorem dX11_set_43 : decode cX11_set 43 = .ok (.aload_n 0, 1) := by decide +kernel
theorem dX11_set_44 : decode cX11_set 44 = .ok (.invokevirtual 145, 3) := by decide +kernel
theorem dX11_set_47 : decode cX11_set 47 = .ok (.aload_n 0, 1) := by decide +kernel
theorem dX11_set_48 : decode cX11_set 48 = .ok (.getfield 7, 3) := by decide +kernel
theorem dX11_set_51 : decode cX11_set 51 = .ok (.iconst 2, 1) := by decide +kernel
theorem dX11_set_52 : decode cX11_set 52 = .ok (.iload_n 1, 1) := by decide +kernel
theorem dX11_set_53 : decode cX11_set 53 = .ok (.iadd, 1) := by decide +kernel
theorem dX11_set_54 : decode cX11_set 54 = .ok (.iaload, 1) := by decide +kernel
theorem dX11_set_55 : decode cX11_set 55 = .ok (.istore_n 3, 1) := by decide +kernel
theorem dX11_set_56 : decode cX11_set 56 = .ok (.aload_n 0, 1) := by decide +kernel
theorem dX11_set_57 : decode cX11_set 57 = .ok (.getfield 7, 3) := by decide +kernel
theorem dX11_set_60 : decode cX11_set 60 = .ok (.iconst 2, 1) := by decide +kernel
theorem dX11_set_61 : decode cX11_set 61 = .ok (.iload_n 1, 1) := by decide +kernel
theorem dX11_set_62 : decode cX11_set 62 = .ok (.iadd, 1) := by decide +kernel
theorem dX11_set_63 : decode cX11_set 63 = .ok (.iload_n 2, 1) := by decide +kernel
theorem dX11_set_64 : decode cX11_set 64 = .ok (.iastore, 1) := by decide +kernel
theorem dX11_set_65 : decode cX11_set 65 = .ok (.iload_n 3, 1) := by decide +kernel
theorem dX11_set_66 : decode cX11_set 66 = .ok (.ireturn, 1) := by decide +kernel
theorem dX11_rated_0 : decode cX11_rated 0 = .ok (.iload_n 1, 1) := by decide +kernel
theorem dX11_rated_1 : decode cX11_rated 1 = .ok (.iconst 0, 1) := by decide +kernel
theorem dX11_rated_2 : decode cX11_rated 2 = .ok (.sipush 2000, 3) := by decide +kernel
theorem dX11_rated_5 : decode cX11_rated 5 = .ok (.invokestatic 95, 3) := by decide +kernel
theorem dX11_rated_8 : decode cX11_rated 8 = .ok (.ifCond .ne 9, 3) := by decide +kernel
theorem dX11_rated_11 : decode cX11_rated 11 = .ok (.aload_n 0, 1) := by decide +kernel
theorem dX11_rated_12 : decode cX11_rated 12 = .ok (.iconst 1, 1) := by decide +kernel
theorem dX11_rated_13 : decode cX11_rated 13 = .ok (.invokevirtual 73, 3) := by decide +kernel
theorem dX11_rated_16 : decode cX11_rated 16 = .ok (.ireturn, 1) := by decide +kernel
theorem dX11_rated_17 : decode cX11_rated 17 = .ok (.aload_n 0, 1) := by decide +kernel
theorem dX11_rated_18 : decode cX11_rated 18 = .ok (.getfield 7, 3) := by decide +kernel
theorem dX11_rated_21 : decode cX11_rated 21 = .ok (.iconst 0, 1) := by decide +kernel
theorem dX11_rated_22 : decode cX11_rated 22 = .ok (.iaload, 1) := by decide +kernel
theorem dX11_rated_23 : decode cX11_rated 23 = .ok (.iconst 1, 1) := by decide +kernel
theorem dX11_rated_24 : decode cX11_rated 24 = .ok (.if_icmp .eq 9, 3) := by decide +kernel
theorem dX11_rated_27 : decode cX11_rated 27 = .ok (.aload_n 0, 1) := by decide +kernel
theorem dX11_rated_28 : decode cX11_rated 28 = .ok (.iconst 2, 1) := by decide +kernel
theorem dX11_rated_29 : decode cX11_rated 29 = .ok (.invokevirtual 73, 3) := by decide +kernel
theorem dX11_rated_32 : decode cX11_rated 32 = .ok (.ireturn, 1) := by decide +kernel
theorem dX11_rated_33 : decode cX11_rated 33 = .ok (.aload_n 0, 1) := by decide +kernel
theorem dX11_rated_34 : decode cX11_rated 34 = .ok (.invokevirtual 145, 3) := by decide +kernel
theorem dX11_rated_37 : decode cX11_rated 37 = .ok (.aload_n 0, 1) := by decide +kernel
theorem dX11_rated_38 : decode cX11_rated 38 = .ok (.getfield 7, 3) := by decide +kernel
theorem dX11_rated_41 : decode cX11_rated 41 = .ok (.bipush 10, 2) := by decide +kernel
theorem dX11_rated_43 : decode cX11_rated 43 = .ok (.iaload, 1) := by decide +kernel
theorem dX11_rated_44 : decode cX11_rated 44 = .ok (.istore_n 2, 1) := by decide +kernel
theorem dX11_rated_45 : decode cX11_rated 45 = .ok (.aload_n 0, 1) := by decide +kernel
theorem dX11_rated_46 : decode cX11_rated 46 = .ok (.getfield 7, 3) := by decide +kernel
theorem dX11_rated_49 : decode cX11_rated 49 = .ok (.bipush 10, 2) := by decide +kernel
theorem dX11_rated_51 : decode cX11_rated 51 = .ok (.iload_n 1, 1) := by decide +kernel
theorem dX11_rated_52 : decode cX11_rated 52 = .ok (.iastore, 1) := by decide +kernel
theorem dX11_rated_53 : decode cX11_rated 53 = .ok (.aload_n 0, 1) := by decide +kernel
theorem dX11_rated_54 : decode cX11_rated 54 = .ok (.bipush 60, 2) := by decide +kernel
theorem dX11_rated_56 : decode cX11_rated 56 = .ok (.invokevirtual 183, 3) := by decide +kernel
theorem dX11_rated_59 : decode cX11_rated 59 = .ok (.iload_n 2, 1) := by decide +kernel
theorem dX11_rated_60 : decode cX11_rated 60 = .ok (.ireturn, 1) := by decide +kernel
theorem dX11_setRate_0 : decode cX11_setRate 0 = .ok (.aload_n 0, 1) := by decide +kernel
theorem dX11_setRate_1 : decode cX11_setRate 1 = .ok (.iconst 0, 1) := by decide +kernel
theorem dX11_setRate_2 : decode cX11_setRate 2 = .ok (.putfield 56, 3) := by decide +kernel
theorem dX11_setRate_5 : decode cX11_setRate 5 = .ok (.aload_n 0, 1) := by decide +kernel
theorem dX11_setRate_6 : decode cX11_setRate 6 = .ok (.iload_n 1, 1) := by decide +kernel
theorem dX11_setRate_7 : decode cX11_setRate 7 = .ok (.invokevirtual 186, 3) := by decide +kernel
theorem dX11_setRate_10 : decode cX11_setRate 10 = .ok (.ireturn, 1) := by decide +kernel
theorem dX11_holidays_0 : decode cX11_holidays 0 = .ok (.iload_n 1, 1) := by decide +kernel
theorem dX11_holidays_1 : decode cX11_holidays 1 = .ok (.iconst 0, 1) := by decide +kernel
theorem dX11_holidays_2 : decode cX11_holidays 2 = .ok (.bipush 23, 2) := by decide +kernel
theorem dX11_holidays_4 : decode cX11_holidays 4 = .ok (.invokestatic 95, 3) := by decide +kernel
theorem dX11_holidays_7 : decode cX11_holidays 7 = .ok (.ifCond .eq 21, 3) := by decide +kernel
theorem dX11_holidays_10 : decode cX11_holidays 10 = .ok (.aload_n 0, 1) := by decide +kernel
theorem dX11_holidays_11 : decode cX11_holidays 11 = .ok (.getfield 7, 3) := by decide +kernel
theorem dX11_holidays_14 : decode cX11_holidays 14 = .ok (.bipush 13, 2) := by decide +kernel
theorem dX11_holidays_16 : decode cX11_holidays 16 = .ok (.iaload, 1) := by decide +kernel
theorem dX11_holidays_17 : decode cX11_holidays 17 = .ok (.ifCond .ne 7, 3) := by decide +kernel
theorem dX11_holidays_20 : decode cX11_holidays 20 = .ok (.iconst 2, 1) := by decide +kernel
theorem dX11_holidays_21 : decode cX11_holidays 21 = .ok (.goto 8, 3) := by decide +kernel
theorem dX11_holidays_24 : decode cX11_holidays 24 = .ok (.iconst 0, 1) := by decide +kernel
theorem dX11_holidays_25 : decode cX11_holidays 25 = .ok (.goto 4, 3) := by decide +kernel
theorem dX11_holidays_28 : decode cX11_holidays 28 = .ok (.iconst 1, 1) := by decide +kernel
theorem dX11_holidays_29 : decode cX11_holidays 29 = .ok (.istore_n 3, 1) := by decide +kernel
theorem dX11_holidays_30 : decode cX11_holidays 30 = .ok (.iload_n 3, 1) := by decide +kernel
theorem dX11_holidays_31 : decode cX11_holidays 31 = .ok (.ifCond .le 10, 3) := by decide +kernel
theorem dX11_holidays_34 : decode cX11_holidays 34 = .ok (.aload_n 0, 1) := by decide +kernel
theorem dX11_holidays_35 : decode cX11_holidays 35 = .ok (.iload_n 3, 1) := by decide +kernel
theorem dX11_holidays_36 : decode cX11_holidays 36 = .ok (.putfield 56, 3) := by decide +kernel
theorem dX11_holidays_39 : decode cX11_holidays 39 = .ok (.iconst 0, 1) := by decide +kernel
theorem dX11_holidays_40 : decode cX11_holidays 40 = .ok (.ireturn, 1) := by decide +kernel
theorem dX11_holidays_41 : decode cX11_holidays 41 = .ok (.aload_n 0, 1) := by decide +kernel
theorem dX11_holidays_42 : decode cX11_holidays 42 = .ok (.invokevirtual 145, 3) := by decide +kernel
theorem dX11_holidays_45 : decode cX11_holidays 45 = .ok (.aload_n 0, 1) := by decide +kernel
theorem dX11_holidays_46 : decode cX11_holidays 46 = .ok (.getfield 7, 3) := by decide +kernel
theorem dX11_holidays_49 : decode cX11_holidays 49 = .ok (.sipush 1110, 3) := by decide +kernel
theorem dX11_holidays_52 : decode cX11_holidays 52 = .ok (.aload_n 0, 1) := by decide +kernel
theorem dX11_holidays_53 : decode cX11_holidays 53 = .ok (.getfield 7, 3) := by decide +kernel
theorem dX11_holidays_56 : decode cX11_holidays 56 = .ok (.bipush 14, 2) := by decide +kernel
theorem dX11_holidays_58 : decode cX11_holidays 58 = .ok (.iaload, 1) := by decide +kernel
theorem dX11_holidays_59 : decode cX11_holidays 59 = .ok (.iadd, 1) := by decide +kernel
theorem dX11_holidays_60 : decode cX11_holidays 60 = .ok (.iload_n 1, 1) := by decide +kernel
theorem dX11_holidays_61 : decode cX11_holidays 61 = .ok (.iadd, 1) := by decide +kernel
theorem dX11_holidays_62 : decode cX11_holidays 62 = .ok (.iaload, 1) := by decide +kernel
theorem dX11_holidays_63 : decode cX11_holidays 63 = .ok (.iconst 1, 1) := by decide +kernel
theorem dX11_holidays_64 : decode cX11_holidays 64 = .ok (.if_icmp .ne 7, 3) := by decide +kernel
theorem dX11_holidays_67 : decode cX11_holidays 67 = .ok (.iconst 1, 1) := by decide +kernel
theorem dX11_holidays_68 : decode cX11_holidays 68 = .ok (.goto 4, 3) := by decide +kernel
theorem dX11_holidays_71 : decode cX11_holidays 71 = .ok (.iconst 0, 1) := by decide +kernel
theorem dX11_holidays_72 : decode cX11_holidays 72 = .ok (.istore 4, 2) := by decide +kernel
theorem dX11_holidays_74 : decode cX11_holidays 74 = .ok (.aload_n 0, 1) := by decide +kernel
theorem dX11_holidays_75 : decode cX11_holidays 75 = .ok (.getfield 7, 3) := by decide +kernel
theorem dX11_holidays_78 : decode cX11_holidays 78 = .ok (.sipush 1110, 3) := by decide +kernel
theorem dX11_holidays_81 : decode cX11_holidays 81 = .ok (.aload_n 0, 1) := by decide +kernel
theorem dX11_holidays_82 : decode cX11_holidays 82 = .ok (.getfield 7, 3) := by decide +kernel
theorem dX11_holidays_85 : decode cX11_holidays 85 = .ok (.bipush 14, 2) := by decide +kernel
theorem dX11_holidays_87 : decode cX11_holidays 87 = .ok (.iaload, 1) := by decide +kernel
theorem dX11_holidays_88 : decode cX11_holidays 88 = .ok (.iadd, 1) := by decide +kernel
theorem dX11_holidays_89 : decode cX11_holidays 89 = .ok (.iload_n 1, 1) := by decide +kernel
theorem dX11_holidays_90 : decode cX11_holidays 90 = .ok (.iadd, 1) := by decide +kernel
theorem dX11_holidays_91 : decode cX11_holidays 91 = .ok (.iload_n 2, 1) := by decide +kernel
theorem dX11_holidays_92 : decode cX11_holidays 92 = .ok (.ifCond .eq 7, 3) := by decide +kernel
theorem dX11_holidays_95 : decode cX11_holidays 95 = .ok (.iconst 1, 1) := by decide +kernel
theorem dX11_holidays_96 : decode cX11_holidays 96 = .ok (.goto 4, 3) := by decide +kernel
theorem dX11_holidays_99 : decode cX11_holidays 99 = .ok (.iconst 0, 1) := by decide +kernel
theorem dX11_holidays_100 : decode cX11_holidays 100 = .ok (.iastore, 1) := by decide +kernel
theorem dX11_holidays_101 : decode cX11_holidays 101 = .ok (.iload 4, 2) := by decide +kernel
theorem dX11_holidays_103 : decode cX11_holidays 103 = .ok (.iload_n 2, 1) := by decide +kernel
theorem dX11_holidays_104 : decode cX11_holidays 104 = .ok (.if_icmp .eq 9, 3) := by decide +kernel
theorem dX11_holidays_107 : decode cX11_holidays 107 = .ok (.aload_n 0, 1) := by decide +kernel
theorem dX11_holidays_108 : decode cX11_holidays 108 = .ok (.bipush 60, 2) := by decide +kernel
theorem dX11_holidays_110 : decode cX11_holidays 110 = .ok (.invokevirtual 183, 3) := by decide +kernel
theorem dX11_holidays_113 : decode cX11_holidays 113 = .ok (.iload 4, 2) := by decide +kernel
theorem dX11_holidays_115 : decode cX11_holidays 115 = .ok (.ireturn, 1) := by decide +kernel
theorem dX11_setHoliday_0 : decode cX11_setHoliday 0 = .ok (.aload_n 0, 1) := by decide +kernel
theorem dX11_setHoliday_1 : decode cX11_setHoliday 1 = .ok (.iconst 0, 1) := by decide +kernel
theorem dX11_setHoliday_2 : decode cX11_setHoliday 2 = .ok (.putfield 56, 3) := by decide +kernel
theorem dX11_setHoliday_5 : decode cX11_setHoliday 5 = .ok (.aload_n 0, 1) := by decide +kernel
theorem dX11_setHoliday_6 : decode cX11_setHoliday 6 = .ok (.iload_n 1, 1) := by decide +kernel
theorem dX11_setHoliday_7 : decode cX11_setHoliday 7 = .ok (.iload_n 2, 1) := by decide +kernel
theorem dX11_setHoliday_8 : decode cX11_setHoliday 8 = .ok (.invokevirtual 189, 3) := by decide +kernel
theorem dX11_setHoliday_11 : decode cX11_setHoliday 11 = .ok (.ireturn, 1) := by decide +kernel
theorem dX11_against_0 : decode cX11_against 0 = .ok (.iload_n 1, 1) := by decide +kernel
theorem dX11_against_1 : decode cX11_against 1 = .ok (.iconst 1, 1) := by decide +kernel
theorem dX11_against_2 : decode cX11_against 2 = .ok (.if_icmp .ge 7, 3) := by decide +kernel
theorem dX11_against_5 : decode cX11_against 5 = .ok (.iconst 1, 1) := by decide +kernel
theorem dX11_against_6 : decode cX11_against 6 = .ok (.goto 42, 3) := by decide +kernel
theorem dX11_against_9 : decode cX11_against 9 = .ok (.aload_n 0, 1) := by decide +kernel
theorem dX11_against_10 : decode cX11_against 10 = .ok (.getfield 7, 3) := by decide +kernel
theorem dX11_against_13 : decode cX11_against 13 = .ok (.iconst 0, 1) := by decide +kernel
theorem dX11_against_14 : decode cX11_against 14 = .ok (.iaload, 1) := by decide +kernel
theorem dX11_against_15 : decode cX11_against 15 = .ok (.iconst 1, 1) := by decide +kernel
theorem dX11_against_16 : decode cX11_against 16 = .ok (.if_icmp .eq 7, 3) := by decide +kernel
theorem dX11_against_19 : decode cX11_against 19 = .ok (.iconst 2, 1) := by decide +kernel
theorem dX11_against_20 : decode cX11_against 20 = .ok (.goto 28, 3) := by decide +kernel
theorem dX11_against_23 : decode cX11_against 23 = .ok (.iload_n 1, 1) := by decide +kernel
theorem dX11_against_24 : decode cX11_against 24 = .ok (.i2l, 1) := by decide +kernel
theorem dX11_against_25 : decode cX11_against 25 = .ok (.aload_n 0, 1) := by decide +kernel
theorem dX11_against_26 : decode cX11_against 26 = .ok (.invokevirtual 193, 3) := by decide +kernel
theorem dX11_against_29 : decode cX11_against 29 = .ok (.i2l, 1) := by decide +kernel
theorem dX11_against_30 : decode cX11_against 30 = .ok (.aload_n 0, 1) := by decide +kernel
theorem dX11_against_31 : decode cX11_against 31 = .ok (.aload_n 0, 1) := by decide +kernel
theorem dX11_against_32 : decode cX11_against 32 = .ok (.getfield 59, 3) := by decide +kernel
theorem dX11_against_35 : decode cX11_against 35 = .ok (.invokevirtual 114, 3) := by decide +kernel
theorem dX11_against_38 : decode cX11_against 38 = .ok (.ladd, 1) := by decide +kernel
theorem dX11_against_39 : decode cX11_against 39 = .ok (.lcmp, 1) := by decide +kernel
theorem dX11_against_40 : decode cX11_against 40 = .ok (.ifCond .le 7, 3) := by decide +kernel
theorem dX11_against_43 : decode cX11_against 43 = .ok (.iconst 3, 1) := by decide +kernel
theorem dX11_against_44 : decode cX11_against 44 = .ok (.goto 4, 3) := by decide +kernel
theorem dX11_against_47 : decode cX11_against 47 = .ok (.iconst 0, 1) := by decide +kernel
theorem dX11_against_48 : decode cX11_against 48 = .ok (.ireturn, 1) := by decide +kernel
theorem dX11_paysIn_0 : decode cX11_paysIn 0 = .ok (.aload_n 0, 1) := by decide +kernel
theorem dX11_paysIn_1 : decode cX11_paysIn 1 = .ok (.iload_n 1, 1) := by decide +kernel
theorem dX11_paysIn_2 : decode cX11_paysIn 2 = .ok (.invokevirtual 211, 3) := by decide +kernel
theorem dX11_paysIn_5 : decode cX11_paysIn 5 = .ok (.istore_n 2, 1) := by decide +kernel
theorem dX11_paysIn_6 : decode cX11_paysIn 6 = .ok (.iload_n 2, 1) := by decide +kernel
theorem dX11_paysIn_7 : decode cX11_paysIn 7 = .ok (.ifCond .le 9, 3) := by decide +kernel
theorem dX11_paysIn_10 : decode cX11_paysIn 10 = .ok (.aload_n 0, 1) := by decide +kernel
theorem dX11_paysIn_11 : decode cX11_paysIn 11 = .ok (.iload_n 2, 1) := by decide +kernel
theorem dX11_paysIn_12 : decode cX11_paysIn 12 = .ok (.invokevirtual 73, 3) := by decide +kernel
theorem dX11_paysIn_15 : decode cX11_paysIn 15 = .ok (.ireturn, 1) := by decide +kernel
theorem dX11_paysIn_16 : decode cX11_paysIn 16 = .ok (.aload_n 0, 1) := by decide +kernel
theorem dX11_paysIn_17 : decode cX11_paysIn 17 = .ok (.invokevirtual 145, 3) := by decide +kernel
theorem dX11_paysIn_20 : decode cX11_paysIn 20 = .ok (.aload_n 0, 1) := by decide +kernel
theorem dX11_paysIn_21 : decode cX11_paysIn 21 = .ok (.iload_n 1, 1) := by decide +kernel
theorem dX11_paysIn_22 : decode cX11_paysIn 22 = .ok (.invokevirtual 214, 3) := by decide +kernel
theorem dX11_paysIn_25 : decode cX11_paysIn 25 = .ok (.aload_n 0, 1) := by decide +kernel
theorem dX11_paysIn_26 : decode cX11_paysIn 26 = .ok (.invokevirtual 193, 3) := by decide +kernel
theorem dX11_paysIn_29 : decode cX11_paysIn 29 = .ok (.ireturn, 1) := by decide +kernel
theorem dX11_pay_0 : decode cX11_pay 0 = .ok (.aload_n 0, 1) := by decide +kernel
theorem dX11_pay_1 : decode cX11_pay 1 = .ok (.iconst 0, 1) := by decide +kernel
theorem dX11_pay_2 : decode cX11_pay 2 = .ok (.putfield 56, 3) := by decide +kernel
theorem dX11_pay_5 : decode cX11_pay 5 = .ok (.aload_n 0, 1) := by decide +kernel
theorem dX11_pay_6 : decode cX11_pay 6 = .ok (.iload_n 1, 1) := by decide +kernel
theorem dX11_pay_7 : decode cX11_pay 7 = .ok (.invokevirtual 217, 3) := by decide +kernel
theorem dX11_pay_10 : decode cX11_pay 10 = .ok (.ireturn, 1) := by decide +kernel
theorem dX11_waives_0 : decode cX11_waives 0 = .ok (.iload_n 1, 1) := by decide +kernel
theorem dX11_waives_1 : decode cX11_waives 1 = .ok (.iconst 1, 1) := by decide +kernel
theorem dX11_waives_2 : decode cX11_waives 2 = .ok (.if_icmp .ge 7, 3) := by decide +kernel
theorem dX11_waives_5 : decode cX11_waives 5 = .ok (.iconst 1, 1) := by decide +kernel
theorem dX11_waives_6 : decode cX11_waives 6 = .ok (.goto 19, 3) := by decide +kernel
theorem dX11_waives_9 : decode cX11_waives 9 = .ok (.iload_n 1, 1) := by decide +kernel
theorem dX11_waives_10 : decode cX11_waives 10 = .ok (.aload_n 0, 1) := by decide +kernel
theorem dX11_waives_11 : decode cX11_waives 11 = .ok (.getfield 7, 3) := by decide +kernel
theorem dX11_waives_14 : decode cX11_waives 14 = .ok (.bipush 9, 2) := by decide +kernel
theorem dX11_waives_16 : decode cX11_waives 16 = .ok (.iaload, 1) := by decide +kernel
theorem dX11_waives_17 : decode cX11_waives 17 = .ok (.if_icmp .le 7, 3) := by decide +kernel
theorem dX11_waives_20 : decode cX11_waives 20 = .ok (.iconst 2, 1) := by decide +kernel
theorem dX11_waives_21 : decode cX11_waives 21 = .ok (.goto 4, 3) := by decide +kernel
theorem dX11_waives_24 : decode cX11_waives 24 = .ok (.iconst 0, 1) := by decide +kernel
theorem dX11_waives_25 : decode cX11_waives 25 = .ok (.istore_n 2, 1) := by decide +kernel
theorem dX11_waives_26 : decode cX11_waives 26 = .ok (.iload_n 2, 1) := by decide +kernel
theorem dX11_waives_27 : decode cX11_waives 27 = .ok (.ifCond .le 9, 3) := by decide +kernel
theorem dX11_waives_30 : decode cX11_waives 30 = .ok (.aload_n 0, 1) := by decide +kernel
theorem dX11_waives_31 : decode cX11_waives 31 = .ok (.iload_n 2, 1) := by decide +kernel
theorem dX11_waives_32 : decode cX11_waives 32 = .ok (.invokevirtual 73, 3) := by decide +kernel
theorem dX11_waives_35 : decode cX11_waives 35 = .ok (.ireturn, 1) := by decide +kernel
theorem dX11_waives_36 : decode cX11_waives 36 = .ok (.aload_n 0, 1) := by decide +kernel
theorem dX11_waives_37 : decode cX11_waives 37 = .ok (.invokevirtual 145, 3) := by decide +kernel
theorem dX11_waives_40 : decode cX11_waives 40 = .ok (.aload_n 0, 1) := by decide +kernel
theorem dX11_waives_41 : decode cX11_waives 41 = .ok (.getfield 7, 3) := by decide +kernel
theorem dX11_waives_44 : decode cX11_waives 44 = .ok (.bipush 9, 2) := by decide +kernel
theorem dX11_waives_46 : decode cX11_waives 46 = .ok (.dup2, 1) := by decide +kernel
theorem dX11_waives_47 : decode cX11_waives 47 = .ok (.iaload, 1) := by decide +kernel
theorem dX11_waives_48 : decode cX11_waives 48 = .ok (.iload_n 1, 1) := by decide +kernel
theorem dX11_waives_49 : decode cX11_waives 49 = .ok (.isub, 1) := by decide +kernel
theorem dX11_waives_50 : decode cX11_waives 50 = .ok (.iastore, 1) := by decide +kernel
theorem dX11_waives_51 : decode cX11_waives 51 = .ok (.aload_n 0, 1) := by decide +kernel
theorem dX11_waives_52 : decode cX11_waives 52 = .ok (.getfield 7, 3) := by decide +kernel
theorem dX11_waives_55 : decode cX11_waives 55 = .ok (.bipush 26, 2) := by decide +kernel
theorem dX11_waives_57 : decode cX11_waives 57 = .ok (.dup2, 1) := by decide +kernel
theorem dX11_waives_58 : decode cX11_waives 58 = .ok (.iaload, 1) := by decide +kernel
theorem dX11_waives_59 : decode cX11_waives 59 = .ok (.iload_n 1, 1) := by decide +kernel
theorem dX11_waives_60 : decode cX11_waives 60 = .ok (.iadd, 1) := by decide +kernel
theorem dX11_waives_61 : decode cX11_waives 61 = .ok (.iastore, 1) := by decide +kernel
theorem dX11_waives_62 : decode cX11_waives 62 = .ok (.aload_n 0, 1) := by decide +kernel
theorem dX11_waives_63 : decode cX11_waives 63 = .ok (.iconst 5, 1) := by decide +kernel
theorem dX11_waives_64 : decode cX11_waives 64 = .ok (.iload_n 1, 1) := by decide +kernel
theorem dX11_waives_65 : decode cX11_waives 65 = .ok (.invokevirtual 118, 3) := by decide +kernel
theorem dX11_waives_68 : decode cX11_waives 68 = .ok (.aload_n 0, 1) := by decide +kernel
theorem dX11_waives_69 : decode cX11_waives 69 = .ok (.invokevirtual 208, 3) := by decide +kernel
theorem dX11_waives_72 : decode cX11_waives 72 = .ok (.aload_n 0, 1) := by decide +kernel
theorem dX11_waives_73 : decode cX11_waives 73 = .ok (.getfield 7, 3) := by decide +kernel
theorem dX11_waives_76 : decode cX11_waives 76 = .ok (.bipush 9, 2) := by decide +kernel
theorem dX11_waives_78 : decode cX11_waives 78 = .ok (.iaload, 1) := by decide +kernel
theorem dX11_waives_79 : decode cX11_waives 79 = .ok (.ireturn, 1) := by decide +kernel
theorem dX11_waive_0 : decode cX11_waive 0 = .ok (.aload_n 0, 1) := by decide +kernel
theorem dX11_waive_1 : decode cX11_waive 1 = .ok (.iconst 0, 1) := by decide +kernel
theorem dX11_waive_2 : decode cX11_waive 2 = .ok (.putfield 56, 3) := by decide +kernel
theorem dX11_waive_5 : decode cX11_waive 5 = .ok (.aload_n 0, 1) := by decide +kernel
theorem dX11_waive_6 : decode cX11_waive 6 = .ok (.iload_n 1, 1) := by decide +kernel
theorem dX11_waive_7 : decode cX11_waive 7 = .ok (.invokevirtual 220, 3) := by decide +kernel
theorem dX11_waive_10 : decode cX11_waive 10 = .ok (.ireturn, 1) := by decide +kernel
theorem dX11_explain_0 : decode cX11_explain 0 = .ok (.aload_n 0, 1) := by decide +kernel
theorem dX11_explain_1 : decode cX11_explain 1 = .ok (.iload_n 1, 1) := by decide +kernel
theorem dX11_explain_2 : decode cX11_explain 2 = .ok (.iconst 1, 1) := by decide +kernel
theorem dX11_explain_3 : decode cX11_explain 3 = .ok (.if_icmp .lt 12, 3) := by decide +kernel
theorem dX11_explain_6 : decode cX11_explain 6 = .ok (.iload_n 2, 1) := by decide +kernel
theorem dX11_explain_7 : decode cX11_explain 7 = .ok (.iconst 0, 1) := by decide +kernel
theorem dX11_explain_8 : decode cX11_explain 8 = .ok (.iconst 5, 1) := by decide +kernel
theorem dX11_explain_9 : decode cX11_explain 9 = .ok (.invokestatic 95, 3) := by decide +kernel
theorem dX11_explain_12 : decode cX11_explain 12 = .ok (.ifCond .ne 7, 3) := by decide +kernel
theorem dX11_explain_15 : decode cX11_explain 15 = .ok (.iconst 1, 1) := by decide +kernel
theorem dX11_explain_16 : decode cX11_explain 16 = .ok (.goto 8, 3) := by decide +kernel
theorem dX11_explain_19 : decode cX11_explain 19 = .ok (.aload_n 0, 1) := by decide +kernel
theorem dX11_explain_20 : decode cX11_explain 20 = .ok (.iload_n 1, 1) := by decide +kernel
theorem dX11_explain_21 : decode cX11_explain 21 = .ok (.invokevirtual 211, 3) := by decide +kernel
theorem dX11_explain_24 : decode cX11_explain 24 = .ok (.putfield 56, 3) := by decide +kernel
theorem dX11_explain_27 : decode cX11_explain 27 = .ok (.aload_n 0, 1) := by decide +kernel
theorem dX11_explain_28 : decode cX11_explain 28 = .ok (.getfield 56, 3) := by decide +kernel
theorem dX11_explain_31 : decode cX11_explain 31 = .ok (.ifCond .le 5, 3) := by decide +kernel
theorem dX11_explain_34 : decode cX11_explain 34 = .ok (.iconst 0, 1) := by decide +kernel
theorem dX11_explain_35 : decode cX11_explain 35 = .ok (.ireturn, 1) := by decide +kernel
theorem dX11_explain_36 : decode cX11_explain 36 = .ok (.aload_n 0, 1) := by decide +kernel
theorem dX11_explain_37 : decode cX11_explain 37 = .ok (.invokevirtual 223, 3) := by decide +kernel
theorem dX11_explain_40 : decode cX11_explain 40 = .ok (.aload_n 0, 1) := by decide +kernel
theorem dX11_explain_41 : decode cX11_explain 41 = .ok (.iload_n 1, 1) := by decide +kernel
theorem dX11_explain_42 : decode cX11_explain 42 = .ok (.invokevirtual 214, 3) := by decide +kernel
theorem dX11_explain_45 : decode cX11_explain 45 = .ok (.iload_n 2, 1) := by decide +kernel
theorem dX11_explain_46 : decode cX11_explain 46 = .ok (.iconst 4, 1) := by decide +kernel
theorem dX11_explain_47 : decode cX11_explain 47 = .ok (.if_icmp .ge 12, 3) := by decide +kernel
theorem dX11_explain_50 : decode cX11_explain 50 = .ok (.aload_n 0, 1) := by decide +kernel
theorem dX11_explain_51 : decode cX11_explain 51 = .ok (.getfield 29, 3) := by decide +kernel
theorem dX11_explain_54 : decode cX11_explain 54 = .ok (.iload_n 2, 1) := by decide +kernel
theorem dX11_explain_55 : decode cX11_explain 55 = .ok (.iaload, 1) := by decide +kernel
theorem dX11_explain_56 : decode cX11_explain 56 = .ok (.goto 25, 3) := by decide +kernel
theorem dX11_explain_59 : decode cX11_explain 59 = .ok (.iload_n 2, 1) := by decide +kernel
theorem dX11_explain_60 : decode cX11_explain 60 = .ok (.iconst 4, 1) := by decide +kernel
theorem dX11_explain_61 : decode cX11_explain 61 = .ok (.if_icmp .ne 13, 3) := by decide +kernel
theorem dX11_explain_64 : decode cX11_explain 64 = .ok (.aload_n 0, 1) := by decide +kernel
theorem dX11_explain_65 : decode cX11_explain 65 = .ok (.getfield 7, 3) := by decide +kernel
theorem dX11_explain_68 : decode cX11_explain 68 = .ok (.bipush 13, 2) := by decide +kernel
theorem dX11_explain_70 : decode cX11_explain 70 = .ok (.iaload, 1) := by decide +kernel
theorem dX11_explain_71 : decode cX11_explain 71 = .ok (.goto 10, 3) := by decide +kernel
theorem dX11_explain_74 : decode cX11_explain 74 = .ok (.aload_n 0, 1) := by decide +kernel
theorem dX11_explain_75 : decode cX11_explain 75 = .ok (.getfield 7, 3) := by decide +kernel
theorem dX11_explain_78 : decode cX11_explain 78 = .ok (.bipush 12, 2) := by decide +kernel
theorem dX11_explain_80 : decode cX11_explain 80 = .ok (.iaload, 1) := by decide +kernel
theorem dX11_explain_81 : decode cX11_explain 81 = .ok (.istore_n 3, 1) := by decide +kernel
theorem dX11_explain_82 : decode cX11_explain 82 = .ok (.aload_n 0, 1) := by decide +kernel
theorem dX11_explain_83 : decode cX11_explain 83 = .ok (.invokevirtual 226, 3) := by decide +kernel
theorem dX11_explain_86 : decode cX11_explain 86 = .ok (.iload_n 3, 1) := by decide +kernel
theorem dX11_explain_87 : decode cX11_explain 87 = .ok (.ireturn, 1) := by decide +kernel
theorem dX11_unpaid_0 : decode cX11_unpaid 0 = .ok (.iconst 0, 1) := by decide +kernel
theorem dX11_unpaid_1 : decode cX11_unpaid 1 = .ok (.istore_n 1, 1) := by decide +kernel
theorem dX11_unpaid_2 : decode cX11_unpaid 2 = .ok (.iconst 0, 1) := by decide +kernel
theorem dX11_unpaid_3 : decode cX11_unpaid 3 = .ok (.istore_n 2, 1) := by decide +kernel
theorem dX11_unpaid_4 : decode cX11_unpaid 4 = .ok (.iload_n 2, 1) := by decide +kernel
theorem dX11_unpaid_5 : decode cX11_unpaid 5 = .ok (.aload_n 0, 1) := by decide +kernel
theorem dX11_unpaid_6 : decode cX11_unpaid 6 = .ok (.getfield 7, 3) := by decide +kernel
theorem dX11_unpaid_9 : decode cX11_unpaid 9 = .ok (.bipush 28, 2) := by decide +kernel
theorem dX11_unpaid_11 : decode cX11_unpaid 11 = .ok (.iaload, 1) := by decide +kernel
theorem dX11_unpaid_12 : decode cX11_unpaid 12 = .ok (.if_icmp .ge 24, 3) := by decide +kernel
theorem dX11_unpaid_15 : decode cX11_unpaid 15 = .ok (.iload_n 1, 1) := by decide +kernel
theorem dX11_unpaid_16 : decode cX11_unpaid 16 = .ok (.aload_n 0, 1) := by decide +kernel
theorem dX11_unpaid_17 : decode cX11_unpaid 17 = .ok (.getfield 7, 3) := by decide +kernel
theorem dX11_unpaid_20 : decode cX11_unpaid 20 = .ok (.sipush 210, 3) := by decide +kernel
theorem dX11_unpaid_23 : decode cX11_unpaid 23 = .ok (.iconst 3, 1) := by decide +kernel
theorem dX11_unpaid_24 : decode cX11_unpaid 24 = .ok (.iload_n 2, 1) := by decide +kernel
theorem dX11_unpaid_25 : decode cX11_unpaid 25 = .ok (.imul, 1) := by decide +kernel
theorem dX11_unpaid_26 : decode cX11_unpaid 26 = .ok (.iadd, 1) := by decide +kernel
theorem dX11_unpaid_27 : decode cX11_unpaid 27 = .ok (.iaload, 1) := by decide +kernel
theorem dX11_unpaid_28 : decode cX11_unpaid 28 = .ok (.iadd, 1) := by decide +kernel
theorem dX11_unpaid_29 : decode cX11_unpaid 29 = .ok (.istore_n 1, 1) := by decide +kernel
theorem dX11_unpaid_30 : decode cX11_unpaid 30 = .ok (.iinc 2 1, 3) := by decide +kernel
theorem dX11_unpaid_33 : decode cX11_unpaid 33 = .ok (.goto (-29), 3) := by decide +kernel
theorem dX11_unpaid_36 : decode cX11_unpaid 36 = .ok (.iload_n 1, 1) := by decide +kernel
theorem dX11_unpaid_37 : decode cX11_unpaid 37 = .ok (.ireturn, 1) := by decide +kernel
theorem dX11_openBills_0 : decode cX11_openBills 0 = .ok (.iconst 0, 1) := by decide +kernel
theorem dX11_openBills_1 : decode cX11_openBills 1 = .ok (.istore_n 2, 1) := by decide +kernel
theorem dX11_openBills_2 : decode cX11_openBills 2 = .ok (.iconst 0, 1) := by decide +kernel
theorem dX11_openBills_3 : decode cX11_openBills 3 = .ok (.istore_n 3, 1) := by decide +kernel
theorem dX11_openBills_4 : decode cX11_openBills 4 = .ok (.iload_n 3, 1) := by decide +kernel
theorem dX11_openBills_5 : decode cX11_openBills 5 = .ok (.aload_n 0, 1) := by decide +kernel
theorem dX11_openBills_6 : decode cX11_openBills 6 = .ok (.getfield 7, 3) := by decide +kernel
theorem dX11_openBills_9 : decode cX11_openBills 9 = .ok (.bipush 28, 2) := by decide +kernel
theorem dX11_openBills_11 : decode cX11_openBills 11 = .ok (.iaload, 1) := by decide +kernel
theorem dX11_openBills_12 : decode cX11_openBills 12 = .ok (.if_icmp .ge 50, 3) := by decide +kernel
theorem dX11_openBills_15 : decode cX11_openBills 15 = .ok (.iload_n 2, 1) := by decide +kernel
theorem dX11_openBills_16 : decode cX11_openBills 16 = .ok (.aload_n 0, 1) := by decide +kernel
theorem dX11_openBills_17 : decode cX11_openBills 17 = .ok (.getfield 7, 3) := by decide +kernel
theorem dX11_openBills_20 : decode cX11_openBills 20 = .ok (.sipush 210, 3) := by decide +kernel
theorem dX11_openBills_23 : decode cX11_openBills 23 = .ok (.iconst 3, 1) := by decide +kernel
theorem dX11_openBills_24 : decode cX11_openBills 24 = .ok (.iload_n 3, 1) := by decide +kernel
theorem dX11_openBills_25 : decode cX11_openBills 25 = .ok (.imul, 1) := by decide +kernel
theorem dX11_openBills_26 : decode cX11_openBills 26 = .ok (.iadd, 1) := by decide +kernel
theorem dX11_openBills_27 : decode cX11_openBills 27 = .ok (.iaload, 1) := by decide +kernel
theorem dX11_openBills_28 : decode cX11_openBills 28 = .ok (.ifCond .le 25, 3) := by decide +kernel
theorem dX11_openBills_31 : decode cX11_openBills 31 = .ok (.aload_n 0, 1) := by decide +kernel
theorem dX11_openBills_32 : decode cX11_openBills 32 = .ok (.getfield 7, 3) := by decide +kernel
theorem dX11_openBills_35 : decode cX11_openBills 35 = .ok (.sipush 210, 3) := by decide +kernel
theorem dX11_openBills_38 : decode cX11_openBills 38 = .ok (.iconst 3, 1) := by decide +kernel
theorem dX11_openBills_39 : decode cX11_openBills 39 = .ok (.iload_n 3, 1) := by decide +kernel
theorem dX11_openBills_40 : decode cX11_openBills 40 = .ok (.imul, 1) := by decide +kernel
theorem dX11_openBills_41 : decode cX11_openBills 41 = .ok (.iadd, 1) := by decide +kernel
theorem dX11_openBills_42 : decode cX11_openBills 42 = .ok (.iconst 2, 1) := by decide +kernel
theorem dX11_openBills_43 : decode cX11_openBills 43 = .ok (.iadd, 1) := by decide +kernel
theorem dX11_openBills_44 : decode cX11_openBills 44 = .ok (.iaload, 1) := by decide +kernel
theorem dX11_openBills_45 : decode cX11_openBills 45 = .ok (.iload_n 1, 1) := by decide +kernel
theorem dX11_openBills_46 : decode cX11_openBills 46 = .ok (.if_icmp .lt 7, 3) := by decide +kernel
theorem dX11_openBills_49 : decode cX11_openBills 49 = .ok (.iconst 1, 1) := by decide +kernel
theorem dX11_openBills_50 : decode cX11_openBills 50 = .ok (.goto 4, 3) := by decide +kernel
theorem dX11_openBills_53 : decode cX11_openBills 53 = .ok (.iconst 0, 1) := by decide +kernel
theorem dX11_openBills_54 : decode cX11_openBills 54 = .ok (.iadd, 1) := by decide +kernel
theorem dX11_openBills_55 : decode cX11_openBills 55 = .ok (.istore_n 2, 1) := by decide +kernel
theorem dX11_openBills_56 : decode cX11_openBills 56 = .ok (.iinc 3 1, 3) := by decide +kernel
theorem dX11_openBills_59 : decode cX11_openBills 59 = .ok (.goto (-55), 3) := by decide +kernel
theorem dX11_openBills_62 : decode cX11_openBills 62 = .ok (.iload_n 2, 1) := by decide +kernel
theorem dX11_openBills_63 : decode cX11_openBills 63 = .ok (.ireturn, 1) := by decide +kernel
theorem dX11_number_0 : decode cX11_number 0 = .ok (.aload_n 0, 1) := by decide +kernel
theorem dX11_number_1 : decode cX11_number 1 = .ok (.iconst 0, 1) := by decide +kernel
theorem dX11_number_2 : decode cX11_number 2 = .ok (.putfield 56, 3) := by decide +kernel
theorem dX11_number_5 : decode cX11_number 5 = .ok (.iload_n 1, 1) := by decide +kernel
theorem dX11_number_6 : decode cX11_number 6 = .ok (.tableswitch 167 0 9 #[54, 62, 70, 78, 106, 114, 122, 148, 153, 159], 54) := by decide +kernel
theorem dX11_number_60 : decode cX11_number 60 = .ok (.aload_n 0, 1) := by decide +kernel
theorem dX11_number_61 : decode cX11_number 61 = .ok (.getfield 7, 3) := by decide +kernel
theorem dX11_number_64 : decode cX11_number 64 = .ok (.bipush 7, 2) := by decide +kernel
theorem dX11_number_66 : decode cX11_number 66 = .ok (.iaload, 1) := by decide +kernel
theorem dX11_number_67 : decode cX11_number 67 = .ok (.ireturn, 1) := by decide +kernel
theorem dX11_number_68 : decode cX11_number 68 = .ok (.aload_n 0, 1) := by decide +kernel
theorem dX11_number_69 : decode cX11_number 69 = .ok (.getfield 7, 3) := by decide +kernel
theorem dX11_number_72 : decode cX11_number 72 = .ok (.bipush 8, 2) := by decide +kernel
theorem dX11_number_74 : decode cX11_number 74 = .ok (.iaload, 1) := by decide +kernel
theorem dX11_number_75 : decode cX11_number 75 = .ok (.ireturn, 1) := by decide +kernel
theorem dX11_number_76 : decode cX11_number 76 = .ok (.aload_n 0, 1) := by decide +kernel
theorem dX11_number_77 : decode cX11_number 77 = .ok (.getfield 7, 3) := by decide +kernel
theorem dX11_number_80 : decode cX11_number 80 = .ok (.bipush 9, 2) := by decide +kernel
theorem dX11_number_82 : decode cX11_number 82 = .ok (.iaload, 1) := by decide +kernel
theorem dX11_number_83 : decode cX11_number 83 = .ok (.ireturn, 1) := by decide +kernel
theorem dX11_number_84 : decode cX11_number 84 = .ok (.aload_n 0, 1) := by decide +kernel
theorem dX11_number_85 : decode cX11_number 85 = .ok (.getfield 7, 3) := by decide +kernel
theorem dX11_number_88 : decode cX11_number 88 = .ok (.iconst 0, 1) := by decide +kernel
theorem dX11_number_89 : decode cX11_number 89 = .ok (.iaload, 1) := by decide +kernel
theorem dX11_number_90 : decode cX11_number 90 = .ok (.ifCond .ne 7, 3) := by decide +kernel
theorem dX11_number_93 : decode cX11_number 93 = .ok (.iconst 0, 1) := by decide +kernel
theorem dX11_number_94 : decode cX11_number 94 = .ok (.goto 17, 3) := by decide +kernel
theorem dX11_number_97 : decode cX11_number 97 = .ok (.aload_n 0, 1) := by decide +kernel
theorem dX11_number_98 : decode cX11_number 98 = .ok (.invokevirtual 193, 3) := by decide +kernel
theorem dX11_number_101 : decode cX11_number 101 = .ok (.aload_n 0, 1) := by decide +kernel
theorem dX11_number_102 : decode cX11_number 102 = .ok (.aload_n 0, 1) := by decide +kernel
theorem dX11_number_103 : decode cX11_number 103 = .ok (.getfield 59, 3) := by decide +kernel
theorem dX11_number_106 : decode cX11_number 106 = .ok (.invokevirtual 114, 3) := by decide +kernel
theorem dX11_number_109 : decode cX11_number 109 = .ok (.l2i, 1) := by decide +kernel
theorem dX11_number_110 : decode cX11_number 110 = .ok (.iadd, 1) := by decide +kernel
theorem dX11_number_111 : decode cX11_number 111 = .ok (.ireturn, 1) := by decide +kernel
theorem dX11_number_112 : decode cX11_number 112 = .ok (.aload_n 0, 1) := by decide +kernel
theorem dX11_number_113 : decode cX11_number 113 = .ok (.getfield 7, 3) := by decide +kernel
theorem dX11_number_116 : decode cX11_number 116 = .ok (.bipush 12, 2) := by decide +kernel
theorem dX11_number_118 : decode cX11_number 118 = .ok (.iaload, 1) := by decide +kernel
theorem dX11_number_119 : decode cX11_number 119 = .ok (.ireturn, 1) := by decide +kernel
theorem dX11_number_120 : decode cX11_number 120 = .ok (.aload_n 0, 1) := by decide +kernel
theorem dX11_number_121 : decode cX11_number 121 = .ok (.getfield 7, 3) := by decide +kernel
theorem dX11_number_124 : decode cX11_number 124 = .ok (.bipush 13, 2) := by decide +kernel
theorem dX11_number_126 : decode cX11_number 126 = .ok (.iaload, 1) := by decide +kernel
theorem dX11_number_127 : decode cX11_number 127 = .ok (.ireturn, 1) := by decide +kernel
theorem dX11_number_128 : decode cX11_number 128 = .ok (.aload_n 0, 1) := by decide +kernel
theorem dX11_number_129 : decode cX11_number 129 = .ok (.getfield 7, 3) := by decide +kernel
theorem dX11_number_132 : decode cX11_number 132 = .ok (.bipush 13, 2) := by decide +kernel
theorem dX11_number_134 : decode cX11_number 134 = .ok (.iaload, 1) := by decide +kernel
theorem dX11_number_135 : decode cX11_number 135 = .ok (.ifCond .le 17, 3) := by decide +kernel
theorem dX11_number_138 : decode cX11_number 138 = .ok (.aload_n 0, 1) := by decide +kernel
theorem dX11_number_139 : decode cX11_number 139 = .ok (.aload_n 0, 1) := by decide +kernel
theorem dX11_number_140 : decode cX11_number 140 = .ok (.getfield 7, 3) := by decide +kernel
theorem dX11_number_143 : decode cX11_number 143 = .ok (.bipush 14, 2) := by decide +kernel
theorem dX11_number_145 : decode cX11_number 145 = .ok (.iaload, 1) := by decide +kernel
theorem dX11_number_146 : decode cX11_number 146 = .ok (.invokevirtual 139, 3) := by decide +kernel
theorem dX11_number_149 : decode cX11_number 149 = .ok (.goto 4, 3) := by decide +kernel
theorem dX11_number_152 : decode cX11_number 152 = .ok (.iconst (-1), 1) := by decide +kernel
theorem dX11_number_153 : decode cX11_number 153 = .ok (.ireturn, 1) := by decide +kernel
theorem dX11_number_154 : decode cX11_number 154 = .ok (.aload_n 0, 1) := by decide +kernel
theorem dX11_number_155 : decode cX11_number 155 = .ok (.invokevirtual 229, 3) := by decide +kernel
theorem dX11_number_158 : decode cX11_number 158 = .ok (.ireturn, 1) := by decide +kernel
theorem dX11_number_159 : decode cX11_number 159 = .ok (.aload_n 0, 1) := by decide +kernel
theorem dX11_number_160 : decode cX11_number 160 = .ok (.iconst 0, 1) := by decide +kernel
theorem dX11_number_161 : decode cX11_number 161 = .ok (.invokevirtual 232, 3) := by decide +kernel
theorem dX11_number_164 : decode cX11_number 164 = .ok (.ireturn, 1) := by decide +kernel
theorem dX11_number_165 : decode cX11_number 165 = .ok (.aload_n 0, 1) := by decide +kernel
theorem dX11_number_166 : decode cX11_number 166 = .ok (.getfield 7, 3) := by decide +kernel
theorem dX11_number_169 : decode cX11_number 169 = .ok (.bipush 10, 2) := by decide +kernel
theorem dX11_number_171 : decode cX11_number 171 = .ok (.iaload, 1) := by decide +kernel
theorem dX11_number_172 : decode cX11_number 172 = .ok (.ireturn, 1) := by decide +kernel
theorem dX11_number_173 : decode cX11_number 173 = .ok (.aload_n 0, 1) := by decide +kernel
theorem dX11_number_174 : decode cX11_number 174 = .ok (.iconst 1, 1) := by decide +kernel
theorem dX11_number_175 : decode cX11_number 175 = .ok (.invokevirtual 73, 3) := by decide +kernel
theorem dX11_number_178 : decode cX11_number 178 = .ok (.ireturn, 1) := by decide +kernel
theorem dX11_accruedUnits_0 : decode cX11_accruedUnits 0 = .ok (.aload_n 0, 1) := by decide +kernel
theorem dX11_accruedUnits_1 : decode cX11_accruedUnits 1 = .ok (.iconst 0, 1) := by decide +kernel
theorem dX11_accruedUnits_2 : decode cX11_accruedUnits 2 = .ok (.putfield 56, 3) := by decide +kernel
theorem dX11_accruedUnits_5 : decode cX11_accruedUnits 5 = .ok (.aload_n 0, 1) := by decide +kernel
theorem dX11_accruedUnits_6 : decode cX11_accruedUnits 6 = .ok (.getfield 59, 3) := by decide +kernel
theorem dX11_accruedUnits_9 : decode cX11_accruedUnits 9 = .ok (.lreturn, 1) := by decide +kernel
theorem dX11_total_0 : decode cX11_total 0 = .ok (.aload_n 0, 1) := by decide +kernel
theorem dX11_total_1 : decode cX11_total 1 = .ok (.iload_n 1, 1) := by decide +kernel
theorem dX11_total_2 : decode cX11_total 2 = .ok (.iconst 0, 1) := by decide +kernel
theorem dX11_total_3 : decode cX11_total 3 = .ok (.bipush 7, 2) := by decide +kernel
theorem dX11_total_5 : decode cX11_total 5 = .ok (.invokestatic 95, 3) := by decide +kernel
theorem dX11_total_8 : decode cX11_total 8 = .ok (.ifCond .eq 7, 3) := by decide +kernel
theorem dX11_total_11 : decode cX11_total 11 = .ok (.iconst 0, 1) := by decide +kernel
theorem dX11_total_12 : decode cX11_total 12 = .ok (.goto 4, 3) := by decide +kernel
theorem dX11_total_15 : decode cX11_total 15 = .ok (.iconst 1, 1) := by decide +kernel
theorem dX11_total_16 : decode cX11_total 16 = .ok (.putfield 56, 3) := by decide +kernel
theorem dX11_total_19 : decode cX11_total 19 = .ok (.aload_n 0, 1) := by decide +kernel
theorem dX11_total_20 : decode cX11_total 20 = .ok (.getfield 56, 3) := by decide +kernel
theorem dX11_total_23 : decode cX11_total 23 = .ok (.ifCond .le 7, 3) := by decide +kernel
theorem dX11_total_26 : decode cX11_total 26 = .ok (.iconst 0, 1) := by decide +kernel
theorem dX11_total_27 : decode cX11_total 27 = .ok (.goto 12, 3) := by decide +kernel
theorem dX11_total_30 : decode cX11_total 30 = .ok (.aload_n 0, 1) := by decide +kernel
theorem dX11_total_31 : decode cX11_total 31 = .ok (.getfield 7, 3) := by decide +kernel
theorem dX11_total_34 : decode cX11_total 34 = .ok (.bipush 20, 2) := by decide +kernel
theorem dX11_total_36 : decode cX11_total 36 = .ok (.iload_n 1, 1) := by decide +kernel
theorem dX11_total_37 : decode cX11_total 37 = .ok (.iadd, 1) := by decide +kernel
theorem dX11_total_38 : decode cX11_total 38 = .ok (.iaload, 1) := by decide +kernel
theorem dX11_total_39 : decode cX11_total 39 = .ok (.ireturn, 1) := by decide +kernel
theorem dX11_condition_0 : decode cX11_condition 0 = .ok (.aload_n 0, 1) := by decide +kernel
theorem dX11_condition_1 : decode cX11_condition 1 = .ok (.iconst 0, 1) := by decide +kernel
theorem dX11_condition_2 : decode cX11_condition 2 = .ok (.putfield 56, 3) := by decide +kernel
theorem dX11_condition_5 : decode cX11_condition 5 = .ok (.aload_n 0, 1) := by decide +kernel
theorem dX11_condition_6 : decode cX11_condition 6 = .ok (.getfield 7, 3) := by decide +kernel
theorem dX11_condition_9 : decode cX11_condition 9 = .ok (.iconst 0, 1) := by decide +kernel
theorem dX11_condition_10 : decode cX11_condition 10 = .ok (.iaload, 1) := by decide +kernel
theorem dX11_condition_11 : decode cX11_condition 11 = .ok (.ifCond .ne 5, 3) := by decide +kernel
theorem dX11_condition_14 : decode cX11_condition 14 = .ok (.iconst 0, 1) := by decide +kernel
theorem dX11_condition_15 : decode cX11_condition 15 = .ok (.ireturn, 1) := by decide +kernel
theorem dX11_condition_16 : decode cX11_condition 16 = .ok (.aload_n 0, 1) := by decide +kernel
theorem dX11_condition_17 : decode cX11_condition 17 = .ok (.iconst 1, 1) := by decide +kernel
theorem dX11_condition_18 : decode cX11_condition 18 = .ok (.invokevirtual 232, 3) := by decide +kernel
theorem dX11_condition_21 : decode cX11_condition 21 = .ok (.ifCond .le 7, 3) := by decide +kernel
theorem dX11_condition_24 : decode cX11_condition 24 = .ok (.iconst 2, 1) := by decide +kernel
theorem dX11_condition_25 : decode cX11_condition 25 = .ok (.goto 32, 3) := by decide +kernel
theorem dX11_condition_28 : decode cX11_condition 28 = .ok (.aload_n 0, 1) := by decide +kernel
theorem dX11_condition_29 : decode cX11_condition 29 = .ok (.getfield 7, 3) := by decide +kernel
theorem dX11_condition_32 : decode cX11_condition 32 = .ok (.iconst 0, 1) := by decide +kernel
theorem dX11_condition_33 : decode cX11_condition 33 = .ok (.iaload, 1) := by decide +kernel
theorem dX11_condition_34 : decode cX11_condition 34 = .ok (.iconst 2, 1) := by decide +kernel
theorem dX11_condition_35 : decode cX11_condition 35 = .ok (.if_icmp .ne 7, 3) := by decide +kernel
theorem dX11_condition_38 : decode cX11_condition 38 = .ok (.iconst 4, 1) := by decide +kernel
theorem dX11_condition_39 : decode cX11_condition 39 = .ok (.goto 18, 3) := by decide +kernel
theorem dX11_condition_42 : decode cX11_condition 42 = .ok (.aload_n 0, 1) := by decide +kernel
theorem dX11_condition_43 : decode cX11_condition 43 = .ok (.getfield 7, 3) := by decide +kernel
theorem dX11_condition_46 : decode cX11_condition 46 = .ok (.bipush 13, 2) := by decide +kernel
theorem dX11_condition_48 : decode cX11_condition 48 = .ok (.iaload, 1) := by decide +kernel
theorem dX11_condition_49 : decode cX11_condition 49 = .ok (.ifCond .le 7, 3) := by decide +kernel
theorem dX11_condition_52 : decode cX11_condition 52 = .ok (.iconst 1, 1) := by decide +kernel
theorem dX11_condition_53 : decode cX11_condition 53 = .ok (.goto 4, 3) := by decide +kernel
theorem dX11_condition_56 : decode cX11_condition 56 = .ok (.iconst 3, 1) := by decide +kernel
theorem dX11_condition_57 : decode cX11_condition 57 = .ok (.ireturn, 1) := by decide +kernel
theorem dX11_interestShare_0 : decode cX11_interestShare 0 = .ok (.aload_n 0, 1) := by decide +kernel
theorem dX11_interestShare_1 : decode cX11_interestShare 1 = .ok (.aload_n 0, 1) := by decide +kernel
theorem dX11_interestShare_2 : decode cX11_interestShare 2 = .ok (.getfield 7, 3) := by decide +kernel
theorem dX11_interestShare_5 : decode cX11_interestShare 5 = .ok (.bipush 20, 2) := by decide +kernel
theorem dX11_interestShare_7 : decode cX11_interestShare 7 = .ok (.iaload, 1) := by decide +kernel
theorem dX11_interestShare_8 : decode cX11_interestShare 8 = .ok (.ifCond .ne 7, 3) := by decide +kernel
theorem dX11_interestShare_11 : decode cX11_interestShare 11 = .ok (.iconst 1, 1) := by decide +kernel
theorem dX11_interestShare_12 : decode cX11_interestShare 12 = .ok (.goto 4, 3) := by decide +kernel
theorem dX11_interestShare_15 : decode cX11_interestShare 15 = .ok (.iconst 0, 1) := by decide +kernel
theorem dX11_interestShare_16 : decode cX11_interestShare 16 = .ok (.putfield 56, 3) := by decide +kernel
theorem dX11_interestShare_19 : decode cX11_interestShare 19 = .ok (.aload_n 0, 1) := by decide +kernel
theorem dX11_interestShare_20 : decode cX11_interestShare 20 = .ok (.getfield 56, 3) := by decide +kernel
theorem dX11_interestShare_23 : decode cX11_interestShare 23 = .ok (.ifCond .le 7, 3) := by decide +kernel
theorem dX11_interestShare_26 : decode cX11_interestShare 26 = .ok (.dconst 0, 1) := by decide +kernel
theorem dX11_interestShare_27 : decode cX11_interestShare 27 = .ok (.goto 20, 3) := by decide +kernel
theorem dX11_interestShare_30 : decode cX11_interestShare 30 = .ok (.aload_n 0, 1) := by decide +kernel
theorem dX11_interestShare_31 : decode cX11_interestShare 31 = .ok (.getfield 7, 3) := by decide +kernel
theorem dX11_interestShare_34 : decode cX11_interestShare 34 = .ok (.bipush 22, 2) := by decide +kernel
theorem dX11_interestShare_36 : decode cX11_interestShare 36 = .ok (.iaload, 1) := by decide +kernel
theorem dX11_interestShare_37 : decode cX11_interestShare 37 = .ok (.i2d, 1) := by decide +kernel
theorem dX11_interestShare_38 : decode cX11_interestShare 38 = .ok (.aload_n 0, 1) := by decide +kernel
theorem dX11_interestShare_39 : decode cX11_interestShare 39 = .ok (.getfield 7, 3) := by decide +kernel
theorem dX11_interestShare_42 : decode cX11_interestShare 42 = .ok (.bipush 20, 2) := by decide +kernel
theorem dX11_interestShare_44 : decode cX11_interestShare 44 = .ok (.iaload, 1) := by decide +kernel
theorem dX11_interestShare_45 : decode cX11_interestShare 45 = .ok (.i2d, 1) := by decide +kernel
theorem dX11_interestShare_46 : decode cX11_interestShare 46 = .ok (.ddiv, 1) := by decide +kernel
theorem dX11_interestShare_47 : decode cX11_interestShare 47 = .ok (.dreturn, 1) := by decide +kernel
theorem dX11_progress_0 : decode cX11_progress 0 = .ok (.aload_n 0, 1) := by decide +kernel
theorem dX11_progress_1 : decode cX11_progress 1 = .ok (.aload_n 0, 1) := by decide +kernel
theorem dX11_progress_2 : decode cX11_progress 2 = .ok (.getfield 7, 3) := by decide +kernel
theorem dX11_progress_5 : decode cX11_progress 5 = .ok (.iconst 0, 1) := by decide +kernel
theorem dX11_progress_6 : decode cX11_progress 6 = .ok (.iaload, 1) := by decide +kernel
theorem dX11_progress_7 : decode cX11_progress 7 = .ok (.ifCond .ne 7, 3) := by decide +kernel
theorem dX11_progress_10 : decode cX11_progress 10 = .ok (.iconst 1, 1) := by decide +kernel
theorem dX11_progress_11 : decode cX11_progress 11 = .ok (.goto 4, 3) := by decide +kernel
theorem dX11_progress_14 : decode cX11_progress 14 = .ok (.iconst 0, 1) := by decide +kernel
theorem dX11_progress_15 : decode cX11_progress 15 = .ok (.putfield 56, 3) := by decide +kernel
theorem dX11_progress_18 : decode cX11_progress 18 = .ok (.aload_n 0, 1) := by decide +kernel
theorem dX11_progress_19 : decode cX11_progress 19 = .ok (.getfield 56, 3) := by decide +kernel
theorem dX11_progress_22 : decode cX11_progress 22 = .ok (.ifCond .le 7, 3) := by decide +kernel
theorem dX11_progress_25 : decode cX11_progress 25 = .ok (.fconst 0, 1) := by decide +kernel
theorem dX11_progress_26 : decode cX11_progress 26 = .ok (.goto 28, 3) := by decide +kernel
theorem dX11_progress_29 : decode cX11_progress 29 = .ok (.aload_n 0, 1) := by decide +kernel
theorem dX11_progress_30 : decode cX11_progress 30 = .ok (.getfield 7, 3) := by decide +kernel
theorem dX11_progress_33 : decode cX11_progress 33 = .ok (.bipush 23, 2) := by decide +kernel
theorem dX11_progress_35 : decode cX11_progress 35 = .ok (.iaload, 1) := by decide +kernel
theorem dX11_progress_36 : decode cX11_progress 36 = .ok (.i2f, 1) := by decide +kernel
theorem dX11_progress_37 : decode cX11_progress 37 = .ok (.aload_n 0, 1) := by decide +kernel
theorem dX11_progress_38 : decode cX11_progress 38 = .ok (.getfield 7, 3) := by decide +kernel
theorem dX11_progress_41 : decode cX11_progress 41 = .ok (.bipush 16, 2) := by decide +kernel
theorem dX11_progress_43 : decode cX11_progress 43 = .ok (.iaload, 1) := by decide +kernel
theorem dX11_progress_44 : decode cX11_progress 44 = .ok (.aload_n 0, 1) := by decide +kernel
theorem dX11_progress_45 : decode cX11_progress 45 = .ok (.getfield 7, 3) := by decide +kernel
theorem dX11_progress_48 : decode cX11_progress 48 = .ok (.bipush 27, 2) := by decide +kernel
theorem dX11_progress_50 : decode cX11_progress 50 = .ok (.iaload, 1) := by decide +kernel
theorem dX11_progress_51 : decode cX11_progress 51 = .ok (.iadd, 1) := by decide +kernel
theorem dX11_progress_52 : decode cX11_progress 52 = .ok (.i2f, 1) := by decide +kernel
theorem dX11_progress_53 : decode cX11_progress 53 = .ok (.fdiv, 1) := by decide +kernel
theorem dX11_progress_54 : decode cX11_progress 54 = .ok (.freturn, 1) := by decide +kernel
theorem dX11_append_0 : decode cX11_append 0 = .ok (.aload_n 0, 1) := by decide +kernel
theorem dX11_append_1 : decode cX11_append 1 = .ok (.iload_n 1, 1) := by decide +kernel
theorem dX11_append_2 : decode cX11_append 2 = .ok (.bipush 32, 2) := by decide +kernel
theorem dX11_append_4 : decode cX11_append 4 = .ok (.bipush 126, 2) := by decide +kernel
theorem dX11_append_6 : decode cX11_append 6 = .ok (.invokestatic 95, 3) := by decide +kernel
theorem dX11_append_9 : decode cX11_append 9 = .ok (.ifCond .eq 20, 3) := by decide +kernel
theorem dX11_append_12 : decode cX11_append 12 = .ok (.aload_n 0, 1) := by decide +kernel
theorem dX11_append_13 : decode cX11_append 13 = .ok (.getfield 235, 3) := by decide +kernel
theorem dX11_append_16 : decode cX11_append 16 = .ok (.bipush 60, 2) := by decide +kernel
theorem dX11_append_18 : decode cX11_append 18 = .ok (.if_icmp .ne 7, 3) := by decide +kernel
theorem dX11_append_21 : decode cX11_append 21 = .ok (.iconst 2, 1) := by decide +kernel
theorem dX11_append_22 : decode cX11_append 22 = .ok (.goto 8, 3) := by decide +kernel
theorem dX11_append_25 : decode cX11_append 25 = .ok (.iconst 0, 1) := by decide +kernel
theorem dX11_append_26 : decode cX11_append 26 = .ok (.goto 4, 3) := by decide +kernel
theorem dX11_append_29 : decode cX11_append 29 = .ok (.iconst 1, 1) := by decide +kernel
theorem dX11_append_30 : decode cX11_append 30 = .ok (.putfield 56, 3) := by decide +kernel
theorem dX11_append_33 : decode cX11_append 33 = .ok (.aload_n 0, 1) := by decide +kernel
theorem dX11_append_34 : decode cX11_append 34 = .ok (.getfield 56, 3) := by decide +kernel
theorem dX11_append_37 : decode cX11_append 37 = .ok (.ifCond .le 5, 3) := by decide +kernel
theorem dX11_append_40 : decode cX11_append 40 = .ok (.iconst 0, 1) := by decide +kernel
theorem dX11_append_41 : decode cX11_append 41 = .ok (.ireturn, 1) := by decide +kernel
theorem dX11_append_42 : decode cX11_append 42 = .ok (.aload_n 0, 1) := by decide +kernel
theorem dX11_append_43 : decode cX11_append 43 = .ok (.getfield 32, 3) := by decide +kernel
theorem dX11_append_46 : decode cX11_append 46 = .ok (.aload_n 0, 1) := by decide +kernel
theorem dX11_append_47 : decode cX11_append 47 = .ok (.getfield 235, 3) := by decide +kernel
theorem dX11_append_50 : decode cX11_append 50 = .ok (.iload_n 1, 1) := by decide +kernel
theorem dX11_append_51 : decode cX11_append 51 = .ok (.iastore, 1) := by decide +kernel
theorem dX11_append_52 : decode cX11_append 52 = .ok (.aload_n 0, 1) := by decide +kernel
theorem dX11_append_53 : decode cX11_append 53 = .ok (.dup, 1) := by decide +kernel
theorem dX11_append_54 : decode cX11_append 54 = .ok (.getfield 235, 3) := by decide +kernel
theorem dX11_append_57 : decode cX11_append 57 = .ok (.iconst 1, 1) := by decide +kernel
theorem dX11_append_58 : decode cX11_append 58 = .ok (.iadd, 1) := by decide +kernel
theorem dX11_append_59 : decode cX11_append 59 = .ok (.putfield 235, 3) := by decide +kernel
theorem dX11_append_62 : decode cX11_append 62 = .ok (.aload_n 0, 1) := by decide +kernel
theorem dX11_append_63 : decode cX11_append 63 = .ok (.getfield 235, 3) := by decide +kernel
theorem dX11_append_66 : decode cX11_append 66 = .ok (.ireturn, 1) := by decide +kernel
theorem dX11_here_0 : decode cX11_here 0 = .ok (.aload_n 0, 1) := by decide +kernel
theorem dX11_here_1 : decode cX11_here 1 = .ok (.getfield 238, 3) := by decide +kernel
theorem dX11_here_4 : decode cX11_here 4 = .ok (.aload_n 0, 1) := by decide +kernel
theorem dX11_here_5 : decode cX11_here 5 = .ok (.getfield 235, 3) := by decide +kernel
theorem dX11_here_8 : decode cX11_here 8 = .ok (.if_icmp .ge 15, 3) := by decide +kernel
theorem dX11_here_11 : decode cX11_here 11 = .ok (.aload_n 0, 1) := by decide +kernel
theorem dX11_here_12 : decode cX11_here 12 = .ok (.getfield 32, 3) := by decide +kernel
theorem dX11_here_15 : decode cX11_here 15 = .ok (.aload_n 0, 1) := by decide +kernel
theorem dX11_here_16 : decode cX11_here 16 = .ok (.getfield 238, 3) := by decide +kernel
theorem dX11_here_19 : decode cX11_here 19 = .ok (.iaload, 1) := by decide +kernel
theorem dX11_here_20 : decode cX11_here 20 = .ok (.goto 4, 3) := by decide +kernel
theorem dX11_here_23 : decode cX11_here 23 = .ok (.iconst (-1), 1) := by decide +kernel
theorem dX11_here_24 : decode cX11_here 24 = .ok (.ireturn, 1) := by decide +kernel
theorem dX11_commandHere_0 : decode cX11_commandHere 0 = .ok (.aload_n 0, 1) := by decide +kernel
theorem dX11_commandHere_1 : decode cX11_commandHere 1 = .ok (.invokevirtual 241, 3) := by decide +kernel
theorem dX11_commandHere_4 : decode cX11_commandHere 4 = .ok (.istore_n 1, 1) := by decide +kernel
theorem dX11_commandHere_5 : decode cX11_commandHere 5 = .ok (.iload_n 1, 1) := by decide +kernel
theorem dX11_commandHere_6 : decode cX11_commandHere 6 = .ok (.bipush 112, 2) := by decide +kernel
theorem dX11_commandHere_8 : decode cX11_commandHere 8 = .ok (.if_icmp .eq 29, 3) := by decide +kernel
theorem dX11_commandHere_11 : decode cX11_commandHere 11 = .ok (.iload_n 1, 1) := by decide +kernel
theorem dX11_commandHere_12 : decode cX11_commandHere 12 = .ok (.bipush 100, 2) := by decide +kernel
theorem dX11_commandHere_14 : decode cX11_commandHere 14 = .ok (.if_icmp .eq 23, 3) := by decide +kernel
theorem dX11_commandHere_17 : decode cX11_commandHere 17 = .ok (.iload_n 1, 1) := by decide +kernel
theorem dX11_commandHere_18 : decode cX11_commandHere 18 = .ok (.bipush 114, 2) := by decide +kernel
theorem dX11_commandHere_20 : decode cX11_commandHere 20 = .ok (.if_icmp .eq 17, 3) := by decide +kernel
theorem dX11_commandHere_23 : decode cX11_commandHere 23 = .ok (.iload_n 1, 1) := by decide +kernel
theorem dX11_commandHere_24 : decode cX11_commandHere 24 = .ok (.bipush 104, 2) := by decide +kernel
theorem dX11_commandHere_26 : decode cX11_commandHere 26 = .ok (.if_icmp .eq 11, 3) := by decide +kernel
theorem dX11_commandHere_29 : decode cX11_commandHere 29 = .ok (.iload_n 1, 1) := by decide +kernel
theorem dX11_commandHere_30 : decode cX11_commandHere 30 = .ok (.bipush 119, 2) := by decide +kernel
theorem dX11_commandHere_32 : decode cX11_commandHere 32 = .ok (.if_icmp .eq 5, 3) := by decide +kernel
theorem dX11_commandHere_35 : decode cX11_commandHere 35 = .ok (.iconst 0, 1) := by decide +kernel
theorem dX11_commandHere_36 : decode cX11_commandHere 36 = .ok (.ireturn, 1) := by decide +kernel
theorem dX11_commandHere_37 : decode cX11_commandHere 37 = .ok (.aload_n 0, 1) := by decide +kernel
theorem dX11_commandHere_38 : decode cX11_commandHere 38 = .ok (.dup, 1) := by decide +kernel
theorem dX11_commandHere_39 : decode cX11_commandHere 39 = .ok (.getfield 238, 3) := by decide +kernel
theorem dX11_commandHere_42 : decode cX11_commandHere 42 = .ok (.iconst 1, 1) := by decide +kernel
theorem dX11_commandHere_43 : decode cX11_commandHere 43 = .ok (.iadd, 1) := by decide +kernel
theorem dX11_commandHere_44 : decode cX11_commandHere 44 = .ok (.putfield 238, 3) := by decide +kernel
theorem dX11_commandHere_47 : decode cX11_commandHere 47 = .ok (.aload_n 0, 1) := by decide +kernel
theorem dX11_commandHere_48 : decode cX11_commandHere 48 = .ok (.invokevirtual 241, 3) := by decide +kernel
theorem dX11_commandHere_51 : decode cX11_commandHere 51 = .ok (.bipush 48, 2) := by decide +kernel
theorem dX11_commandHere_53 : decode cX11_commandHere 53 = .ok (.bipush 57, 2) := by decide +kernel
theorem dX11_commandHere_55 : decode cX11_commandHere 55 = .ok (.invokestatic 95, 3) := by decide +kernel
theorem dX11_commandHere_58 : decode cX11_commandHere 58 = .ok (.ifCond .ne 5, 3) := by decide +kernel
theorem dX11_commandHere_61 : decode cX11_commandHere 61 = .ok (.iconst 0, 1) := by decide +kernel
theorem dX11_commandHere_62 : decode cX11_commandHere 62 = .ok (.ireturn, 1) := by decide +kernel
theorem dX11_commandHere_63 : decode cX11_commandHere 63 = .ok (.aload_n 0, 1) := by decide +kernel
theorem dX11_commandHere_64 : decode cX11_commandHere 64 = .ok (.invokevirtual 241, 3) := by decide +kernel
theorem dX11_commandHere_67 : decode cX11_commandHere 67 = .ok (.bipush 48, 2) := by decide +kernel
theorem dX11_commandHere_69 : decode cX11_commandHere 69 = .ok (.isub, 1) := by decide +kernel
theorem dX11_commandHere_70 : decode cX11_commandHere 70 = .ok (.istore_n 2, 1) := by decide +kernel
theorem dX11_commandHere_71 : decode cX11_commandHere 71 = .ok (.aload_n 0, 1) := by decide +kernel
theorem dX11_commandHere_72 : decode cX11_commandHere 72 = .ok (.dup, 1) := by decide +kernel
theorem dX11_commandHere_73 : decode cX11_commandHere 73 = .ok (.getfield 238, 3) := by decide +kernel
theorem dX11_commandHere_76 : decode cX11_commandHere 76 = .ok (.iconst 1, 1) := by decide +kernel
theorem dX11_commandHere_77 : decode cX11_commandHere 77 = .ok (.iadd, 1) := by decide +kernel
theorem dX11_commandHere_78 : decode cX11_commandHere 78 = .ok (.putfield 238, 3) := by decide +kernel
theorem dX11_commandHere_81 : decode cX11_commandHere 81 = .ok (.iconst 1, 1) := by decide +kernel
theorem dX11_commandHere_82 : decode cX11_commandHere 82 = .ok (.istore_n 3, 1) := by decide +kernel
theorem dX11_commandHere_83 : decode cX11_commandHere 83 = .ok (.iload_n 3, 1) := by decide +kernel
theorem dX11_commandHere_84 : decode cX11_commandHere 84 = .ok (.bipush 8, 2) := by decide +kernel
theorem dX11_commandHere_86 : decode cX11_commandHere 86 = .ok (.if_icmp .ge 50, 3) := by decide +kernel
theorem dX11_commandHere_89 : decode cX11_commandHere 89 = .ok (.iload_n 2, 1) := by decide +kernel
theorem dX11_commandHere_90 : decode cX11_commandHere 90 = .ok (.ifCond .le 46, 3) := by decide +kernel
theorem dX11_commandHere_93 : decode cX11_commandHere 93 = .ok (.aload_n 0, 1) := by decide +kernel
theorem dX11_commandHere_94 : decode cX11_commandHere 94 = .ok (.invokevirtual 241, 3) := by decide +kernel
theorem dX11_commandHere_97 : decode cX11_commandHere 97 = .ok (.bipush 48, 2) := by decide +kernel
theorem dX11_commandHere_99 : decode cX11_commandHere 99 = .ok (.bipush 57, 2) := by decide +kernel
theorem dX11_commandHere_101 : decode cX11_commandHere 101 = .ok (.invokestatic 95, 3) := by decide +kernel
theorem dX11_commandHere_104 : decode cX11_commandHere 104 = .ok (.ifCond .eq 32, 3) := by decide +kernel
theorem dX11_commandHere_107 : decode cX11_commandHere 107 = .ok (.bipush 10, 2) := by decide +kernel
theorem dX11_commandHere_109 : decode cX11_commandHere 109 = .ok (.iload_n 2, 1) := by decide +kernel
theorem dX11_commandHere_110 : decode cX11_commandHere 110 = .ok (.imul, 1) := by decide +kernel
theorem dX11_commandHere_111 : decode cX11_commandHere 111 = .ok (.aload_n 0, 1) := by decide +kernel
theorem dX11_commandHere_112 : decode cX11_commandHere 112 = .ok (.invokevirtual 241, 3) := by decide +kernel
theorem dX11_commandHere_115 : decode cX11_commandHere 115 = .ok (.iadd, 1) := by decide +kernel
theorem dX11_commandHere_116 : decode cX11_commandHere 116 = .ok (.bipush 48, 2) := by decide +kernel
theorem dX11_commandHere_118 : decode cX11_commandHere 118 = .ok (.isub, 1) := by decide +kernel
theorem dX11_commandHere_119 : decode cX11_commandHere 119 = .ok (.istore_n 2, 1) := by decide +kernel
theorem dX11_commandHere_120 : decode cX11_commandHere 120 = .ok (.aload_n 0, 1) := by decide +kernel
theorem dX11_commandHere_121 : decode cX11_commandHere 121 = .ok (.dup, 1) := by decide +kernel
theorem dX11_commandHere_122 : decode cX11_commandHere 122 = .ok (.getfield 238, 3) := by decide +kernel
theorem dX11_commandHere_125 : decode cX11_commandHere 125 = .ok (.iconst 1, 1) := by decide +kernel
theorem dX11_commandHere_126 : decode cX11_commandHere 126 = .ok (.iadd, 1) := by decide +kernel
theorem dX11_commandHere_127 : decode cX11_commandHere 127 = .ok (.putfield 238, 3) := by decide +kernel
theorem dX11_commandHere_130 : decode cX11_commandHere 130 = .ok (.iinc 3 1, 3) := by decide +kernel
theorem dX11_commandHere_133 : decode cX11_commandHere 133 = .ok (.goto (-50), 3) := by decide +kernel
theorem dX11_commandHere_136 : decode cX11_commandHere 136 = .ok (.aload_n 0, 1) := by decide +kernel
theorem dX11_commandHere_137 : decode cX11_commandHere 137 = .ok (.getfield 42, 3) := by decide +kernel
theorem dX11_commandHere_140 : decode cX11_commandHere 140 = .ok (.iconst 2, 1) := by decide +kernel
theorem dX11_commandHere_141 : decode cX11_commandHere 141 = .ok (.aload_n 0, 1) := by decide +kernel
theorem dX11_commandHere_142 : decode cX11_commandHere 142 = .ok (.getfield 244, 3) := by decide +kernel
theorem dX11_commandHere_145 : decode cX11_commandHere 145 = .ok (.imul, 1) := by decide +kernel
theorem dX11_commandHere_146 : decode cX11_commandHere 146 = .ok (.iload_n 1, 1) := by decide +kernel
theorem dX11_commandHere_147 : decode cX11_commandHere 147 = .ok (.iastore, 1) := by decide +kernel
theorem dX11_commandHere_148 : decode cX11_commandHere 148 = .ok (.aload_n 0, 1) := by decide +kernel
theorem dX11_commandHere_149 : decode cX11_commandHere 149 = .ok (.getfield 42, 3) := by decide +kernel
theorem dX11_commandHere_152 : decode cX11_commandHere 152 = .ok (.iconst 2, 1) := by decide +kernel
theorem dX11_commandHere_153 : decode cX11_commandHere 153 = .ok (.aload_n 0, 1) := by decide +kernel
theorem dX11_commandHere_154 : decode cX11_commandHere 154 = .ok (.getfield 244, 3) := by decide +kernel
theorem dX11_commandHere_157 : decode cX11_commandHere 157 = .ok (.imul, 1) := by decide +kernel
theorem dX11_commandHere_158 : decode cX11_commandHere 158 = .ok (.iconst 1, 1) := by decide +kernel
theorem dX11_commandHere_159 : decode cX11_commandHere 159 = .ok (.iadd, 1) := by decide +kernel
theorem dX11_commandHere_160 : decode cX11_commandHere 160 = .ok (.iload_n 2, 1) := by decide +kernel
theorem dX11_commandHere_161 : decode cX11_commandHere 161 = .ok (.iastore, 1) := by decide +kernel
theorem dX11_commandHere_162 : decode cX11_commandHere 162 = .ok (.aload_n 0, 1) := by decide +kernel
theorem dX11_commandHere_163 : decode cX11_commandHere 163 = .ok (.dup, 1) := by decide +kernel
theorem dX11_commandHere_164 : decode cX11_commandHere 164 = .ok (.getfield 244, 3) := by decide +kernel
theorem dX11_commandHere_167 : decode cX11_commandHere 167 = .ok (.iconst 1, 1) := by decide +kernel
theorem dX11_commandHere_168 : decode cX11_commandHere 168 = .ok (.iadd, 1) := by decide +kernel
theorem dX11_commandHere_169 : decode cX11_commandHere 169 = .ok (.putfield 244, 3) := by decide +kernel
theorem dX11_commandHere_172 : decode cX11_commandHere 172 = .ok (.iconst 1, 1) := by decide +kernel
theorem dX11_commandHere_173 : decode cX11_commandHere 173 = .ok (.ireturn, 1) := by decide +kernel
theorem dX11_isText_0 : decode cX11_isText 0 = .ok (.aload_n 0, 1) := by decide +kernel
theorem dX11_isText_1 : decode cX11_isText 1 = .ok (.iconst 0, 1) := by decide +kernel
theorem dX11_isText_2 : decode cX11_isText 2 = .ok (.putfield 238, 3) := by decide +kernel
theorem dX11_isText_5 : decode cX11_isText 5 = .ok (.aload_n 0, 1) := by decide +kernel
theorem dX11_isText_6 : decode cX11_isText 6 = .ok (.iconst 0, 1) := by decide +kernel
theorem dX11_isText_7 : decode cX11_isText 7 = .ok (.putfield 244, 3) := by decide +kernel
theorem dX11_isText_10 : decode cX11_isText 10 = .ok (.aload_n 0, 1) := by decide +kernel
theorem dX11_isText_11 : decode cX11_isText 11 = .ok (.invokevirtual 247, 3) := by decide +kernel
theorem dX11_isText_14 : decode cX11_isText 14 = .ok (.ifCond .eq 40, 3) := by decide +kernel
theorem dX11_isText_17 : decode cX11_isText 17 = .ok (.aload_n 0, 1) := by decide +kernel
theorem dX11_isText_18 : decode cX11_isText 18 = .ok (.getfield 238, 3) := by decide +kernel
theorem dX11_isText_21 : decode cX11_isText 21 = .ok (.aload_n 0, 1) := by decide +kernel
theorem dX11_isText_22 : decode cX11_isText 22 = .ok (.getfield 235, 3) := by decide +kernel
theorem dX11_isText_25 : decode cX11_isText 25 = .ok (.if_icmp .ne 5, 3) := by decide +kernel
theorem dX11_isText_28 : decode cX11_isText 28 = .ok (.iconst 1, 1) := by decide +kernel
theorem dX11_isText_29 : decode cX11_isText 29 = .ok (.ireturn, 1) := by decide +kernel
theorem dX11_isText_30 : decode cX11_isText 30 = .ok (.aload_n 0, 1) := by decide +kernel
theorem dX11_isText_31 : decode cX11_isText 31 = .ok (.invokevirtual 241, 3) := by decide +kernel
theorem dX11_isText_34 : decode cX11_isText 34 = .ok (.bipush 59, 2) := by decide +kernel
theorem dX11_isText_36 : decode cX11_isText 36 = .ok (.if_icmp .eq 5, 3) := by decide +kernel
theorem dX11_isText_39 : decode cX11_isText 39 = .ok (.iconst 0, 1) := by decide +kernel
theorem dX11_isText_40 : decode cX11_isText 40 = .ok (.ireturn, 1) := by decide +kernel
theorem dX11_isText_41 : decode cX11_isText 41 = .ok (.aload_n 0, 1) := by decide +kernel
theorem dX11_isText_42 : decode cX11_isText 42 = .ok (.dup, 1) := by decide +kernel
theorem dX11_isText_43 : decode cX11_isText 43 = .ok (.getfield 238, 3) := by decide +kernel
theorem dX11_isText_46 : decode cX11_isText 46 = .ok (.iconst 1, 1) := by decide +kernel
theorem dX11_isText_47 : decode cX11_isText 47 = .ok (.iadd, 1) := by decide +kernel
theorem dX11_isText_48 : decode cX11_isText 48 = .ok (.putfield 238, 3) := by decide +kernel
theorem dX11_isText_51 : decode cX11_isText 51 = .ok (.goto (-41), 3) := by decide +kernel
theorem dX11_isText_54 : decode cX11_isText 54 = .ok (.iconst 0, 1) := by decide +kernel
theorem dX11_isText_55 : decode cX11_isText 55 = .ok (.ireturn, 1) := by decide +kernel
theorem dX11_execute_0 : decode cX11_execute 0 = .ok (.aload_n 0, 1) := by decide +kernel
theorem dX11_execute_1 : decode cX11_execute 1 = .ok (.iconst 0, 1) := by decide +kernel
theorem dX11_execute_2 : decode cX11_execute 2 = .ok (.putfield 56, 3) := by decide +kernel
theorem dX11_execute_5 : decode cX11_execute 5 = .ok (.aload_n 0, 1) := by decide +kernel
theorem dX11_execute_6 : decode cX11_execute 6 = .ok (.invokevirtual 251, 3) := by decide +kernel
theorem dX11_execute_9 : decode cX11_execute 9 = .ok (.istore_n 1, 1) := by decide +kernel
theorem dX11_execute_10 : decode cX11_execute 10 = .ok (.aload_n 0, 1) := by decide +kernel
theorem dX11_execute_11 : decode cX11_execute 11 = .ok (.iconst 0, 1) := by decide +kernel
theorem dX11_execute_12 : decode cX11_execute 12 = .ok (.putfield 235, 3) := by decide +kernel
theorem dX11_execute_15 : decode cX11_execute 15 = .ok (.iload_n 1, 1) := by decide +kernel
theorem dX11_execute_16 : decode cX11_execute 16 = .ok (.ifCond .ne 17, 3) := by decide +kernel
theorem dX11_execute_19 : decode cX11_execute 19 = .ok (.aload_n 0, 1) := by decide +kernel
theorem dX11_execute_20 : decode cX11_execute 20 = .ok (.aload_n 0, 1) := by decide +kernel
theorem dX11_execute_21 : decode cX11_execute 21 = .ok (.getfield 238, 3) := by decide +kernel
theorem dX11_execute_24 : decode cX11_execute 24 = .ok (.putfield 35, 3) := by decide +kernel
theorem dX11_execute_27 : decode cX11_execute 27 = .ok (.aload_n 0, 1) := by decide +kernel
theorem dX11_execute_28 : decode cX11_execute 28 = .ok (.iconst 1, 1) := by decide +kernel
theorem dX11_execute_29 : decode cX11_execute 29 = .ok (.invokevirtual 73, 3) := by decide +kernel
theorem dX11_execute_32 : decode cX11_execute 32 = .ok (.ireturn, 1) := by decide +kernel
theorem dX11_execute_33 : decode cX11_execute 33 = .ok (.aload_n 0, 1) := by decide +kernel
theorem dX11_execute_34 : decode cX11_execute 34 = .ok (.invokevirtual 223, 3) := by decide +kernel
theorem dX11_execute_37 : decode cX11_execute 37 = .ok (.aload_n 0, 1) := by decide +kernel
theorem dX11_execute_38 : decode cX11_execute 38 = .ok (.iconst 1, 1) := by decide +kernel
theorem dX11_execute_39 : decode cX11_execute 39 = .ok (.putfield 66, 3) := by decide +kernel
theorem dX11_execute_42 : decode cX11_execute 42 = .ok (.iconst 0, 1) := by decide +kernel
theorem dX11_execute_43 : decode cX11_execute 43 = .ok (.istore_n 2, 1) := by decide +kernel
theorem dX11_execute_44 : decode cX11_execute 44 = .ok (.iconst 0, 1) := by decide +kernel
theorem dX11_execute_45 : decode cX11_execute 45 = .ok (.istore_n 3, 1) := by decide +kernel
theorem dX11_execute_46 : decode cX11_execute 46 = .ok (.iload_n 3, 1) := by decide +kernel
theorem dX11_execute_47 : decode cX11_execute 47 = .ok (.aload_n 0, 1) := by decide +kernel
theorem dX11_execute_48 : decode cX11_execute 48 = .ok (.getfield 244, 3) := by decide +kernel
theorem dX11_execute_51 : decode cX11_execute 51 = .ok (.if_icmp .ge 40, 3) := by decide +kernel
theorem dX11_execute_54 : decode cX11_execute 54 = .ok (.iload_n 2, 1) := by decide +kernel
theorem dX11_execute_55 : decode cX11_execute 55 = .ok (.ifCond .ne 36, 3) := by decide +kernel
theorem dX11_execute_58 : decode cX11_execute 58 = .ok (.aload_n 0, 1) := by decide +kernel
theorem dX11_execute_59 : decode cX11_execute 59 = .ok (.aload_n 0, 1) := by decide +kernel
theorem dX11_execute_60 : decode cX11_execute 60 = .ok (.getfield 42, 3) := by decide +kernel
theorem dX11_execute_63 : decode cX11_execute 63 = .ok (.iconst 2, 1) := by decide +kernel
theorem dX11_execute_64 : decode cX11_execute 64 = .ok (.iload_n 3, 1) := by decide +kernel
theorem dX11_execute_65 : decode cX11_execute 65 = .ok (.imul, 1) := by decide +kernel
theorem dX11_execute_66 : decode cX11_execute 66 = .ok (.iaload, 1) := by decide +kernel
theorem dX11_execute_67 : decode cX11_execute 67 = .ok (.aload_n 0, 1) := by decide +kernel
theorem dX11_execute_68 : decode cX11_execute 68 = .ok (.getfield 42, 3) := by decide +kernel
theorem dX11_execute_71 : decode cX11_execute 71 = .ok (.iconst 2, 1) := by decide +kernel
theorem dX11_execute_72 : decode cX11_execute 72 = .ok (.iload_n 3, 1) := by decide +kernel
theorem dX11_execute_73 : decode cX11_execute 73 = .ok (.imul, 1) := by decide +kernel
theorem dX11_execute_74 : decode cX11_execute 74 = .ok (.iconst 1, 1) := by decide +kernel
theorem dX11_execute_75 : decode cX11_execute 75 = .ok (.iadd, 1) := by decide +kernel
theorem dX11_execute_76 : decode cX11_execute 76 = .ok (.iaload, 1) := by decide +kernel
theorem dX11_execute_77 : decode cX11_execute 77 = .ok (.invokevirtual 254, 3) := by decide +kernel
theorem dX11_execute_80 : decode cX11_execute 80 = .ok (.aload_n 0, 1) := by decide +kernel
theorem dX11_execute_81 : decode cX11_execute 81 = .ok (.getfield 56, 3) := by decide +kernel
theorem dX11_execute_84 : decode cX11_execute 84 = .ok (.istore_n 2, 1) := by decide +kernel
theorem dX11_execute_85 : decode cX11_execute 85 = .ok (.iinc 3 1, 3) := by decide +kernel
theorem dX11_execute_88 : decode cX11_execute 88 = .ok (.goto (-42), 3) := by decide +kernel
theorem dX11_execute_91 : decode cX11_execute 91 = .ok (.aload_n 0, 1) := by decide +kernel
theorem dX11_execute_92 : decode cX11_execute 92 = .ok (.iconst 0, 1) := by decide +kernel
theorem dX11_execute_93 : decode cX11_execute 93 = .ok (.putfield 66, 3) := by decide +kernel
theorem dX11_execute_96 : decode cX11_execute 96 = .ok (.iload_n 2, 1) := by decide +kernel
theorem dX11_execute_97 : decode cX11_execute 97 = .ok (.ifCond .le 25, 3) := by decide +kernel
theorem dX11_execute_100 : decode cX11_execute 100 = .ok (.aload_n 0, 1) := by decide +kernel
theorem dX11_execute_101 : decode cX11_execute 101 = .ok (.invokevirtual 226, 3) := by decide +kernel
theorem dX11_execute_104 : decode cX11_execute 104 = .ok (.aload_n 0, 1) := by decide +kernel
theorem dX11_execute_105 : decode cX11_execute 105 = .ok (.iload_n 3, 1) := by decide +kernel
theorem dX11_execute_106 : decode cX11_execute 106 = .ok (.iconst 1, 1) := by decide +kernel
theorem dX11_execute_107 : decode cX11_execute 107 = .ok (.isub, 1) := by decide +kernel
theorem dX11_execute_108 : decode cX11_execute 108 = .ok (.putfield 39, 3) := by decide +kernel
theorem dX11_execute_111 : decode cX11_execute 111 = .ok (.aload_n 0, 1) := by decide +kernel
theorem dX11_execute_112 : decode cX11_execute 112 = .ok (.iload_n 2, 1) := by decide +kernel
theorem dX11_execute_113 : decode cX11_execute 113 = .ok (.putfield 257, 3) := by decide +kernel
theorem dX11_execute_116 : decode cX11_execute 116 = .ok (.aload_n 0, 1) := by decide +kernel
theorem dX11_execute_117 : decode cX11_execute 117 = .ok (.iconst 2, 1) := by decide +kernel
theorem dX11_execute_118 : decode cX11_execute 118 = .ok (.invokevirtual 73, 3) := by decide +kernel
theorem dX11_execute_121 : decode cX11_execute 121 = .ok (.ireturn, 1) := by decide +kernel
theorem dX11_execute_122 : decode cX11_execute 122 = .ok (.aload_n 0, 1) := by decide +kernel
theorem dX11_execute_123 : decode cX11_execute 123 = .ok (.invokevirtual 260, 3) := by decide +kernel
theorem dX11_execute_126 : decode cX11_execute 126 = .ok (.aload_n 0, 1) := by decide +kernel
theorem dX11_execute_127 : decode cX11_execute 127 = .ok (.iconst 0, 1) := by decide +kernel
theorem dX11_execute_128 : decode cX11_execute 128 = .ok (.putfield 56, 3) := by decide +kernel
theorem dX11_execute_131 : decode cX11_execute 131 = .ok (.aload_n 0, 1) := by decide +kernel
theorem dX11_execute_132 : decode cX11_execute 132 = .ok (.getfield 244, 3) := by decide +kernel
theorem dX11_execute_135 : decode cX11_execute 135 = .ok (.ireturn, 1) := by decide +kernel
theorem dX11_errorPosition_0 : decode cX11_errorPosition 0 = .ok (.aload_n 0, 1) := by decide +kernel
theorem dX11_errorPosition_1 : decode cX11_errorPosition 1 = .ok (.aload_n 0, 1) := by decide +kernel
theorem dX11_errorPosition_2 : decode cX11_errorPosition 2 = .ok (.getfield 35, 3) := by decide +kernel
theorem dX11_errorPosition_5 : decode cX11_errorPosition 5 = .ok (.ifCond .ge 7, 3) := by decide +kernel
theorem dX11_errorPosition_8 : decode cX11_errorPosition 8 = .ok (.iconst 1, 1) := by decide +kernel
theorem dX11_errorPosition_9 : decode cX11_errorPosition 9 = .ok (.goto 4, 3) := by decide +kernel
theorem dX11_errorPosition_12 : decode cX11_errorPosition 12 = .ok (.iconst 0, 1) := by decide +kernel
theorem dX11_errorPosition_13 : decode cX11_errorPosition 13 = .ok (.putfield 56, 3) := by decide +kernel
theorem dX11_errorPosition_16 : decode cX11_errorPosition 16 = .ok (.aload_n 0, 1) := by decide +kernel
theorem dX11_errorPosition_17 : decode cX11_errorPosition 17 = .ok (.getfield 56, 3) := by decide +kernel
theorem dX11_errorPosition_20 : decode cX11_errorPosition 20 = .ok (.ifCond .le 7, 3) := by decide +kernel
theorem dX11_errorPosition_23 : decode cX11_errorPosition 23 = .ok (.iconst 0, 1) := by decide +kernel
theorem dX11_errorPosition_24 : decode cX11_errorPosition 24 = .ok (.goto 7, 3) := by decide +kernel
theorem dX11_errorPosition_27 : decode cX11_errorPosition 27 = .ok (.aload_n 0, 1) := by decide +kernel
theorem dX11_errorPosition_28 : decode cX11_errorPosition 28 = .ok (.getfield 35, 3) := by decide +kernel
theorem dX11_errorPosition_31 : decode cX11_errorPosition 31 = .ok (.ireturn, 1) := by decide +kernel
theorem dX11_refusedCommand_0 : decode cX11_refusedCommand 0 = .ok (.aload_n 0, 1) := by decide +kernel
theorem dX11_refusedCommand_1 : decode cX11_refusedCommand 1 = .ok (.aload_n 0, 1) := by decide +kernel
theorem dX11_refusedCommand_2 : decode cX11_refusedCommand 2 = .ok (.getfield 39, 3) := by decide +kernel
theorem dX11_refusedCommand_5 : decode cX11_refusedCommand 5 = .ok (.ifCond .ge 7, 3) := by decide +kernel
theorem dX11_refusedCommand_8 : decode cX11_refusedCommand 8 = .ok (.iconst 1, 1) := by decide +kernel
theorem dX11_refusedCommand_9 : decode cX11_refusedCommand 9 = .ok (.goto 4, 3) := by decide +kernel
theorem dX11_refusedCommand_12 : decode cX11_refusedCommand 12 = .ok (.iconst 0, 1) := by decide +kernel
theorem dX11_refusedCommand_13 : decode cX11_refusedCommand 13 = .ok (.putfield 56, 3) := by decide +kernel
theorem dX11_refusedCommand_16 : decode cX11_refusedCommand 16 = .ok (.aload_n 0, 1) := by decide +kernel
theorem dX11_refusedCommand_17 : decode cX11_refusedCommand 17 = .ok (.getfield 56, 3) := by decide +kernel
theorem dX11_refusedCommand_20 : decode cX11_refusedCommand 20 = .ok (.ifCond .le 7, 3) := by decide +kernel
theorem dX11_refusedCommand_23 : decode cX11_refusedCommand 23 = .ok (.iconst 0, 1) := by decide +kernel
theorem dX11_refusedCommand_24 : decode cX11_refusedCommand 24 = .ok (.goto 18, 3) := by decide +kernel
theorem dX11_refusedCommand_27 : decode cX11_refusedCommand 27 = .ok (.iload_n 1, 1) := by decide +kernel
theorem dX11_refusedCommand_28 : decode cX11_refusedCommand 28 = .ok (.ifCond .eq 10, 3) := by decide +kernel
theorem dX11_refusedCommand_31 : decode cX11_refusedCommand 31 = .ok (.aload_n 0, 1) := by decide +kernel
theorem dX11_refusedCommand_32 : decode cX11_refusedCommand 32 = .ok (.getfield 257, 3) := by decide +kernel
theorem dX11_refusedCommand_35 : decode cX11_refusedCommand 35 = .ok (.goto 7, 3) := by decide +kernel
theorem dX11_refusedCommand_38 : decode cX11_refusedCommand 38 = .ok (.aload_n 0, 1) := by decide +kernel
theorem dX11_refusedCommand_39 : decode cX11_refusedCommand 39 = .ok (.getfield 39, 3) := by decide +kernel
theorem dX11_refusedCommand_42 : decode cX11_refusedCommand 42 = .ok (.ireturn, 1) := by decide +kernel
theorem dX11_ledgerSize_0 : decode cX11_ledgerSize 0 = .ok (.aload_n 0, 1) := by decide +kernel
theorem dX11_ledgerSize_1 : decode cX11_ledgerSize 1 = .ok (.iconst 0, 1) := by decide +kernel
theorem dX11_ledgerSize_2 : decode cX11_ledgerSize 2 = .ok (.putfield 56, 3) := by decide +kernel
theorem dX11_ledgerSize_5 : decode cX11_ledgerSize 5 = .ok (.aload_n 0, 1) := by decide +kernel
theorem dX11_ledgerSize_6 : decode cX11_ledgerSize 6 = .ok (.getfield 7, 3) := by decide +kernel
theorem dX11_ledgerSize_9 : decode cX11_ledgerSize 9 = .ok (.bipush 29, 2) := by decide +kernel
theorem dX11_ledgerSize_11 : decode cX11_ledgerSize 11 = .ok (.iaload, 1) := by decide +kernel
theorem dX11_ledgerSize_12 : decode cX11_ledgerSize 12 = .ok (.ireturn, 1) := by decide +kernel
theorem dX11_ledger_0 : decode cX11_ledger 0 = .ok (.aload_n 0, 1) := by decide +kernel
theorem dX11_ledger_1 : decode cX11_ledger 1 = .ok (.iload_n 1, 1) := by decide +kernel
theorem dX11_ledger_2 : decode cX11_ledger 2 = .ok (.iconst 0, 1) := by decide +kernel
theorem dX11_ledger_3 : decode cX11_ledger 3 = .ok (.aload_n 0, 1) := by decide +kernel
theorem dX11_ledger_4 : decode cX11_ledger 4 = .ok (.getfield 7, 3) := by decide +kernel
theorem dX11_ledger_7 : decode cX11_ledger 7 = .ok (.bipush 29, 2) := by decide +kernel
theorem dX11_ledger_9 : decode cX11_ledger 9 = .ok (.iaload, 1) := by decide +kernel
theorem dX11_ledger_10 : decode cX11_ledger 10 = .ok (.iconst 1, 1) := by decide +kernel
theorem dX11_ledger_11 : decode cX11_ledger 11 = .ok (.isub, 1) := by decide +kernel
theorem dX11_ledger_12 : decode cX11_ledger 12 = .ok (.invokestatic 95, 3) := by decide +kernel
theorem dX11_ledger_15 : decode cX11_ledger 15 = .ok (.ifCond .eq 16, 3) := by decide +kernel
theorem dX11_ledger_18 : decode cX11_ledger 18 = .ok (.iload_n 2, 1) := by decide +kernel
theorem dX11_ledger_19 : decode cX11_ledger 19 = .ok (.iconst 0, 1) := by decide +kernel
theorem dX11_ledger_20 : decode cX11_ledger 20 = .ok (.iconst 2, 1) := by decide +kernel
theorem dX11_ledger_21 : decode cX11_ledger 21 = .ok (.invokestatic 95, 3) := by decide +kernel
theorem dX11_ledger_24 : decode cX11_ledger 24 = .ok (.ifCond .eq 7, 3) := by decide +kernel
theorem dX11_ledger_27 : decode cX11_ledger 27 = .ok (.iconst 0, 1) := by decide +kernel
theorem dX11_ledger_28 : decode cX11_ledger 28 = .ok (.goto 4, 3) := by decide +kernel
theorem dX11_ledger_31 : decode cX11_ledger 31 = .ok (.iconst 1, 1) := by decide +kernel
theorem dX11_ledger_32 : decode cX11_ledger 32 = .ok (.putfield 56, 3) := by decide +kernel
theorem dX11_ledger_35 : decode cX11_ledger 35 = .ok (.aload_n 0, 1) := by decide +kernel
theorem dX11_ledger_36 : decode cX11_ledger 36 = .ok (.getfield 56, 3) := by decide +kernel
theorem dX11_ledger_39 : decode cX11_ledger 39 = .ok (.ifCond .le 7, 3) := by decide +kernel
theorem dX11_ledger_42 : decode cX11_ledger 42 = .ok (.iconst 0, 1) := by decide +kernel
theorem dX11_ledger_43 : decode cX11_ledger 43 = .ok (.goto 16, 3) := by decide +kernel
theorem dX11_ledger_46 : decode cX11_ledger 46 = .ok (.aload_n 0, 1) := by decide +kernel
theorem dX11_ledger_47 : decode cX11_ledger 47 = .ok (.getfield 7, 3) := by decide +kernel
theorem dX11_ledger_50 : decode cX11_ledger 50 = .ok (.bipush 30, 2) := by decide +kernel
theorem dX11_ledger_52 : decode cX11_ledger 52 = .ok (.iconst 3, 1) := by decide +kernel
theorem dX11_ledger_53 : decode cX11_ledger 53 = .ok (.iload_n 1, 1) := by decide +kernel
theorem dX11_ledger_54 : decode cX11_ledger 54 = .ok (.imul, 1) := by decide +kernel
theorem dX11_ledger_55 : decode cX11_ledger 55 = .ok (.iadd, 1) := by decide +kernel
theorem dX11_ledger_56 : decode cX11_ledger 56 = .ok (.iload_n 2, 1) := by decide +kernel
theorem dX11_ledger_57 : decode cX11_ledger 57 = .ok (.iadd, 1) := by decide +kernel
theorem dX11_ledger_58 : decode cX11_ledger 58 = .ok (.iaload, 1) := by decide +kernel
theorem dX11_ledger_59 : decode cX11_ledger 59 = .ok (.ireturn, 1) := by decide +kernel
theorem dX11_isConfirmed_0 : decode cX11_isConfirmed 0 = .ok (.aload_n 0, 1) := by decide +kernel
theorem dX11_isConfirmed_1 : decode cX11_isConfirmed 1 = .ok (.iconst 0, 1) := by decide +kernel
theorem dX11_isConfirmed_2 : decode cX11_isConfirmed 2 = .ok (.putfield 56, 3) := by decide +kernel
theorem dX11_isConfirmed_5 : decode cX11_isConfirmed 5 = .ok (.iconst 1, 1) := by decide +kernel
theorem dX11_isConfirmed_6 : decode cX11_isConfirmed 6 = .ok (.ireturn, 1) := by decide +kernel
theorem dX11_isRow_0 : decode cX11_isRow 0 = .ok (.iload_n 0, 1) := by decide +kernel
theorem dX11_isRow_1 : decode cX11_isRow 1 = .ok (.iconst 0, 1) := by decide +kernel
theorem dX11_isRow_2 : decode cX11_isRow 2 = .ok (.iconst 1, 1) := by decide +kernel
theorem dX11_isRow_3 : decode cX11_isRow 3 = .ok (.invokestatic 95, 3) := by decide +kernel
theorem dX11_isRow_6 : decode cX11_isRow 6 = .ok (.ireturn, 1) := by decide +kernel
theorem dX11_storeSchedule_0 : decode cX11_storeSchedule 0 = .ok (.aload_n 0, 1) := by decide +kernel
theorem dX11_storeSchedule_1 : decode cX11_storeSchedule 1 = .ok (.iload_n 1, 1) := by decide +kernel
theorem dX11_storeSchedule_2 : decode cX11_storeSchedule 2 = .ok (.invokestatic 263, 3) := by decide +kernel
theorem dX11_storeSchedule_5 : decode cX11_storeSchedule 5 = .ok (.ifCond .eq 7, 3) := by decide +kernel
theorem dX11_storeSchedule_8 : decode cX11_storeSchedule 8 = .ok (.iconst 0, 1) := by decide +kernel
theorem dX11_storeSchedule_9 : decode cX11_storeSchedule 9 = .ok (.goto 4, 3) := by decide +kernel
theorem dX11_storeSchedule_12 : decode cX11_storeSchedule 12 = .ok (.iconst 1, 1) := by decide +kernel
theorem dX11_storeSchedule_13 : decode cX11_storeSchedule 13 = .ok (.putfield 56, 3) := by decide +kernel
theorem dX11_storeSchedule_16 : decode cX11_storeSchedule 16 = .ok (.aload_n 0, 1) := by decide +kernel
theorem dX11_storeSchedule_17 : decode cX11_storeSchedule 17 = .ok (.getfield 56, 3) := by decide +kernel
theorem dX11_storeSchedule_20 : decode cX11_storeSchedule 20 = .ok (.ifCond .le 5, 3) := by decide +kernel
theorem dX11_storeSchedule_23 : decode cX11_storeSchedule 23 = .ok (.iconst 0, 1) := by decide +kernel
theorem dX11_storeSchedule_24 : decode cX11_storeSchedule 24 = .ok (.ireturn, 1) := by decide +kernel
theorem dX11_storeSchedule_25 : decode cX11_storeSchedule 25 = .ok (.aload_n 0, 1) := by decide +kernel
theorem dX11_storeSchedule_26 : decode cX11_storeSchedule 26 = .ok (.invokevirtual 175, 3) := by decide +kernel
theorem dX11_storeSchedule_29 : decode cX11_storeSchedule 29 = .ok (.pop, 1) := by decide +kernel
theorem dX11_storeSchedule_30 : decode cX11_storeSchedule 30 = .ok (.aload_n 0, 1) := by decide +kernel
theorem dX11_storeSchedule_31 : decode cX11_storeSchedule 31 = .ok (.getfield 49, 3) := by decide +kernel
theorem dX11_storeSchedule_34 : decode cX11_storeSchedule 34 = .ok (.iload_n 1, 1) := by decide +kernel
theorem dX11_storeSchedule_35 : decode cX11_storeSchedule 35 = .ok (.aload_n 0, 1) := by decide +kernel
theorem dX11_storeSchedule_36 : decode cX11_storeSchedule 36 = .ok (.getfield 163, 3) := by decide +kernel
theorem dX11_storeSchedule_39 : decode cX11_storeSchedule 39 = .ok (.iastore, 1) := by decide +kernel
theorem dX11_storeSchedule_40 : decode cX11_storeSchedule 40 = .ok (.aload_n 0, 1) := by decide +kernel
theorem dX11_storeSchedule_41 : decode cX11_storeSchedule 41 = .ok (.getfield 52, 3) := by decide +kernel
theorem dX11_storeSchedule_44 : decode cX11_storeSchedule 44 = .ok (.iload_n 1, 1) := by decide +kernel
theorem dX11_storeSchedule_45 : decode cX11_storeSchedule 45 = .ok (.iload_n 2, 1) := by decide +kernel
theorem dX11_storeSchedule_46 : decode cX11_storeSchedule 46 = .ok (.ifCond .ne 7, 3) := by decide +kernel
theorem dX11_storeSchedule_49 : decode cX11_storeSchedule 49 = .ok (.iconst 1, 1) := by decide +kernel
theorem dX11_storeSchedule_50 : decode cX11_storeSchedule 50 = .ok (.goto 4, 3) := by decide +kernel
theorem dX11_storeSchedule_53 : decode cX11_storeSchedule 53 = .ok (.iconst 0, 1) := by decide +kernel
theorem dX11_storeSchedule_54 : decode cX11_storeSchedule 54 = .ok (.bastore, 1) := by decide +kernel
theorem dX11_storeSchedule_55 : decode cX11_storeSchedule 55 = .ok (.iconst 0, 1) := by decide +kernel
theorem dX11_storeSchedule_56 : decode cX11_storeSchedule 56 = .ok (.istore_n 3, 1) := by decide +kernel
theorem dX11_storeSchedule_57 : decode cX11_storeSchedule 57 = .ok (.iload_n 3, 1) := by decide +kernel
theorem dX11_storeSchedule_58 : decode cX11_storeSchedule 58 = .ok (.aload_n 0, 1) := by decide +kernel
theorem dX11_storeSchedule_59 : decode cX11_storeSchedule 59 = .ok (.getfield 163, 3) := by decide +kernel
theorem dX11_storeSchedule_62 : decode cX11_storeSchedule 62 = .ok (.if_icmp .ge 50, 3) := by decide +kernel
theorem dX11_storeSchedule_65 : decode cX11_storeSchedule 65 = .ok (.aload_n 0, 1) := by decide +kernel
theorem dX11_storeSchedule_66 : decode cX11_storeSchedule 66 = .ok (.getfield 26, 3) := by decide +kernel
theorem dX11_storeSchedule_69 : decode cX11_storeSchedule 69 = .ok (.iconst 5, 1) := by decide +kernel
theorem dX11_storeSchedule_70 : decode cX11_storeSchedule 70 = .ok (.iload_n 3, 1) := by decide +kernel
theorem dX11_storeSchedule_71 : decode cX11_storeSchedule 71 = .ok (.imul, 1) := by decide +kernel
theorem dX11_storeSchedule_72 : decode cX11_storeSchedule 72 = .ok (.iconst 4, 1) := by decide +kernel
theorem dX11_storeSchedule_73 : decode cX11_storeSchedule 73 = .ok (.iadd, 1) := by decide +kernel
theorem dX11_storeSchedule_74 : decode cX11_storeSchedule 74 = .ok (.iaload, 1) := by decide +kernel
theorem dX11_storeSchedule_75 : decode cX11_storeSchedule 75 = .ok (.istore 4, 2) := by decide +kernel
theorem dX11_storeSchedule_77 : decode cX11_storeSchedule 77 = .ok (.aload_n 0, 1) := by decide +kernel
theorem dX11_storeSchedule_78 : decode cX11_storeSchedule 78 = .ok (.getfield 45, 3) := by decide +kernel
theorem dX11_storeSchedule_81 : decode cX11_storeSchedule 81 = .ok (.bipush 60, 2) := by decide +kernel
theorem dX11_storeSchedule_83 : decode cX11_storeSchedule 83 = .ok (.iload_n 1, 1) := by decide +kernel
theorem dX11_storeSchedule_84 : decode cX11_storeSchedule 84 = .ok (.imul, 1) := by decide +kernel
theorem dX11_storeSchedule_85 : decode cX11_storeSchedule 85 = .ok (.iload_n 3, 1) := by decide +kernel
theorem dX11_storeSchedule_86 : decode cX11_storeSchedule 86 = .ok (.iadd, 1) := by decide +kernel
theorem dX11_storeSchedule_87 : decode cX11_storeSchedule 87 = .ok (.iload_n 2, 1) := by decide +kernel
theorem dX11_storeSchedule_88 : decode cX11_storeSchedule 88 = .ok (.ifCond .eq 9, 3) := by decide +kernel
theorem dX11_storeSchedule_91 : decode cX11_storeSchedule 91 = .ok (.iload 4, 2) := by decide +kernel
theorem dX11_storeSchedule_93 : decode cX11_storeSchedule 93 = .ok (.i2d, 1) := by decide +kernel
theorem dX11_storeSchedule_94 : decode cX11_storeSchedule 94 = .ok (.goto 11, 3) := by decide +kernel
theorem dX11_storeSchedule_97 : decode cX11_storeSchedule 97 = .ok (.iload 4, 2) := by decide +kernel
theorem dX11_storeSchedule_99 : decode cX11_storeSchedule 99 = .ok (.i2f, 1) := by decide +kernel
theorem dX11_storeSchedule_100 : decode cX11_storeSchedule 100 = .ok (.ldc_w 267, 3) := by decide +kernel
theorem dX11_storeSchedule_103 : decode cX11_storeSchedule 103 = .ok (.fdiv, 1) := by decide +kernel
theorem dX11_storeSchedule_104 : decode cX11_storeSchedule 104 = .ok (.f2d, 1) := by decide +kernel
theorem dX11_storeSchedule_105 : decode cX11_storeSchedule 105 = .ok (.dastore, 1) := by decide +kernel
theorem dX11_storeSchedule_106 : decode cX11_storeSchedule 106 = .ok (.iinc 3 1, 3) := by decide +kernel
theorem dX11_storeSchedule_109 : decode cX11_storeSchedule 109 = .ok (.goto (-52), 3) := by decide +kernel
theorem dX11_storeSchedule_112 : decode cX11_storeSchedule 112 = .ok (.aload_n 0, 1) := by decide +kernel
theorem dX11_storeSchedule_113 : decode cX11_storeSchedule 113 = .ok (.getfield 163, 3) := by decide +kernel
theorem dX11_storeSchedule_116 : decode cX11_storeSchedule 116 = .ok (.ireturn, 1) := by decide +kernel
theorem dX11_copyRow_0 : decode cX11_copyRow 0 = .ok (.iconst 1, 1) := by decide +kernel
theorem dX11_copyRow_1 : decode cX11_copyRow 1 = .ok (.iload_n 1, 1) := by decide +kernel
theorem dX11_copyRow_2 : decode cX11_copyRow 2 = .ok (.isub, 1) := by decide +kernel
theorem dX11_copyRow_3 : decode cX11_copyRow 3 = .ok (.istore_n 3, 1) := by decide +kernel
theorem dX11_copyRow_4 : decode cX11_copyRow 4 = .ok (.aload_n 0, 1) := by decide +kernel
theorem dX11_copyRow_5 : decode cX11_copyRow 5 = .ok (.iload_n 1, 1) := by decide +kernel
theorem dX11_copyRow_6 : decode cX11_copyRow 6 = .ok (.invokestatic 263, 3) := by decide +kernel
theorem dX11_copyRow_9 : decode cX11_copyRow 9 = .ok (.ifCond .ne 7, 3) := by decide +kernel
theorem dX11_copyRow_12 : decode cX11_copyRow 12 = .ok (.iconst 1, 1) := by decide +kernel
theorem dX11_copyRow_13 : decode cX11_copyRow 13 = .ok (.goto 73, 3) := by decide +kernel
theorem dX11_copyRow_16 : decode cX11_copyRow 16 = .ok (.aload_n 0, 1) := by decide +kernel
theorem dX11_copyRow_17 : decode cX11_copyRow 17 = .ok (.getfield 49, 3) := by decide +kernel
theorem dX11_copyRow_20 : decode cX11_copyRow 20 = .ok (.iconst 0, 1) := by decide +kernel
theorem dX11_copyRow_21 : decode cX11_copyRow 21 = .ok (.iaload, 1) := by decide +kernel
theorem dX11_copyRow_22 : decode cX11_copyRow 22 = .ok (.ifCond .lt 12, 3) := by decide +kernel
theorem dX11_copyRow_25 : decode cX11_copyRow 25 = .ok (.aload_n 0, 1) := by decide +kernel
theorem dX11_copyRow_26 : decode cX11_copyRow 26 = .ok (.getfield 49, 3) := by decide +kernel
theorem dX11_copyRow_29 : decode cX11_copyRow 29 = .ok (.iconst 1, 1) := by decide +kernel
theorem dX11_copyRow_30 : decode cX11_copyRow 30 = .ok (.iaload, 1) := by decide +kernel
theorem dX11_copyRow_31 : decode cX11_copyRow 31 = .ok (.ifCond .ge 7, 3) := by decide +kernel
theorem dX11_copyRow_34 : decode cX11_copyRow 34 = .ok (.iconst 2, 1) := by decide +kernel
theorem dX11_copyRow_35 : decode cX11_copyRow 35 = .ok (.goto 51, 3) := by decide +kernel
theorem dX11_copyRow_38 : decode cX11_copyRow 38 = .ok (.aload_n 0, 1) := by decide +kernel
theorem dX11_copyRow_39 : decode cX11_copyRow 39 = .ok (.getfield 52, 3) := by decide +kernel
theorem dX11_copyRow_42 : decode cX11_copyRow 42 = .ok (.iconst 0, 1) := by decide +kernel
theorem dX11_copyRow_43 : decode cX11_copyRow 43 = .ok (.baload, 1) := by decide +kernel
theorem dX11_copyRow_44 : decode cX11_copyRow 44 = .ok (.aload_n 0, 1) := by decide +kernel
theorem dX11_copyRow_45 : decode cX11_copyRow 45 = .ok (.getfield 52, 3) := by decide +kernel
theorem dX11_copyRow_48 : decode cX11_copyRow 48 = .ok (.iconst 1, 1) := by decide +kernel
theorem dX11_copyRow_49 : decode cX11_copyRow 49 = .ok (.baload, 1) := by decide +kernel
theorem dX11_copyRow_50 : decode cX11_copyRow 50 = .ok (.if_icmp .eq 7, 3) := by decide +kernel
theorem dX11_copyRow_53 : decode cX11_copyRow 53 = .ok (.iconst 3, 1) := by decide +kernel
theorem dX11_copyRow_54 : decode cX11_copyRow 54 = .ok (.goto 32, 3) := by decide +kernel
theorem dX11_copyRow_57 : decode cX11_copyRow 57 = .ok (.iload_n 2, 1) := by decide +kernel
theorem dX11_copyRow_58 : decode cX11_copyRow 58 = .ok (.ifCond .lt 23, 3) := by decide +kernel
theorem dX11_copyRow_61 : decode cX11_copyRow 61 = .ok (.iload_n 2, 1) := by decide +kernel
theorem dX11_copyRow_62 : decode cX11_copyRow 62 = .ok (.aload_n 0, 1) := by decide +kernel
theorem dX11_copyRow_63 : decode cX11_copyRow 63 = .ok (.getfield 49, 3) := by decide +kernel
theorem dX11_copyRow_66 : decode cX11_copyRow 66 = .ok (.iconst 0, 1) := by decide +kernel
theorem dX11_copyRow_67 : decode cX11_copyRow 67 = .ok (.iaload, 1) := by decide +kernel
theorem dX11_copyRow_68 : decode cX11_copyRow 68 = .ok (.if_icmp .gt 13, 3) := by decide +kernel
theorem dX11_copyRow_71 : decode cX11_copyRow 71 = .ok (.iload_n 2, 1) := by decide +kernel
theorem dX11_copyRow_72 : decode cX11_copyRow 72 = .ok (.aload_n 0, 1) := by decide +kernel
theorem dX11_copyRow_73 : decode cX11_copyRow 73 = .ok (.getfield 49, 3) := by decide +kernel
theorem dX11_copyRow_76 : decode cX11_copyRow 76 = .ok (.iconst 1, 1) := by decide +kernel
theorem dX11_copyRow_77 : decode cX11_copyRow 77 = .ok (.iaload, 1) := by decide +kernel
theorem dX11_copyRow_78 : decode cX11_copyRow 78 = .ok (.if_icmp .le 7, 3) := by decide +kernel
theorem dX11_copyRow_81 : decode cX11_copyRow 81 = .ok (.iconst 4, 1) := by decide +kernel
theorem dX11_copyRow_82 : decode cX11_copyRow 82 = .ok (.goto 4, 3) := by decide +kernel
theorem dX11_copyRow_85 : decode cX11_copyRow 85 = .ok (.iconst 0, 1) := by decide +kernel
theorem dX11_copyRow_86 : decode cX11_copyRow 86 = .ok (.putfield 56, 3) := by decide +kernel
theorem dX11_copyRow_89 : decode cX11_copyRow 89 = .ok (.iconst 0, 1) := by decide +kernel
theorem dX11_copyRow_90 : decode cX11_copyRow 90 = .ok (.istore 4, 2) := by decide +kernel
theorem dX11_copyRow_92 : decode cX11_copyRow 92 = .ok (.iconst 0, 1) := by decide +kernel
theorem dX11_copyRow_93 : decode cX11_copyRow 93 = .ok (.istore 5, 2) := by decide +kernel
theorem dX11_copyRow_95 : decode cX11_copyRow 95 = .ok (.iload 5, 2) := by decide +kernel
theorem dX11_copyRow_97 : decode cX11_copyRow 97 = .ok (.iload_n 2, 1) := by decide +kernel
theorem dX11_copyRow_98 : decode cX11_copyRow 98 = .ok (.if_icmp .ge 80, 3) := by decide +kernel
theorem dX11_copyRow_101 : decode cX11_copyRow 101 = .ok (.aload_n 0, 1) := by decide +kernel
theorem dX11_copyRow_102 : decode cX11_copyRow 102 = .ok (.getfield 56, 3) := by decide +kernel
theorem dX11_copyRow_105 : decode cX11_copyRow 105 = .ok (.ifCond .ne 73, 3) := by decide +kernel
theorem dX11_copyRow_108 : decode cX11_copyRow 108 = .ok (.iload 4, 2) := by decide +kernel
theorem dX11_copyRow_110 : decode cX11_copyRow 110 = .ok (.ifCond .ne 31, 3) := by decide +kernel
theorem dX11_copyRow_113 : decode cX11_copyRow 113 = .ok (.aload_n 0, 1) := by decide +kernel
theorem dX11_copyRow_114 : decode cX11_copyRow 114 = .ok (.getfield 45, 3) := by decide +kernel
theorem dX11_copyRow_117 : decode cX11_copyRow 117 = .ok (.bipush 60, 2) := by decide +kernel
theorem dX11_copyRow_119 : decode cX11_copyRow 119 = .ok (.iload_n 3, 1) := by decide +kernel
theorem dX11_copyRow_120 : decode cX11_copyRow 120 = .ok (.imul, 1) := by decide +kernel
theorem dX11_copyRow_121 : decode cX11_copyRow 121 = .ok (.iload 5, 2) := by decide +kernel
theorem dX11_copyRow_123 : decode cX11_copyRow 123 = .ok (.iadd, 1) := by decide +kernel
theorem dX11_copyRow_124 : decode cX11_copyRow 124 = .ok (.daload, 1) := by decide +kernel
theorem dX11_copyRow_125 : decode cX11_copyRow 125 = .ok (.aload_n 0, 1) := by decide +kernel
theorem dX11_copyRow_126 : decode cX11_copyRow 126 = .ok (.getfield 45, 3) := by decide +kernel
theorem dX11_copyRow_129 : decode cX11_copyRow 129 = .ok (.bipush 60, 2) := by decide +kernel
theorem dX11_copyRow_131 : decode cX11_copyRow 131 = .ok (.iload_n 1, 1) := by decide +kernel
theorem dX11_copyRow_132 : decode cX11_copyRow 132 = .ok (.imul, 1) := by decide +kernel
theorem dX11_copyRow_133 : decode cX11_copyRow 133 = .ok (.iload 5, 2) := by decide +kernel
theorem dX11_copyRow_135 : decode cX11_copyRow 135 = .ok (.iadd, 1) := by decide +kernel
theorem dX11_copyRow_136 : decode cX11_copyRow 136 = .ok (.daload, 1) := by decide +kernel
theorem dX11_copyRow_137 : decode cX11_copyRow 137 = .ok (.dcmp .l, 1) := by decide +kernel
theorem dX11_copyRow_138 : decode cX11_copyRow 138 = .ok (.ifCond .eq 7, 3) := by decide +kernel
theorem dX11_copyRow_141 : decode cX11_copyRow 141 = .ok (.iconst 1, 1) := by decide +kernel
theorem dX11_copyRow_142 : decode cX11_copyRow 142 = .ok (.goto 4, 3) := by decide +kernel
theorem dX11_copyRow_145 : decode cX11_copyRow 145 = .ok (.iconst 0, 1) := by decide +kernel
theorem dX11_copyRow_146 : decode cX11_copyRow 146 = .ok (.istore 4, 2) := by decide +kernel
theorem dX11_copyRow_148 : decode cX11_copyRow 148 = .ok (.aload_n 0, 1) := by decide +kernel
theorem dX11_copyRow_149 : decode cX11_copyRow 149 = .ok (.getfield 45, 3) := by decide +kernel
theorem dX11_copyRow_152 : decode cX11_copyRow 152 = .ok (.bipush 60, 2) := by decide +kernel
theorem dX11_copyRow_154 : decode cX11_copyRow 154 = .ok (.iload_n 3, 1) := by decide +kernel
theorem dX11_copyRow_155 : decode cX11_copyRow 155 = .ok (.imul, 1) := by decide +kernel
theorem dX11_copyRow_156 : decode cX11_copyRow 156 = .ok (.iload 5, 2) := by decide +kernel
theorem dX11_copyRow_158 : decode cX11_copyRow 158 = .ok (.iadd, 1) := by decide +kernel
theorem dX11_copyRow_159 : decode cX11_copyRow 159 = .ok (.aload_n 0, 1) := by decide +kernel
theorem dX11_copyRow_160 : decode cX11_copyRow 160 = .ok (.getfield 45, 3) := by decide +kernel
theorem dX11_copyRow_163 : decode cX11_copyRow 163 = .ok (.bipush 60, 2) := by decide +kernel
theorem dX11_copyRow_165 : decode cX11_copyRow 165 = .ok (.iload_n 1, 1) := by decide +kernel
theorem dX11_copyRow_166 : decode cX11_copyRow 166 = .ok (.imul, 1) := by decide +kernel
theorem dX11_copyRow_167 : decode cX11_copyRow 167 = .ok (.iload 5, 2) := by decide +kernel
theorem dX11_copyRow_169 : decode cX11_copyRow 169 = .ok (.iadd, 1) := by decide +kernel
theorem dX11_copyRow_170 : decode cX11_copyRow 170 = .ok (.daload, 1) := by decide +kernel
theorem dX11_copyRow_171 : decode cX11_copyRow 171 = .ok (.dastore, 1) := by decide +kernel
theorem dX11_copyRow_172 : decode cX11_copyRow 172 = .ok (.iinc 5 1, 3) := by decide +kernel
theorem dX11_copyRow_175 : decode cX11_copyRow 175 = .ok (.goto (-80), 3) := by decide +kernel
theorem dX11_copyRow_178 : decode cX11_copyRow 178 = .ok (.iload 4, 2) := by decide +kernel
theorem dX11_copyRow_180 : decode cX11_copyRow 180 = .ok (.ireturn, 1) := by decide +kernel
theorem dX11_stored_0 : decode cX11_stored 0 = .ok (.aload_n 0, 1) := by decide +kernel
theorem dX11_stored_1 : decode cX11_stored 1 = .ok (.iload_n 1, 1) := by decide +kernel
theorem dX11_stored_2 : decode cX11_stored 2 = .ok (.invokestatic 263, 3) := by decide +kernel
theorem dX11_stored_5 : decode cX11_stored 5 = .ok (.ifCond .ne 7, 3) := by decide +kernel
theorem dX11_stored_8 : decode cX11_stored 8 = .ok (.iconst 1, 1) := by decide +kernel
theorem dX11_stored_9 : decode cX11_stored 9 = .ok (.goto 24, 3) := by decide +kernel
theorem dX11_stored_12 : decode cX11_stored 12 = .ok (.iload_n 2, 1) := by decide +kernel
theorem dX11_stored_13 : decode cX11_stored 13 = .ok (.iconst 0, 1) := by decide +kernel
theorem dX11_stored_14 : decode cX11_stored 14 = .ok (.aload_n 0, 1) := by decide +kernel
theorem dX11_stored_15 : decode cX11_stored 15 = .ok (.getfield 49, 3) := by decide +kernel
theorem dX11_stored_18 : decode cX11_stored 18 = .ok (.iload_n 1, 1) := by decide +kernel
theorem dX11_stored_19 : decode cX11_stored 19 = .ok (.iaload, 1) := by decide +kernel
theorem dX11_stored_20 : decode cX11_stored 20 = .ok (.iconst 1, 1) := by decide +kernel
theorem dX11_stored_21 : decode cX11_stored 21 = .ok (.isub, 1) := by decide +kernel
theorem dX11_stored_22 : decode cX11_stored 22 = .ok (.invokestatic 95, 3) := by decide +kernel
theorem dX11_stored_25 : decode cX11_stored 25 = .ok (.ifCond .eq 7, 3) := by decide +kernel
theorem dX11_stored_28 : decode cX11_stored 28 = .ok (.iconst 0, 1) := by decide +kernel
theorem dX11_stored_29 : decode cX11_stored 29 = .ok (.goto 4, 3) := by decide +kernel
theorem dX11_stored_32 : decode cX11_stored 32 = .ok (.iconst 2, 1) := by decide +kernel
theorem dX11_stored_33 : decode cX11_stored 33 = .ok (.putfield 56, 3) := by decide +kernel
theorem dX11_stored_36 : decode cX11_stored 36 = .ok (.aload_n 0, 1) := by decide +kernel
theorem dX11_stored_37 : decode cX11_stored 37 = .ok (.getfield 56, 3) := by decide +kernel
theorem dX11_stored_40 : decode cX11_stored 40 = .ok (.ifCond .le 7, 3) := by decide +kernel
theorem dX11_stored_43 : decode cX11_stored 43 = .ok (.dconst 0, 1) := by decide +kernel
theorem dX11_stored_44 : decode cX11_stored 44 = .ok (.goto 14, 3) := by decide +kernel
theorem dX11_stored_47 : decode cX11_stored 47 = .ok (.aload_n 0, 1) := by decide +kernel
theorem dX11_stored_48 : decode cX11_stored 48 = .ok (.getfield 45, 3) := by decide +kernel
theorem dX11_stored_51 : decode cX11_stored 51 = .ok (.bipush 60, 2) := by decide +kernel
theorem dX11_stored_53 : decode cX11_stored 53 = .ok (.iload_n 1, 1) := by decide +kernel
theorem dX11_stored_54 : decode cX11_stored 54 = .ok (.imul, 1) := by decide +kernel
theorem dX11_stored_55 : decode cX11_stored 55 = .ok (.iload_n 2, 1) := by decide +kernel
theorem dX11_stored_56 : decode cX11_stored 56 = .ok (.iadd, 1) := by decide +kernel
theorem dX11_stored_57 : decode cX11_stored 57 = .ok (.daload, 1) := by decide +kernel
theorem dX11_stored_58 : decode cX11_stored 58 = .ok (.dreturn, 1) := by decide +kernel
theorem dJ6_bitCount_0f7a4_0 : decode cJ6_bitCount_0f7a4 0 = .ok (.iload_n 0, 1) := by decide +kernel
theorem dJ6_bitCount_0f7a4_1 : decode cJ6_bitCount_0f7a4 1 = .ok (.iload_n 0, 1) := by decide +kernel
theorem dJ6_bitCount_0f7a4_2 : decode cJ6_bitCount_0f7a4 2 = .ok (.iconst 1, 1) := by decide +kernel
theorem dJ6_bitCount_0f7a4_3 : decode cJ6_bitCount_0f7a4 3 = .ok (.iushr, 1) := by decide +kernel
theorem dJ6_bitCount_0f7a4_4 : decode cJ6_bitCount_0f7a4 4 = .ok (.ldc_w 265, 3) := by decide +kernel
theorem dJ6_bitCount_0f7a4_7 : decode cJ6_bitCount_0f7a4 7 = .ok (.iand, 1) := by decide +kernel
theorem dJ6_bitCount_0f7a4_8 : decode cJ6_bitCount_0f7a4 8 = .ok (.isub, 1) := by decide +kernel
theorem dJ6_bitCount_0f7a4_9 : decode cJ6_bitCount_0f7a4 9 = .ok (.istore_n 0, 1) := by decide +kernel
theorem dJ6_bitCount_0f7a4_10 : decode cJ6_bitCount_0f7a4 10 = .ok (.iload_n 0, 1) := by decide +kernel
theorem dJ6_bitCount_0f7a4_11 : decode cJ6_bitCount_0f7a4 11 = .ok (.ldc_w 266, 3) := by decide +kernel
theorem dJ6_bitCount_0f7a4_14 : decode cJ6_bitCount_0f7a4 14 = .ok (.iand, 1) := by decide +kernel
theorem dJ6_bitCount_0f7a4_15 : decode cJ6_bitCount_0f7a4 15 = .ok (.iload_n 0, 1) := by decide +kernel
theorem dJ6_bitCount_0f7a4_16 : decode cJ6_bitCount_0f7a4 16 = .ok (.iconst 2, 1) := by decide +kernel
theorem dJ6_bitCount_0f7a4_17 : decode cJ6_bitCount_0f7a4 17 = .ok (.iushr, 1) := by decide +kernel
theorem dJ6_bitCount_0f7a4_18 : decode cJ6_bitCount_0f7a4 18 = .ok (.ldc_w 266, 3) := by decide +kernel
theorem dJ6_bitCount_0f7a4_21 : decode cJ6_bitCount_0f7a4 21 = .ok (.iand, 1) := by decide +kernel
theorem dJ6_bitCount_0f7a4_22 : decode cJ6_bitCount_0f7a4 22 = .ok (.iadd, 1) := by decide +kernel
theorem dJ6_bitCount_0f7a4_23 : decode cJ6_bitCount_0f7a4 23 = .ok (.istore_n 0, 1) := by decide +kernel
theorem dJ6_bitCount_0f7a4_24 : decode cJ6_bitCount_0f7a4 24 = .ok (.iload_n 0, 1) := by decide +kernel
theorem dJ6_bitCount_0f7a4_25 : decode cJ6_bitCount_0f7a4 25 = .ok (.iload_n 0, 1) := by decide +kernel
theorem dJ6_bitCount_0f7a4_26 : decode cJ6_bitCount_0f7a4 26 = .ok (.iconst 4, 1) := by decide +kernel
theorem dJ6_bitCount_0f7a4_27 : decode cJ6_bitCount_0f7a4 27 = .ok (.iushr, 1) := by decide +kernel
theorem dJ6_bitCount_0f7a4_28 : decode cJ6_bitCount_0f7a4 28 = .ok (.iadd, 1) := by decide +kernel
theorem dJ6_bitCount_0f7a4_29 : decode cJ6_bitCount_0f7a4 29 = .ok (.ldc_w 267, 3) := by decide +kernel
theorem dJ6_bitCount_0f7a4_32 : decode cJ6_bitCount_0f7a4 32 = .ok (.iand, 1) := by decide +kernel
theorem dJ6_bitCount_0f7a4_33 : decode cJ6_bitCount_0f7a4 33 = .ok (.istore_n 0, 1) := by decide +kernel
theorem dJ6_bitCount_0f7a4_34 : decode cJ6_bitCount_0f7a4 34 = .ok (.iload_n 0, 1) := by decide +kernel
theorem dJ6_bitCount_0f7a4_35 : decode cJ6_bitCount_0f7a4 35 = .ok (.iload_n 0, 1) := by decide +kernel
theorem dJ6_bitCount_0f7a4_36 : decode cJ6_bitCount_0f7a4 36 = .ok (.bipush 8, 2) := by decide +kernel
theorem dJ6_bitCount_0f7a4_38 : decode cJ6_bitCount_0f7a4 38 = .ok (.iushr, 1) := by decide +kernel
theorem dJ6_bitCount_0f7a4_39 : decode cJ6_bitCount_0f7a4 39 = .ok (.iadd, 1) := by decide +kernel
theorem dJ6_bitCount_0f7a4_40 : decode cJ6_bitCount_0f7a4 40 = .ok (.istore_n 0, 1) := by decide +kernel
theorem dJ6_bitCount_0f7a4_41 : decode cJ6_bitCount_0f7a4 41 = .ok (.iload_n 0, 1) := by decide +kernel
theorem dJ6_bitCount_0f7a4_42 : decode cJ6_bitCount_0f7a4 42 = .ok (.iload_n 0, 1) := by decide +kernel
theorem dJ6_bitCount_0f7a4_43 : decode cJ6_bitCount_0f7a4 43 = .ok (.bipush 16, 2) := by decide +kernel
theorem dJ6_bitCount_0f7a4_45 : decode cJ6_bitCount_0f7a4 45 = .ok (.iushr, 1) := by decide +kernel
theorem dJ6_bitCount_0f7a4_46 : decode cJ6_bitCount_0f7a4 46 = .ok (.iadd, 1) := by decide +kernel
theorem dJ6_bitCount_0f7a4_47 : decode cJ6_bitCount_0f7a4 47 = .ok (.istore_n 0, 1) := by decide +kernel
theorem dJ6_bitCount_0f7a4_48 : decode cJ6_bitCount_0f7a4 48 = .ok (.iload_n 0, 1) := by decide +kernel
theorem dJ6_bitCount_0f7a4_49 : decode cJ6_bitCount_0f7a4 49 = .ok (.bipush 63, 2) := by decide +kernel
theorem dJ6_bitCount_0f7a4_51 : decode cJ6_bitCount_0f7a4 51 = .ok (.iand, 1) := by decide +kernel
theorem dJ6_bitCount_0f7a4_52 : decode cJ6_bitCount_0f7a4 52 = .ok (.ireturn, 1) := by decide +kernel
theorem dJ9_floorDiv_f86c9_0 : decode cJ9_floorDiv_f86c9 0 = .ok (.lload_n 0, 1) := by decide +kernel
theorem dJ9_floorDiv_f86c9_1 : decode cJ9_floorDiv_f86c9 1 = .ok (.lload_n 2, 1) := by decide +kernel
theorem dJ9_floorDiv_f86c9_2 : decode cJ9_floorDiv_f86c9 2 = .ok (.ldiv, 1) := by decide +kernel
theorem dJ9_floorDiv_f86c9_3 : decode cJ9_floorDiv_f86c9 3 = .ok (.lstore 4, 2) := by decide +kernel
theorem dJ9_floorDiv_f86c9_5 : decode cJ9_floorDiv_f86c9 5 = .ok (.lload_n 0, 1) := by decide +kernel
theorem dJ9_floorDiv_f86c9_6 : decode cJ9_floorDiv_f86c9 6 = .ok (.lload_n 2, 1) := by decide +kernel
theorem dJ9_floorDiv_f86c9_7 : decode cJ9_floorDiv_f86c9 7 = .ok (.lxor, 1) := by decide +kernel
theorem dJ9_floorDiv_f86c9_8 : decode cJ9_floorDiv_f86c9 8 = .ok (.lconst 0, 1) := by decide +kernel
theorem dJ9_floorDiv_f86c9_9 : decode cJ9_floorDiv_f86c9 9 = .ok (.lcmp, 1) := by decide +kernel
theorem dJ9_floorDiv_f86c9_10 : decode cJ9_floorDiv_f86c9 10 = .ok (.ifCond .ge 17, 3) := by decide +kernel
theorem dJ9_floorDiv_f86c9_13 : decode cJ9_floorDiv_f86c9 13 = .ok (.lload 4, 2) := by decide +kernel
theorem dJ9_floorDiv_f86c9_15 : decode cJ9_floorDiv_f86c9 15 = .ok (.lload_n 2, 1) := by decide +kernel
theorem dJ9_floorDiv_f86c9_16 : decode cJ9_floorDiv_f86c9 16 = .ok (.lmul, 1) := by decide +kernel
theorem dJ9_floorDiv_f86c9_17 : decode cJ9_floorDiv_f86c9 17 = .ok (.lload_n 0, 1) := by decide +kernel
theorem dJ9_floorDiv_f86c9_18 : decode cJ9_floorDiv_f86c9 18 = .ok (.lcmp, 1) := by decide +kernel
theorem dJ9_floorDiv_f86c9_19 : decode cJ9_floorDiv_f86c9 19 = .ok (.ifCond .eq 8, 3) := by decide +kernel
theorem dJ9_floorDiv_f86c9_22 : decode cJ9_floorDiv_f86c9 22 = .ok (.lload 4, 2) := by decide +kernel
theorem dJ9_floorDiv_f86c9_24 : decode cJ9_floorDiv_f86c9 24 = .ok (.lconst 1, 1) := by decide +kernel
theorem dJ9_floorDiv_f86c9_25 : decode cJ9_floorDiv_f86c9 25 = .ok (.lsub, 1) := by decide +kernel
theorem dJ9_floorDiv_f86c9_26 : decode cJ9_floorDiv_f86c9 26 = .ok (.lreturn, 1) := by decide +kernel
theorem dJ9_floorDiv_f86c9_27 : decode cJ9_floorDiv_f86c9 27 = .ok (.lload 4, 2) := by decide +kernel
theorem dJ9_floorDiv_f86c9_29 : decode cJ9_floorDiv_f86c9 29 = .ok (.lreturn, 1) := by decide +kernel
theorem dJ9_floorMod_7cf53_0 : decode cJ9_floorMod_7cf53 0 = .ok (.iload_n 0, 1) := by decide +kernel
theorem dJ9_floorMod_7cf53_1 : decode cJ9_floorMod_7cf53 1 = .ok (.iload_n 1, 1) := by decide +kernel
theorem dJ9_floorMod_7cf53_2 : decode cJ9_floorMod_7cf53 2 = .ok (.irem, 1) := by decide +kernel
theorem dJ9_floorMod_7cf53_3 : decode cJ9_floorMod_7cf53 3 = .ok (.istore_n 2, 1) := by decide +kernel
theorem dJ9_floorMod_7cf53_4 : decode cJ9_floorMod_7cf53 4 = .ok (.iload_n 0, 1) := by decide +kernel
theorem dJ9_floorMod_7cf53_5 : decode cJ9_floorMod_7cf53 5 = .ok (.iload_n 1, 1) := by decide +kernel
theorem dJ9_floorMod_7cf53_6 : decode cJ9_floorMod_7cf53 6 = .ok (.ixor, 1) := by decide +kernel
theorem dJ9_floorMod_7cf53_7 : decode cJ9_floorMod_7cf53 7 = .ok (.ifCond .ge 11, 3) := by decide +kernel
theorem dJ9_floorMod_7cf53_10 : decode cJ9_floorMod_7cf53 10 = .ok (.iload_n 2, 1) := by decide +kernel
theorem dJ9_floorMod_7cf53_11 : decode cJ9_floorMod_7cf53 11 = .ok (.ifCond .eq 7, 3) := by decide +kernel
theorem dJ9_floorMod_7cf53_14 : decode cJ9_floorMod_7cf53 14 = .ok (.iload_n 2, 1) := by decide +kernel
theorem dJ9_floorMod_7cf53_15 : decode cJ9_floorMod_7cf53 15 = .ok (.iload_n 1, 1) := by decide +kernel
theorem dJ9_floorMod_7cf53_16 : decode cJ9_floorMod_7cf53 16 = .ok (.iadd, 1) := by decide +kernel
theorem dJ9_floorMod_7cf53_17 : decode cJ9_floorMod_7cf53 17 = .ok (.ireturn, 1) := by decide +kernel
