theorem dX6_start_88 : decode cX6_start 88 = .ok (.istore 7, 2) := by decide +kernel
theorem dX6_start_90 : decode cX6_start 90 = .ok (.iload 7, 2) := by decide +kernel
theorem dX6_start_92 : decode cX6_start 92 = .ok (.aload_n 0, 1) := by decide +kernel
theorem dX6_start_93 : decode cX6_start 93 = .ok (.getfield 9, 3) := by decide +kernel
theorem dX6_start_96 : decode cX6_start 96 = .ok (.arraylength, 1) := by decide +kernel
theorem dX6_start_97 : decode cX6_start 97 = .ok (.if_icmp .ge 17, 3) := by decide +kernel
theorem dX6_start_100 : decode cX6_start 100 = .ok (.aload_n 0, 1) := by decide +kernel
theorem dX6_start_101 : decode cX6_start 101 = .ok (.getfield 9, 3) := by decide +kernel
theorem dX6_start_104 : decode cX6_start 104 = .ok (.iload 7, 2) := by decide +kernel
theorem dX6_start_106 : decode cX6_start 106 = .ok (.lconst 0, 1) := by decide +kernel
theorem dX6_start_107 : decode cX6_start 107 = .ok (.lastore, 1) := by decide +kernel
theorem dX6_start_108 : decode cX6_start 108 = .ok (.iinc 7 1, 3) := by decide +kernel
theorem dX6_start_111 : decode cX6_start 111 = .ok (.goto (-21), 3) := by decide +kernel
theorem dX6_start_114 : decode cX6_start 114 = .ok (.return_, 1) := by decide +kernel
theorem dX6_debt_0 : decode cX6_debt 0 = .ok (.aload_n 0, 1) := by decide +kernel
theorem dX6_debt_1 : decode cX6_debt 1 = .ok (.getfield 39, 3) := by decide +kernel
theorem dX6_debt_4 : decode cX6_debt 4 = .ok (.aload_n 0, 1) := by decide +kernel
theorem dX6_debt_5 : decode cX6_debt 5 = .ok (.getfield 42, 3) := by decide +kernel
theorem dX6_debt_8 : decode cX6_debt 8 = .ok (.ladd, 1) := by decide +kernel
theorem dX6_debt_9 : decode cX6_debt 9 = .ok (.aload_n 0, 1) := by decide +kernel
theorem dX6_debt_10 : decode cX6_debt 10 = .ok (.getfield 45, 3) := by decide +kernel
theorem dX6_debt_13 : decode cX6_debt 13 = .ok (.ladd, 1) := by decide +kernel
theorem dX6_debt_14 : decode cX6_debt 14 = .ok (.lreturn, 1) := by decide +kernel
theorem dX6_debtAfterPosting_0 : decode cX6_debtAfterPosting 0 = .ok (.aload_n 0, 1) := by decide +kernel
theorem dX6_debtAfterPosting_1 : decode cX6_debtAfterPosting 1 = .ok (.invokevirtual 69, 3) := by decide +kernel
theorem dX6_debtAfterPosting_4 : decode cX6_debtAfterPosting 4 = .ok (.aload_n 0, 1) := by decide +kernel
theorem dX6_debtAfterPosting_5 : decode cX6_debtAfterPosting 5 = .ok (.getfield 48, 3) := by decide +kernel
theorem dX6_debtAfterPosting_8 : decode cX6_debtAfterPosting 8 = .ok (.aload_n 0, 1) := by decide +kernel
theorem dX6_debtAfterPosting_9 : decode cX6_debtAfterPosting 9 = .ok (.getfield 19, 3) := by decide +kernel
theorem dX6_debtAfterPosting_12 : decode cX6_debtAfterPosting 12 = .ok (.invokestatic 73, 3) := by decide +kernel
theorem dX6_debtAfterPosting_15 : decode cX6_debtAfterPosting 15 = .ok (.ladd, 1) := by decide +kernel
theorem dX6_debtAfterPosting_16 : decode cX6_debtAfterPosting 16 = .ok (.lreturn, 1) := by decide +kernel
theorem dX6_accrue_0 : decode cX6_accrue 0 = .ok (.aload_n 0, 1) := by decide +kernel
theorem dX6_accrue_1 : decode cX6_accrue 1 = .ok (.dup, 1) := by decide +kernel
theorem dX6_accrue_2 : decode cX6_accrue 2 = .ok (.getfield 48, 3) := by decide +kernel
theorem dX6_accrue_5 : decode cX6_accrue 5 = .ok (.aload_n 0, 1) := by decide +kernel
theorem dX6_accrue_6 : decode cX6_accrue 6 = .ok (.getfield 39, 3) := by decide +kernel
theorem dX6_accrue_9 : decode cX6_accrue 9 = .ok (.aload_n 0, 1) := by decide +kernel
theorem dX6_accrue_10 : decode cX6_accrue 10 = .ok (.getfield 36, 3) := by decide +kernel
theorem dX6_accrue_13 : decode cX6_accrue 13 = .ok (.i2l, 1) := by decide +kernel
theorem dX6_accrue_14 : decode cX6_accrue 14 = .ok (.lmul, 1) := by decide +kernel
theorem dX6_accrue_15 : decode cX6_accrue 15 = .ok (.iload_n 1, 1) := by decide +kernel
theorem dX6_accrue_16 : decode cX6_accrue 16 = .ok (.iload_n 2, 1) := by decide +kernel
theorem dX6_accrue_17 : decode cX6_accrue 17 = .ok (.aload_n 0, 1) := by decide +kernel
theorem dX6_accrue_18 : decode cX6_accrue 18 = .ok (.getfield 19, 3) := by decide +kernel
theorem dX6_accrue_21 : decode cX6_accrue 21 = .ok (.invokestatic 79, 3) := by decide +kernel
theorem dX6_accrue_24 : decode cX6_accrue 24 = .ok (.i2l, 1) := by decide +kernel
theorem dX6_accrue_25 : decode cX6_accrue 25 = .ok (.lmul, 1) := by decide +kernel
theorem dX6_accrue_26 : decode cX6_accrue 26 = .ok (.ladd, 1) := by decide +kernel
theorem dX6_accrue_27 : decode cX6_accrue 27 = .ok (.putfield 48, 3) := by decide +kernel
theorem dX6_accrue_30 : decode cX6_accrue 30 = .ok (.return_, 1) := by decide +kernel
theorem dX6_takeFrom_0 : decode cX6_takeFrom 0 = .ok (.aload_n 0, 1) := by decide +kernel
theorem dX6_takeFrom_1 : decode cX6_takeFrom 1 = .ok (.aload_n 1, 1) := by decide +kernel
theorem dX6_takeFrom_2 : decode cX6_takeFrom 2 = .ok (.getfield 15, 3) := by decide +kernel
theorem dX6_takeFrom_5 : decode cX6_takeFrom 5 = .ok (.putfield 15, 3) := by decide +kernel
theorem dX6_takeFrom_8 : decode cX6_takeFrom 8 = .ok (.aload_n 0, 1) := by decide +kernel
theorem dX6_takeFrom_9 : decode cX6_takeFrom 9 = .ok (.aload_n 1, 1) := by decide +kernel
theorem dX6_takeFrom_10 : decode cX6_takeFrom 10 = .ok (.getfield 19, 3) := by decide +kernel
theorem dX6_takeFrom_13 : decode cX6_takeFrom 13 = .ok (.putfield 19, 3) := by decide +kernel
theorem dX6_takeFrom_16 : decode cX6_takeFrom 16 = .ok (.aload_n 0, 1) := by decide +kernel
theorem dX6_takeFrom_17 : decode cX6_takeFrom 17 = .ok (.aload_n 1, 1) := by decide +kernel
theorem dX6_takeFrom_18 : decode cX6_takeFrom 18 = .ok (.getfield 23, 3) := by decide +kernel
theorem dX6_takeFrom_21 : decode cX6_takeFrom 21 = .ok (.putfield 23, 3) := by decide +kernel
theorem dX6_takeFrom_24 : decode cX6_takeFrom 24 = .ok (.aload_n 0, 1) := by decide +kernel
theorem dX6_takeFrom_25 : decode cX6_takeFrom 25 = .ok (.aload_n 1, 1) := by decide +kernel
theorem dX6_takeFrom_26 : decode cX6_takeFrom 26 = .ok (.getfield 26, 3) := by decide +kernel
theorem dX6_takeFrom_29 : decode cX6_takeFrom 29 = .ok (.putfield 26, 3) := by decide +kernel
theorem dX6_takeFrom_32 : decode cX6_takeFrom 32 = .ok (.aload_n 0, 1) := by decide +kernel
theorem dX6_takeFrom_33 : decode cX6_takeFrom 33 = .ok (.aload_n 1, 1) := by decide +kernel
theorem dX6_takeFrom_34 : decode cX6_takeFrom 34 = .ok (.getfield 30, 3) := by decide +kernel
theorem dX6_takeFrom_37 : decode cX6_takeFrom 37 = .ok (.putfield 30, 3) := by decide +kernel
theorem dX6_takeFrom_40 : decode cX6_takeFrom 40 = .ok (.aload_n 0, 1) := by decide +kernel
theorem dX6_takeFrom_41 : decode cX6_takeFrom 41 = .ok (.aload_n 1, 1) := by decide +kernel
theorem dX6_takeFrom_42 : decode cX6_takeFrom 42 = .ok (.getfield 33, 3) := by decide +kernel
theorem dX6_takeFrom_45 : decode cX6_takeFrom 45 = .ok (.putfield 33, 3) := by decide +kernel
theorem dX6_takeFrom_48 : decode cX6_takeFrom 48 = .ok (.aload_n 0, 1) := by decide +kernel
theorem dX6_takeFrom_49 : decode cX6_takeFrom 49 = .ok (.aload_n 1, 1) := by decide +kernel
theorem dX6_takeFrom_50 : decode cX6_takeFrom 50 = .ok (.getfield 36, 3) := by decide +kernel
theorem dX6_takeFrom_53 : decode cX6_takeFrom 53 = .ok (.putfield 36, 3) := by decide +kernel
theorem dX6_takeFrom_56 : decode cX6_takeFrom 56 = .ok (.aload_n 0, 1) := by decide +kernel
theorem dX6_takeFrom_57 : decode cX6_takeFrom 57 = .ok (.aload_n 1, 1) := by decide +kernel
theorem dX6_takeFrom_58 : decode cX6_takeFrom 58 = .ok (.getfield 39, 3) := by decide +kernel
theorem dX6_takeFrom_61 : decode cX6_takeFrom 61 = .ok (.putfield 39, 3) := by decide +kernel
theorem dX6_takeFrom_64 : decode cX6_takeFrom 64 = .ok (.aload_n 0, 1) := by decide +kernel
theorem dX6_takeFrom_65 : decode cX6_takeFrom 65 = .ok (.aload_n 1, 1) := by decide +kernel
theorem dX6_takeFrom_66 : decode cX6_takeFrom 66 = .ok (.getfield 42, 3) := by decide +kernel
theorem dX6_takeFrom_69 : decode cX6_takeFrom 69 = .ok (.putfield 42, 3) := by decide +kernel
theorem dX6_takeFrom_72 : decode cX6_takeFrom 72 = .ok (.aload_n 0, 1) := by decide +kernel
theorem dX6_takeFrom_73 : decode cX6_takeFrom 73 = .ok (.aload_n 1, 1) := by decide +kernel
theorem dX6_takeFrom_74 : decode cX6_takeFrom 74 = .ok (.getfield 45, 3) := by decide +kernel
theorem dX6_takeFrom_77 : decode cX6_takeFrom 77 = .ok (.putfield 45, 3) := by decide +kernel
theorem dX6_takeFrom_80 : decode cX6_takeFrom 80 = .ok (.aload_n 0, 1) := by decide +kernel
theorem dX6_takeFrom_81 : decode cX6_takeFrom 81 = .ok (.aload_n 1, 1) := by decide +kernel
theorem dX6_takeFrom_82 : decode cX6_takeFrom 82 = .ok (.getfield 48, 3) := by decide +kernel
theorem dX6_takeFrom_85 : decode cX6_takeFrom 85 = .ok (.putfield 48, 3) := by decide +kernel
theorem dX6_takeFrom_88 : decode cX6_takeFrom 88 = .ok (.aload_n 0, 1) := by decide +kernel
theorem dX6_takeFrom_89 : decode cX6_takeFrom 89 = .ok (.aload_n 1, 1) := by decide +kernel
theorem dX6_takeFrom_90 : decode cX6_takeFrom 90 = .ok (.getfield 92, 3) := by decide +kernel
theorem dX6_takeFrom_93 : decode cX6_takeFrom 93 = .ok (.putfield 92, 3) := by decide +kernel
theorem dX6_takeFrom_96 : decode cX6_takeFrom 96 = .ok (.aload_n 0, 1) := by decide +kernel
theorem dX6_takeFrom_97 : decode cX6_takeFrom 97 = .ok (.aload_n 1, 1) := by decide +kernel
theorem dX6_takeFrom_98 : decode cX6_takeFrom 98 = .ok (.getfield 51, 3) := by decide +kernel
theorem dX6_takeFrom_101 : decode cX6_takeFrom 101 = .ok (.putfield 51, 3) := by decide +kernel
theorem dX6_takeFrom_104 : decode cX6_takeFrom 104 = .ok (.aload_n 0, 1) := by decide +kernel
theorem dX6_takeFrom_105 : decode cX6_takeFrom 105 = .ok (.aload_n 1, 1) := by decide +kernel
theorem dX6_takeFrom_106 : decode cX6_takeFrom 106 = .ok (.getfield 54, 3) := by decide +kernel
theorem dX6_takeFrom_109 : decode cX6_takeFrom 109 = .ok (.putfield 54, 3) := by decide +kernel
theorem dX6_takeFrom_112 : decode cX6_takeFrom 112 = .ok (.aload_n 0, 1) := by decide +kernel
theorem dX6_takeFrom_113 : decode cX6_takeFrom 113 = .ok (.aload_n 1, 1) := by decide +kernel
theorem dX6_takeFrom_114 : decode cX6_takeFrom 114 = .ok (.getfield 63, 3) := by decide +kernel
theorem dX6_takeFrom_117 : decode cX6_takeFrom 117 = .ok (.putfield 63, 3) := by decide +kernel
theorem dX6_takeFrom_120 : decode cX6_takeFrom 120 = .ok (.aload_n 0, 1) := by decide +kernel
theorem dX6_takeFrom_121 : decode cX6_takeFrom 121 = .ok (.aload_n 1, 1) := by decide +kernel
theorem dX6_takeFrom_122 : decode cX6_takeFrom 122 = .ok (.getfield 66, 3) := by decide +kernel
theorem dX6_takeFrom_125 : decode cX6_takeFrom 125 = .ok (.putfield 66, 3) := by decide +kernel
theorem dX6_takeFrom_128 : decode cX6_takeFrom 128 = .ok (.aload_n 1, 1) := by decide +kernel
theorem dX6_takeFrom_129 : decode cX6_takeFrom 129 = .ok (.getfield 9, 3) := by decide +kernel
theorem dX6_takeFrom_132 : decode cX6_takeFrom 132 = .ok (.iconst 0, 1) := by decide +kernel
theorem dX6_takeFrom_133 : decode cX6_takeFrom 133 = .ok (.aload_n 0, 1) := by decide +kernel
theorem dX6_takeFrom_134 : decode cX6_takeFrom 134 = .ok (.getfield 9, 3) := by decide +kernel
theorem dX6_takeFrom_137 : decode cX6_takeFrom 137 = .ok (.iconst 0, 1) := by decide +kernel
theorem dX6_takeFrom_138 : decode cX6_takeFrom 138 = .ok (.bipush 8, 2) := by decide +kernel
theorem dX6_takeFrom_140 : decode cX6_takeFrom 140 = .ok (.invokestatic 95, 3) := by decide +kernel
theorem dX6_takeFrom_143 : decode cX6_takeFrom 143 = .ok (.return_, 1) := by decide +kernel
theorem dX7_init_0 : decode cX7_init 0 = .ok (.aload_n 0, 1) := by decide +kernel
theorem dX7_init_1 : decode cX7_init 1 = .ok (.invokespecial 3, 3) := by decide +kernel
theorem dX7_init_4 : decode cX7_init 4 = .ok (.aload_n 0, 1) := by decide +kernel
theorem dX7_init_5 : decode cX7_init 5 = .ok (.bipush 84, 2) := by decide +kernel
theorem dX7_init_7 : decode cX7_init 7 = .ok (.newarray .int, 2) := by decide +kernel
theorem dX7_init_9 : decode cX7_init 9 = .ok (.putfield 11, 3) := by decide +kernel
theorem dX7_init_12 : decode cX7_init 12 = .ok (.aload_n 0, 1) := by decide +kernel
theorem dX7_init_13 : decode cX7_init 13 = .ok (.bipush 84, 2) := by decide +kernel
theorem dX7_init_15 : decode cX7_init 15 = .ok (.newarray .int, 2) := by decide +kernel
theorem dX7_init_17 : decode cX7_init 17 = .ok (.putfield 15, 3) := by decide +kernel
theorem dX7_init_20 : decode cX7_init 20 = .ok (.aload_n 0, 1) := by decide +kernel
theorem dX7_init_21 : decode cX7_init 21 = .ok (.bipush 60, 2) := by decide +kernel
theorem dX7_init_23 : decode cX7_init 23 = .ok (.newarray .int, 2) := by decide +kernel
theorem dX7_init_25 : decode cX7_init 25 = .ok (.putfield 18, 3) := by decide +kernel
theorem dX7_init_28 : decode cX7_init 28 = .ok (.aload_n 0, 1) := by decide +kernel
theorem dX7_init_29 : decode cX7_init 29 = .ok (.bipush 60, 2) := by decide +kernel
theorem dX7_init_31 : decode cX7_init 31 = .ok (.newarray .long, 2) := by decide +kernel
theorem dX7_init_33 : decode cX7_init 33 = .ok (.putfield 21, 3) := by decide +kernel
theorem dX7_init_36 : decode cX7_init 36 = .ok (.aload_n 0, 1) := by decide +kernel
theorem dX7_init_37 : decode cX7_init 37 = .ok (.bipush 60, 2) := by decide +kernel
theorem dX7_init_39 : decode cX7_init 39 = .ok (.newarray .long, 2) := by decide +kernel
theorem dX7_init_41 : decode cX7_init 41 = .ok (.putfield 25, 3) := by decide +kernel
theorem dX7_init_44 : decode cX7_init 44 = .ok (.aload_n 0, 1) := by decide +kernel
theorem dX7_init_45 : decode cX7_init 45 = .ok (.bipush 60, 2) := by decide +kernel
theorem dX7_init_47 : decode cX7_init 47 = .ok (.newarray .long, 2) := by decide +kernel
theorem dX7_init_49 : decode cX7_init 49 = .ok (.putfield 28, 3) := by decide +kernel
theorem dX7_init_52 : decode cX7_init 52 = .ok (.return_, 1) := by decide +kernel
theorem dX7_startFrom_0 : decode cX7_startFrom 0 = .ok (.aload_n 1, 1) := by decide +kernel
theorem dX7_startFrom_1 : decode cX7_startFrom 1 = .ok (.getfield 31, 3) := by decide +kernel
theorem dX7_startFrom_4 : decode cX7_startFrom 4 = .ok (.astore_n 3, 1) := by decide +kernel
theorem dX7_startFrom_5 : decode cX7_startFrom 5 = .ok (.aload_n 0, 1) := by decide +kernel
theorem dX7_startFrom_6 : decode cX7_startFrom 6 = .ok (.aload_n 3, 1) := by decide +kernel
theorem dX7_startFrom_7 : decode cX7_startFrom 7 = .ok (.getfield 37, 3) := by decide +kernel
theorem dX7_startFrom_10 : decode cX7_startFrom 10 = .ok (.putfield 43, 3) := by decide +kernel
theorem dX7_startFrom_13 : decode cX7_startFrom 13 = .ok (.aload_n 0, 1) := by decide +kernel
theorem dX7_startFrom_14 : decode cX7_startFrom 14 = .ok (.aload_n 3, 1) := by decide +kernel
theorem dX7_startFrom_15 : decode cX7_startFrom 15 = .ok (.getfield 46, 3) := by decide +kernel
theorem dX7_startFrom_18 : decode cX7_startFrom 18 = .ok (.putfield 49, 3) := by decide +kernel
theorem dX7_startFrom_21 : decode cX7_startFrom 21 = .ok (.aload_n 0, 1) := by decide +kernel
theorem dX7_startFrom_22 : decode cX7_startFrom 22 = .ok (.aload_n 3, 1) := by decide +kernel
theorem dX7_startFrom_23 : decode cX7_startFrom 23 = .ok (.getfield 52, 3) := by decide +kernel
theorem dX7_startFrom_26 : decode cX7_startFrom 26 = .ok (.putfield 55, 3) := by decide +kernel
theorem dX7_startFrom_29 : decode cX7_startFrom 29 = .ok (.aload_n 0, 1) := by decide +kernel
theorem dX7_startFrom_30 : decode cX7_startFrom 30 = .ok (.aload_n 3, 1) := by decide +kernel
theorem dX7_startFrom_31 : decode cX7_startFrom 31 = .ok (.getfield 58, 3) := by decide +kernel
theorem dX7_startFrom_34 : decode cX7_startFrom 34 = .ok (.putfield 62, 3) := by decide +kernel
theorem dX7_startFrom_37 : decode cX7_startFrom 37 = .ok (.aload_n 0, 1) := by decide +kernel
theorem dX7_startFrom_38 : decode cX7_startFrom 38 = .ok (.aload_n 3, 1) := by decide +kernel
theorem dX7_startFrom_39 : decode cX7_startFrom 39 = .ok (.getfield 63, 3) := by decide +kernel
theorem dX7_startFrom_42 : decode cX7_startFrom 42 = .ok (.putfield 66, 3) := by decide +kernel
theorem dX7_startFrom_45 : decode cX7_startFrom 45 = .ok (.aload_n 0, 1) := by decide +kernel
theorem dX7_startFrom_46 : decode cX7_startFrom 46 = .ok (.aload_n 3, 1) := by decide +kernel
theorem dX7_startFrom_47 : decode cX7_startFrom 47 = .ok (.getfield 67, 3) := by decide +kernel
theorem dX7_startFrom_50 : decode cX7_startFrom 50 = .ok (.putfield 70, 3) := by decide +kernel
theorem dX7_startFrom_53 : decode cX7_startFrom 53 = .ok (.aload_n 0, 1) := by decide +kernel
theorem dX7_startFrom_54 : decode cX7_startFrom 54 = .ok (.aload_n 1, 1) := by decide +kernel
theorem dX7_startFrom_55 : decode cX7_startFrom 55 = .ok (.getfield 71, 3) := by decide +kernel
theorem dX7_startFrom_58 : decode cX7_startFrom 58 = .ok (.iconst 4, 1) := by decide +kernel
theorem dX7_startFrom_59 : decode cX7_startFrom 59 = .ok (.iaload, 1) := by decide +kernel
theorem dX7_startFrom_60 : decode cX7_startFrom 60 = .ok (.iconst 1, 1) := by decide +kernel
theorem dX7_startFrom_61 : decode cX7_startFrom 61 = .ok (.if_icmp .ne 7, 3) := by decide +kernel
theorem dX7_startFrom_68 : decode cX7_startFrom 68 = .ok (.iconst 0, 1) := by decide +kernel
theorem dX7_startFrom_69 : decode cX7_startFrom 69 = .ok (.putfield 74, 3) := by decide +kernel
theorem dX7_startFrom_72 : decode cX7_startFrom 72 = .ok (.aload_n 0, 1) := by decide +kernel
theorem dX7_startFrom_73 : decode cX7_startFrom 73 = .ok (.iload_n 2, 1) := by decide +kernel
theorem dX7_startFrom_74 : decode cX7_startFrom 74 = .ok (.aload_n 0, 1) := by decide +kernel
theorem dX7_startFrom_75 : decode cX7_startFrom 75 = .ok (.getfield 70, 3) := by decide +kernel
theorem dX7_startFrom_78 : decode cX7_startFrom 78 = .ok (.invokestatic 78, 3) := by decide +kernel
theorem dX7_startFrom_81 : decode cX7_startFrom 81 = .ok (.iadd, 1) := by decide +kernel
theorem dX7_startFrom_82 : decode cX7_startFrom 82 = .ok (.bipush 84, 2) := by decide +kernel
theorem dX7_startFrom_84 : decode cX7_startFrom 84 = .ok (.invokestatic 84, 3) := by decide +kernel
theorem dX7_startFrom_87 : decode cX7_startFrom 87 = .ok (.putfield 90, 3) := by decide +kernel
theorem dX7_startFrom_90 : decode cX7_startFrom 90 = .ok (.aload_n 1, 1) := by decide +kernel
theorem dX7_startFrom_91 : decode cX7_startFrom 91 = .ok (.getfield 93, 3) := by decide +kernel
theorem dX7_startFrom_94 : decode cX7_startFrom 94 = .ok (.istore 4, 2) := by decide +kernel
theorem dX7_startFrom_96 : decode cX7_startFrom 96 = .ok (.iconst 0, 1) := by decide +kernel
theorem dX7_startFrom_97 : decode cX7_startFrom 97 = .ok (.istore 5, 2) := by decide +kernel
theorem dX7_startFrom_99 : decode cX7_startFrom 99 = .ok (.iload 5, 2) := by decide +kernel
theorem dX7_startFrom_101 : decode cX7_startFrom 101 = .ok (.aload_n 0, 1) := by decide +kernel
theorem dX7_startFrom_102 : decode cX7_startFrom 102 = .ok (.getfield 90, 3) := by decide +kernel
theorem dX7_startFrom_105 : decode cX7_startFrom 105 = .ok (.if_icmp .ge 69, 3) := by decide +kernel
theorem dX7_startFrom_108 : decode cX7_startFrom 108 = .ok (.iload 5, 2) := by decide +kernel
theorem dX7_startFrom_110 : decode cX7_startFrom 110 = .ok (.bipush 84, 2) := by decide +kernel
theorem dX7_startFrom_112 : decode cX7_startFrom 112 = .ok (.if_icmp .ge 62, 3) := by decide +kernel
theorem dX7_startFrom_115 : decode cX7_startFrom 115 = .ok (.aload_n 0, 1) := by decide +kernel
theorem dX7_startFrom_116 : decode cX7_startFrom 116 = .ok (.getfield 11, 3) := by decide +kernel
theorem dX7_startFrom_119 : decode cX7_startFrom 119 = .ok (.iload 5, 2) := by decide +kernel
theorem dX7_startFrom_121 : decode cX7_startFrom 121 = .ok (.aload_n 3, 1) := by decide +kernel
theorem dX7_startFrom_122 : decode cX7_startFrom 122 = .ok (.getfield 96, 3) := by decide +kernel
theorem dX7_startFrom_125 : decode cX7_startFrom 125 = .ok (.aload_n 3, 1) := by decide +kernel
theorem dX7_startFrom_126 : decode cX7_startFrom 126 = .ok (.getfield 99, 3) := by decide +kernel
theorem dX7_startFrom_129 : decode cX7_startFrom 129 = .ok (.iload 5, 2) := by decide +kernel
theorem dX7_startFrom_131 : decode cX7_startFrom 131 = .ok (.iadd, 1) := by decide +kernel
theorem dX7_startFrom_132 : decode cX7_startFrom 132 = .ok (.invokestatic 102, 3) := by decide +kernel
theorem dX7_startFrom_135 : decode cX7_startFrom 135 = .ok (.iastore, 1) := by decide +kernel
theorem dX7_startFrom_136 : decode cX7_startFrom 136 = .ok (.aload_n 0, 1) := by decide +kernel
theorem dX7_startFrom_137 : decode cX7_startFrom 137 = .ok (.getfield 15, 3) := by decide +kernel
theorem dX7_startFrom_140 : decode cX7_startFrom 140 = .ok (.iload 5, 2) := by decide +kernel
theorem dX7_startFrom_142 : decode cX7_startFrom 142 = .ok (.iload 4, 2) := by decide +kernel
theorem dX7_startFrom_144 : decode cX7_startFrom 144 = .ok (.aload_n 0, 1) := by decide +kernel
theorem dX7_startFrom_145 : decode cX7_startFrom 145 = .ok (.getfield 11, 3) := by decide +kernel
theorem dX7_startFrom_148 : decode cX7_startFrom 148 = .ok (.iload 5, 2) := by decide +kernel
theorem dX7_startFrom_150 : decode cX7_startFrom 150 = .ok (.iaload, 1) := by decide +kernel
theorem dX7_startFrom_151 : decode cX7_startFrom 151 = .ok (.aload_n 0, 1) := by decide +kernel
theorem dX7_startFrom_152 : decode cX7_startFrom 152 = .ok (.getfield 66, 3) := by decide +kernel
theorem dX7_startFrom_155 : decode cX7_startFrom 155 = .ok (.invokestatic 107, 3) := by decide +kernel
theorem dX7_startFrom_158 : decode cX7_startFrom 158 = .ok (.iastore, 1) := by decide +kernel
theorem dX7_startFrom_159 : decode cX7_startFrom 159 = .ok (.aload_n 0, 1) := by decide +kernel
theorem dX7_startFrom_160 : decode cX7_startFrom 160 = .ok (.getfield 11, 3) := by decide +kernel
theorem dX7_startFrom_163 : decode cX7_startFrom 163 = .ok (.iload 5, 2) := by decide +kernel
theorem dX7_startFrom_165 : decode cX7_startFrom 165 = .ok (.iaload, 1) := by decide +kernel
theorem dX7_startFrom_166 : decode cX7_startFrom 166 = .ok (.istore 4, 2) := by decide +kernel
theorem dX7_startFrom_168 : decode cX7_startFrom 168 = .ok (.iinc 5 1, 3) := by decide +kernel
theorem dX7_startFrom_171 : decode cX7_startFrom 171 = .ok (.goto (-72), 3) := by decide +kernel
theorem dX7_startFrom_174 : decode cX7_startFrom 174 = .ok (.return_, 1) := by decide +kernel
theorem dX7_project_0 : decode cX7_project 0 = .ok (.aload_n 0, 1) := by decide +kernel
theorem dX7_project_1 : decode cX7_project 1 = .ok (.getfield 43, 3) := by decide +kernel
theorem dX7_project_4 : decode cX7_project 4 = .ok (.lstore 4, 2) := by decide +kernel
theorem dX7_project_6 : decode cX7_project 6 = .ok (.aload_n 0, 1) := by decide +kernel
theorem dX7_project_7 : decode cX7_project 7 = .ok (.getfield 49, 3) := by decide +kernel
theorem dX7_project_10 : decode cX7_project 10 = .ok (.lstore 6, 2) := by decide +kernel
theorem dX7_project_12 : decode cX7_project 12 = .ok (.aload_n 0, 1) := by decide +kernel
theorem dX7_project_13 : decode cX7_project 13 = .ok (.getfield 55, 3) := by decide +kernel
theorem dX7_project_16 : decode cX7_project 16 = .ok (.lstore 8, 2) := by decide +kernel
theorem dX7_project_18 : decode cX7_project 18 = .ok (.aload_n 0, 1) := by decide +kernel
theorem dX7_project_19 : decode cX7_project 19 = .ok (.iconst 0, 1) := by decide +kernel
theorem dX7_project_20 : decode cX7_project 20 = .ok (.putfield 110, 3) := by decide +kernel
theorem dX7_project_23 : decode cX7_project 23 = .ok (.iconst 0, 1) := by decide +kernel
theorem dX7_project_24 : decode cX7_project 24 = .ok (.istore 10, 2) := by decide +kernel
theorem dX7_project_26 : decode cX7_project 26 = .ok (.iload 10, 2) := by decide +kernel
theorem dX7_project_28 : decode cX7_project 28 = .ok (.aload_n 0, 1) := by decide +kernel
theorem dX7_project_29 : decode cX7_project 29 = .ok (.getfield 90, 3) := by decide +kernel
theorem dX7_project_32 : decode cX7_project 32 = .ok (.if_icmp .ge 214, 3) := by decide +kernel
theorem dX7_project_35 : decode cX7_project 35 = .ok (.iload 10, 2) := by decide +kernel
theorem dX7_project_37 : decode cX7_project 37 = .ok (.bipush 84, 2) := by decide +kernel
theorem dX7_project_39 : decode cX7_project 39 = .ok (.if_icmp .ge 207, 3) := by decide +kernel
theorem dX7_project_42 : decode cX7_project 42 = .ok (.aload_n 0, 1) := by decide +kernel
theorem dX7_project_43 : decode cX7_project 43 = .ok (.getfield 110, 3) := by decide +kernel
theorem dX7_project_46 : decode cX7_project 46 = .ok (.iload_n 3, 1) := by decide +kernel
theorem dX7_project_47 : decode cX7_project 47 = .ok (.if_icmp .ge 199, 3) := by decide +kernel
theorem dX7_project_50 : decode cX7_project 50 = .ok (.lload 8, 2) := by decide +kernel
theorem dX7_project_52 : decode cX7_project 52 = .ok (.lload 4, 2) := by decide +kernel
theorem dX7_project_54 : decode cX7_project 54 = .ok (.aload_n 0, 1) := by decide +kernel
theorem dX7_project_55 : decode cX7_project 55 = .ok (.getfield 62, 3) := by decide +kernel
theorem dX7_project_58 : decode cX7_project 58 = .ok (.i2l, 1) := by decide +kernel
theorem dX7_project_59 : decode cX7_project 59 = .ok (.lmul, 1) := by decide +kernel
theorem dX7_project_60 : decode cX7_project 60 = .ok (.aload_n 0, 1) := by decide +kernel
theorem dX7_project_61 : decode cX7_project 61 = .ok (.getfield 15, 3) := by decide +kernel
theorem dX7_project_64 : decode cX7_project 64 = .ok (.iload 10, 2) := by decide +kernel
theorem dX7_project_66 : decode cX7_project 66 = .ok (.iaload, 1) := by decide +kernel
theorem dX7_project_67 : decode cX7_project 67 = .ok (.i2l, 1) := by decide +kernel
theorem dX7_project_68 : decode cX7_project 68 = .ok (.lmul, 1) := by decide +kernel
theorem dX7_project_69 : decode cX7_project 69 = .ok (.ladd, 1) := by decide +kernel
theorem dX7_project_70 : decode cX7_project 70 = .ok (.lstore 8, 2) := by decide +kernel
theorem dX7_project_72 : decode cX7_project 72 = .ok (.lload 8, 2) := by decide +kernel
theorem dX7_project_74 : decode cX7_project 74 = .ok (.aload_n 0, 1) := by decide +kernel
theorem dX7_project_75 : decode cX7_project 75 = .ok (.getfield 66, 3) := by decide +kernel
theorem dX7_project_78 : decode cX7_project 78 = .ok (.invokestatic 113, 3) := by decide +kernel
theorem dX7_project_81 : decode cX7_project 81 = .ok (.lstore 11, 2) := by decide +kernel
theorem dX7_project_83 : decode cX7_project 83 = .ok (.lload 8, 2) := by decide +kernel
theorem dX7_project_85 : decode cX7_project 85 = .ok (.lload 11, 2) := by decide +kernel
theorem dX7_project_87 : decode cX7_project 87 = .ok (.aload_n 0, 1) := by decide +kernel
theorem dX7_project_88 : decode cX7_project 88 = .ok (.getfield 66, 3) := by decide +kernel
theorem dX7_project_91 : decode cX7_project 91 = .ok (.invokestatic 119, 3) := by decide +kernel
theorem dX7_project_94 : decode cX7_project 94 = .ok (.lsub, 1) := by decide +kernel
theorem dX7_project_95 : decode cX7_project 95 = .ok (.lstore 8, 2) := by decide +kernel
theorem dX7_project_97 : decode cX7_project 97 = .ok (.lload 6, 2) := by decide +kernel
theorem dX7_project_99 : decode cX7_project 99 = .ok (.lload 11, 2) := by decide +kernel
theorem dX7_project_101 : decode cX7_project 101 = .ok (.ladd, 1) := by decide +kernel
theorem dX7_project_102 : decode cX7_project 102 = .ok (.lstore 6, 2) := by decide +kernel
theorem dX7_project_104 : decode cX7_project 104 = .ok (.iload 10, 2) := by decide +kernel
theorem dX7_project_106 : decode cX7_project 106 = .ok (.bipush 24, 2) := by decide +kernel
theorem dX7_project_108 : decode cX7_project 108 = .ok (.if_icmp .ge 35, 3) := by decide +kernel
theorem dX7_project_111 : decode cX7_project 111 = .ok (.aload_n 0, 1) := by decide +kernel
theorem dX7_project_112 : decode cX7_project 112 = .ok (.getfield 70, 3) := by decide +kernel
theorem dX7_project_115 : decode cX7_project 115 = .ok (.iload 10, 2) := by decide +kernel
theorem dX7_project_117 : decode cX7_project 117 = .ok (.ishr, 1) := by decide +kernel
theorem dX7_project_118 : decode cX7_project 118 = .ok (.iconst 1, 1) := by decide +kernel
theorem dX7_project_119 : decode cX7_project 119 = .ok (.iand, 1) := by decide +kernel
theorem dX7_project_120 : decode cX7_project 120 = .ok (.ifCond .eq 23, 3) := by decide +kernel
theorem dX7_project_143 : decode cX7_project 143 = .ok (.aload_n 0, 1) := by decide +kernel
theorem dX7_project_144 : decode cX7_project 144 = .ok (.getfield 110, 3) := by decide +kernel
theorem dX7_project_147 : decode cX7_project 147 = .ok (.iload_n 3, 1) := by decide +kernel
theorem dX7_project_148 : decode cX7_project 148 = .ok (.iconst 1, 1) := by decide +kernel
theorem dX7_project_149 : decode cX7_project 149 = .ok (.isub, 1) := by decide +kernel
theorem dX7_project_150 : decode cX7_project 150 = .ok (.if_icmp .eq 13, 3) := by decide +kernel
theorem dX7_project_153 : decode cX7_project 153 = .ok (.lload_n 1, 1) := by decide +kernel
theorem dX7_project_154 : decode cX7_project 154 = .ok (.lload 4, 2) := by decide +kernel
theorem dX7_project_156 : decode cX7_project 156 = .ok (.lload 6, 2) := by decide +kernel
theorem dX7_project_158 : decode cX7_project 158 = .ok (.ladd, 1) := by decide +kernel
theorem dX7_project_159 : decode cX7_project 159 = .ok (.lcmp, 1) := by decide +kernel
theorem dX7_project_160 : decode cX7_project 160 = .ok (.ifCond .lt 7, 3) := by decide +kernel
theorem dX7_project_163 : decode cX7_project 163 = .ok (.iconst 1, 1) := by decide +kernel
theorem dX7_project_164 : decode cX7_project 164 = .ok (.goto 4, 3) := by decide +kernel
theorem dX7_project_167 : decode cX7_project 167 = .ok (.iconst 0, 1) := by decide +kernel
theorem dX7_project_168 : decode cX7_project 168 = .ok (.istore 13, 2) := by decide +kernel
theorem dX7_project_170 : decode cX7_project 170 = .ok (.iload 13, 2) := by decide +kernel
theorem dX7_project_172 : decode cX7_project 172 = .ok (.ifCond .eq 11, 3) := by decide +kernel
theorem dX7_project_175 : decode cX7_project 175 = .ok (.lload 4, 2) := by decide +kernel
theorem dX7_project_177 : decode cX7_project 177 = .ok (.lload 6, 2) := by decide +kernel
theorem dX7_project_179 : decode cX7_project 179 = .ok (.ladd, 1) := by decide +kernel
theorem dX7_project_180 : decode cX7_project 180 = .ok (.goto 4, 3) := by decide +kernel
theorem dX7_project_183 : decode cX7_project 183 = .ok (.lload_n 1, 1) := by decide +kernel
theorem dX7_project_184 : decode cX7_project 184 = .ok (.lstore 14, 2) := by decide +kernel
theorem dX7_project_186 : decode cX7_project 186 = .ok (.lload 14, 2) := by decide +kernel
theorem dX7_project_188 : decode cX7_project 188 = .ok (.lload 6, 2) := by decide +kernel
theorem dX7_project_190 : decode cX7_project 190 = .ok (.invokestatic 122, 3) := by decide +kernel
theorem dX7_project_193 : decode cX7_project 193 = .ok (.lstore 16, 2) := by decide +kernel
theorem dX7_project_195 : decode cX7_project 195 = .ok (.lload 6, 2) := by decide +kernel
theorem dX7_project_197 : decode cX7_project 197 = .ok (.lload 16, 2) := by decide +kernel
theorem dX7_project_199 : decode cX7_project 199 = .ok (.lsub, 1) := by decide +kernel
theorem dX7_project_200 : decode cX7_project 200 = .ok (.lstore 6, 2) := by decide +kernel
theorem dX7_project_202 : decode cX7_project 202 = .ok (.lload 4, 2) := by decide +kernel
theorem dX7_project_204 : decode cX7_project 204 = .ok (.lload 14, 2) := by decide +kernel
theorem dX7_project_206 : decode cX7_project 206 = .ok (.lload 16, 2) := by decide +kernel
theorem dX7_project_208 : decode cX7_project 208 = .ok (.lsub, 1) := by decide +kernel
theorem dX7_project_209 : decode cX7_project 209 = .ok (.lsub, 1) := by decide +kernel
theorem dX7_project_210 : decode cX7_project 210 = .ok (.lstore 4, 2) := by decide +kernel
theorem dX7_project_212 : decode cX7_project 212 = .ok (.aload_n 0, 1) := by decide +kernel
theorem dX7_project_213 : decode cX7_project 213 = .ok (.aload_n 0, 1) := by decide +kernel
theorem dX7_project_214 : decode cX7_project 214 = .ok (.getfield 11, 3) := by decide +kernel
theorem dX7_project_217 : decode cX7_project 217 = .ok (.iload 10, 2) := by decide +kernel
theorem dX7_project_219 : decode cX7_project 219 = .ok (.iaload, 1) := by decide +kernel
theorem dX7_project_220 : decode cX7_project 220 = .ok (.lload 14, 2) := by decide +kernel
theorem dX7_project_222 : decode cX7_project 222 = .ok (.lload 16, 2) := by decide +kernel
theorem dX7_project_224 : decode cX7_project 224 = .ok (.lload 4, 2) := by decide +kernel
theorem dX7_project_226 : decode cX7_project 226 = .ok (.lload 6, 2) := by decide +kernel
theorem dX7_project_228 : decode cX7_project 228 = .ok (.ladd, 1) := by decide +kernel
theorem dX7_project_229 : decode cX7_project 229 = .ok (.invokevirtual 125, 3) := by decide +kernel
theorem dX7_project_232 : decode cX7_project 232 = .ok (.iload 13, 2) := by decide +kernel
theorem dX7_project_234 : decode cX7_project 234 = .ok (.ifCond .eq 6, 3) := by decide +kernel
theorem dX7_project_237 : decode cX7_project 237 = .ok (.goto 9, 3) := by decide +kernel
theorem dX7_project_240 : decode cX7_project 240 = .ok (.iinc 10 1, 3) := by decide +kernel
theorem dX7_project_243 : decode cX7_project 243 = .ok (.goto (-217), 3) := by decide +kernel
theorem dX7_project_246 : decode cX7_project 246 = .ok (.return_, 1) := by decide +kernel
theorem dX7_keepPayment_0 : decode cX7_keepPayment 0 = .ok (.aload_n 0, 1) := by decide +kernel
theorem dX7_keepPayment_1 : decode cX7_keepPayment 1 = .ok (.getfield 110, 3) := by decide +kernel
theorem dX7_keepPayment_4 : decode cX7_keepPayment 4 = .ok (.ifCond .lt 64, 3) := by decide +kernel
theorem dX7_keepPayment_7 : decode cX7_keepPayment 7 = .ok (.aload_n 0, 1) := by decide +kernel
theorem dX7_keepPayment_8 : decode cX7_keepPayment 8 = .ok (.getfield 110, 3) := by decide +kernel
theorem dX7_keepPayment_11 : decode cX7_keepPayment 11 = .ok (.bipush 60, 2) := by decide +kernel
theorem dX7_keepPayment_13 : decode cX7_keepPayment 13 = .ok (.if_icmp .ge 55, 3) := by decide +kernel
theorem dX7_keepPayment_16 : decode cX7_keepPayment 16 = .ok (.aload_n 0, 1) := by decide +kernel
theorem dX7_keepPayment_17 : decode cX7_keepPayment 17 = .ok (.getfield 18, 3) := by decide +kernel
theorem dX7_keepPayment_20 : decode cX7_keepPayment 20 = .ok (.aload_n 0, 1) := by decide +kernel
theorem dX7_keepPayment_21 : decode cX7_keepPayment 21 = .ok (.getfield 110, 3) := by decide +kernel
theorem dX7_keepPayment_24 : decode cX7_keepPayment 24 = .ok (.iload_n 1, 1) := by decide +kernel
theorem dX7_keepPayment_25 : decode cX7_keepPayment 25 = .ok (.iastore, 1) := by decide +kernel
theorem dX7_keepPayment_26 : decode cX7_keepPayment 26 = .ok (.aload_n 0, 1) := by decide +kernel
theorem dX7_keepPayment_27 : decode cX7_keepPayment 27 = .ok (.getfield 21, 3) := by decide +kernel
theorem dX7_keepPayment_30 : decode cX7_keepPayment 30 = .ok (.aload_n 0, 1) := by decide +kernel
theorem dX7_keepPayment_31 : decode cX7_keepPayment 31 = .ok (.getfield 110, 3) := by decide +kernel
theorem dX7_keepPayment_34 : decode cX7_keepPayment 34 = .ok (.lload_n 2, 1) := by decide +kernel
theorem dX7_keepPayment_35 : decode cX7_keepPayment 35 = .ok (.lastore, 1) := by decide +kernel
theorem dX7_keepPayment_36 : decode cX7_keepPayment 36 = .ok (.aload_n 0, 1) := by decide +kernel
theorem dX7_keepPayment_37 : decode cX7_keepPayment 37 = .ok (.getfield 25, 3) := by decide +kernel
theorem dX7_keepPayment_40 : decode cX7_keepPayment 40 = .ok (.aload_n 0, 1) := by decide +kernel
theorem dX7_keepPayment_41 : decode cX7_keepPayment 41 = .ok (.getfield 110, 3) := by decide +kernel
theorem dX7_keepPayment_44 : decode cX7_keepPayment 44 = .ok (.lload 4, 2) := by decide +kernel
theorem dX7_keepPayment_46 : decode cX7_keepPayment 46 = .ok (.lastore, 1) := by decide +kernel
theorem dX7_keepPayment_47 : decode cX7_keepPayment 47 = .ok (.aload_n 0, 1) := by decide +kernel
theorem dX7_keepPayment_48 : decode cX7_keepPayment 48 = .ok (.getfield 28, 3) := by decide +kernel
theorem dX7_keepPayment_51 : decode cX7_keepPayment 51 = .ok (.aload_n 0, 1) := by decide +kernel
theorem dX7_keepPayment_52 : decode cX7_keepPayment 52 = .ok (.getfield 110, 3) := by decide +kernel
theorem dX7_keepPayment_55 : decode cX7_keepPayment 55 = .ok (.lload 6, 2) := by decide +kernel
theorem dX7_keepPayment_57 : decode cX7_keepPayment 57 = .ok (.lastore, 1) := by decide +kernel
theorem dX7_keepPayment_58 : decode cX7_keepPayment 58 = .ok (.aload_n 0, 1) := by decide +kernel
theorem dX7_keepPayment_59 : decode cX7_keepPayment 59 = .ok (.dup, 1) := by decide +kernel
theorem dX7_keepPayment_60 : decode cX7_keepPayment 60 = .ok (.getfield 110, 3) := by decide +kernel
theorem dX7_keepPayment_63 : decode cX7_keepPayment 63 = .ok (.iconst 1, 1) := by decide +kernel
theorem dX7_keepPayment_64 : decode cX7_keepPayment 64 = .ok (.iadd, 1) := by decide +kernel
theorem dX7_keepPayment_65 : decode cX7_keepPayment 65 = .ok (.putfield 110, 3) := by decide +kernel
theorem dX7_keepPayment_68 : decode cX7_keepPayment 68 = .ok (.return_, 1) := by decide +kernel
theorem dX7_lastAmount_0 : decode cX7_lastAmount 0 = .ok (.aload_n 0, 1) := by decide +kernel
theorem dX7_lastAmount_1 : decode cX7_lastAmount 1 = .ok (.aload_n 0, 1) := by decide +kernel
theorem dX7_lastAmount_2 : decode cX7_lastAmount 2 = .ok (.getfield 110, 3) := by decide +kernel
theorem dX7_lastAmount_5 : decode cX7_lastAmount 5 = .ok (.iconst 1, 1) := by decide +kernel
theorem dX7_lastAmount_6 : decode cX7_lastAmount 6 = .ok (.isub, 1) := by decide +kernel
theorem dX7_lastAmount_7 : decode cX7_lastAmount 7 = .ok (.invokevirtual 129, 3) := by decide +kernel
theorem dX7_lastAmount_10 : decode cX7_lastAmount 10 = .ok (.ifCond .eq 17, 3) := by decide +kernel
theorem dX7_lastAmount_13 : decode cX7_lastAmount 13 = .ok (.aload_n 0, 1) := by decide +kernel
theorem dX7_lastAmount_14 : decode cX7_lastAmount 14 = .ok (.getfield 21, 3) := by decide +kernel
theorem dX7_lastAmount_17 : decode cX7_lastAmount 17 = .ok (.aload_n 0, 1) := by decide +kernel
theorem dX7_lastAmount_18 : decode cX7_lastAmount 18 = .ok (.getfield 110, 3) := by decide +kernel
theorem dX7_lastAmount_21 : decode cX7_lastAmount 21 = .ok (.iconst 1, 1) := by decide +kernel
theorem dX7_lastAmount_22 : decode cX7_lastAmount 22 = .ok (.isub, 1) := by decide +kernel
theorem dX7_lastAmount_23 : decode cX7_lastAmount 23 = .ok (.laload, 1) := by decide +kernel
theorem dX7_lastAmount_24 : decode cX7_lastAmount 24 = .ok (.goto 4, 3) := by decide +kernel
theorem dX7_lastAmount_28 : decode cX7_lastAmount 28 = .ok (.lreturn, 1) := by decide +kernel
theorem dX7_leastInstallment_0 : decode cX7_leastInstallment 0 = .ok (.iload_n 1, 1) := by decide +kernel
theorem dX7_leastInstallment_1 : decode cX7_leastInstallment 1 = .ok (.iconst 1, 1) := by decide +kernel
theorem dX7_leastInstallment_2 : decode cX7_leastInstallment 2 = .ok (.if_icmp .ge 5, 3) := by decide +kernel
theorem dX7_leastInstallment_7 : decode cX7_leastInstallment 7 = .ok (.aload_n 0, 1) := by decide +kernel
theorem dX7_leastInstallment_8 : decode cX7_leastInstallment 8 = .ok (.lconst 0, 1) := by decide +kernel
theorem dX7_leastInstallment_9 : decode cX7_leastInstallment 9 = .ok (.iload_n 1, 1) := by decide +kernel
theorem dX7_leastInstallment_10 : decode cX7_leastInstallment 10 = .ok (.invokevirtual 133, 3) := by decide +kernel
theorem dX7_leastInstallment_13 : decode cX7_leastInstallment 13 = .ok (.lconst 1, 1) := by decide +kernel
theorem dX7_leastInstallment_14 : decode cX7_leastInstallment 14 = .ok (.aload_n 0, 1) := by decide +kernel
theorem dX7_leastInstallment_15 : decode cX7_leastInstallment 15 = .ok (.getfield 43, 3) := by decide +kernel
theorem dX7_leastInstallment_18 : decode cX7_leastInstallment 18 = .ok (.aload_n 0, 1) := by decide +kernel
theorem dX7_leastInstallment_19 : decode cX7_leastInstallment 19 = .ok (.getfield 49, 3) := by decide +kernel
theorem dX7_leastInstallment_22 : decode cX7_leastInstallment 22 = .ok (.ladd, 1) := by decide +kernel
theorem dX7_leastInstallment_23 : decode cX7_leastInstallment 23 = .ok (.iload_n 1, 1) := by decide +kernel
theorem dX7_leastInstallment_24 : decode cX7_leastInstallment 24 = .ok (.invokestatic 137, 3) := by decide +kernel
theorem dX7_leastInstallment_27 : decode cX7_leastInstallment 27 = .ok (.invokestatic 140, 3) := by decide +kernel
theorem dX7_leastInstallment_30 : decode cX7_leastInstallment 30 = .ok (.lstore_n 2, 1) := by decide +kernel
theorem dX7_leastInstallment_31 : decode cX7_leastInstallment 31 = .ok (.lload_n 2, 1) := by decide +kernel
theorem dX7_leastInstallment_32 : decode cX7_leastInstallment 32 = .ok (.aload_n 0, 1) := by decide +kernel
theorem dX7_leastInstallment_33 : decode cX7_leastInstallment 33 = .ok (.invokevirtual 143, 3) := by decide +kernel
theorem dX7_leastInstallment_36 : decode cX7_leastInstallment 36 = .ok (.iload_n 1, 1) := by decide +kernel
theorem dX7_leastInstallment_37 : decode cX7_leastInstallment 37 = .ok (.invokestatic 137, 3) := by decide +kernel
theorem dX7_leastInstallment_40 : decode cX7_leastInstallment 40 = .ok (.invokestatic 140, 3) := by decide +kernel
theorem dX7_leastInstallment_43 : decode cX7_leastInstallment 43 = .ok (.lstore 4, 2) := by decide +kernel
theorem dX7_leastInstallment_45 : decode cX7_leastInstallment 45 = .ok (.iconst 0, 1) := by decide +kernel
theorem dX7_leastInstallment_46 : decode cX7_leastInstallment 46 = .ok (.istore 6, 2) := by decide +kernel
theorem dX7_leastInstallment_48 : decode cX7_leastInstallment 48 = .ok (.iload 6, 2) := by decide +kernel
theorem dX7_leastInstallment_50 : decode cX7_leastInstallment 50 = .ok (.bipush 64, 2) := by decide +kernel
theorem dX7_leastInstallment_52 : decode cX7_leastInstallment 52 = .ok (.if_icmp .ge 57, 3) := by decide +kernel
theorem dX7_leastInstallment_55 : decode cX7_leastInstallment 55 = .ok (.lload_n 2, 1) := by decide +kernel
theorem dX7_leastInstallment_56 : decode cX7_leastInstallment 56 = .ok (.lload 4, 2) := by decide +kernel
theorem dX7_leastInstallment_58 : decode cX7_leastInstallment 58 = .ok (.lcmp, 1) := by decide +kernel
theorem dX7_leastInstallment_59 : decode cX7_leastInstallment 59 = .ok (.ifCond .ge 50, 3) := by decide +kernel
theorem dX7_leastInstallment_62 : decode cX7_leastInstallment 62 = .ok (.lload_n 2, 1) := by decide +kernel
theorem dX7_leastInstallment_63 : decode cX7_leastInstallment 63 = .ok (.lload 4, 2) := by decide +kernel
theorem dX7_leastInstallment_65 : decode cX7_leastInstallment 65 = .ok (.lload_n 2, 1) := by decide +kernel
theorem dX7_leastInstallment_66 : decode cX7_leastInstallment 66 = .ok (.lsub, 1) := by decide +kernel
theorem dX7_leastInstallment_67 : decode cX7_leastInstallment 67 = .ok (.ldc2_w 147, 3) := by decide +kernel
theorem dX7_leastInstallment_70 : decode cX7_leastInstallment 70 = .ok (.ldiv, 1) := by decide +kernel
theorem dX7_leastInstallment_71 : decode cX7_leastInstallment 71 = .ok (.ladd, 1) := by decide +kernel
theorem dX7_leastInstallment_72 : decode cX7_leastInstallment 72 = .ok (.lstore 7, 2) := by decide +kernel
theorem dX7_leastInstallment_74 : decode cX7_leastInstallment 74 = .ok (.aload_n 0, 1) := by decide +kernel
theorem dX7_leastInstallment_75 : decode cX7_leastInstallment 75 = .ok (.lload 7, 2) := by decide +kernel
theorem dX7_leastInstallment_77 : decode cX7_leastInstallment 77 = .ok (.iload_n 1, 1) := by decide +kernel
theorem dX7_leastInstallment_78 : decode cX7_leastInstallment 78 = .ok (.invokevirtual 133, 3) := by decide +kernel
theorem dX7_leastInstallment_81 : decode cX7_leastInstallment 81 = .ok (.aload_n 0, 1) := by decide +kernel
theorem dX7_leastInstallment_82 : decode cX7_leastInstallment 82 = .ok (.invokevirtual 143, 3) := by decide +kernel
theorem dX7_leastInstallment_85 : decode cX7_leastInstallment 85 = .ok (.lload 7, 2) := by decide +kernel
theorem dX7_leastInstallment_87 : decode cX7_leastInstallment 87 = .ok (.lcmp, 1) := by decide +kernel
theorem dX7_leastInstallment_88 : decode cX7_leastInstallment 88 = .ok (.ifCond .gt 10, 3) := by decide +kernel
theorem dX7_leastInstallment_91 : decode cX7_leastInstallment 91 = .ok (.lload 7, 2) := by decide +kernel
theorem dX7_leastInstallment_93 : decode cX7_leastInstallment 93 = .ok (.lstore 4, 2) := by decide +kernel
theorem dX7_leastInstallment_95 : decode cX7_leastInstallment 95 = .ok (.goto 8, 3) := by decide +kernel
theorem dX7_leastInstallment_98 : decode cX7_leastInstallment 98 = .ok (.lload 7, 2) := by decide +kernel
theorem dX7_leastInstallment_100 : decode cX7_leastInstallment 100 = .ok (.lconst 1, 1) := by decide +kernel
theorem dX7_leastInstallment_101 : decode cX7_leastInstallment 101 = .ok (.ladd, 1) := by decide +kernel
theorem dX7_leastInstallment_102 : decode cX7_leastInstallment 102 = .ok (.lstore_n 2, 1) := by decide +kernel
theorem dX7_leastInstallment_103 : decode cX7_leastInstallment 103 = .ok (.iinc 6 1, 3) := by decide +kernel
theorem dX7_leastInstallment_106 : decode cX7_leastInstallment 106 = .ok (.goto (-58), 3) := by decide +kernel
theorem dX7_leastInstallment_109 : decode cX7_leastInstallment 109 = .ok (.lload_n 2, 1) := by decide +kernel
theorem dX7_leastInstallment_110 : decode cX7_leastInstallment 110 = .ok (.lreturn, 1) := by decide +kernel
theorem dX7_shareUpwards_0 : decode cX7_shareUpwards 0 = .ok (.iload_n 2, 1) := by decide +kernel
theorem dX7_shareUpwards_1 : decode cX7_shareUpwards 1 = .ok (.iconst 1, 1) := by decide +kernel
theorem dX7_shareUpwards_2 : decode cX7_shareUpwards 2 = .ok (.if_icmp .ge 7, 3) := by decide +kernel
theorem dX7_shareUpwards_9 : decode cX7_shareUpwards 9 = .ok (.lload_n 0, 1) := by decide +kernel
theorem dX7_shareUpwards_10 : decode cX7_shareUpwards 10 = .ok (.iload_n 2, 1) := by decide +kernel
theorem dX7_shareUpwards_11 : decode cX7_shareUpwards 11 = .ok (.i2l, 1) := by decide +kernel
theorem dX7_shareUpwards_12 : decode cX7_shareUpwards 12 = .ok (.ladd, 1) := by decide +kernel
theorem dX7_shareUpwards_13 : decode cX7_shareUpwards 13 = .ok (.lconst 1, 1) := by decide +kernel
theorem dX7_shareUpwards_14 : decode cX7_shareUpwards 14 = .ok (.lsub, 1) := by decide +kernel
theorem dX7_shareUpwards_15 : decode cX7_shareUpwards 15 = .ok (.iload_n 2, 1) := by decide +kernel
theorem dX7_shareUpwards_16 : decode cX7_shareUpwards 16 = .ok (.i2l, 1) := by decide +kernel
theorem dX7_shareUpwards_17 : decode cX7_shareUpwards 17 = .ok (.ldiv, 1) := by decide +kernel
theorem dX7_shareUpwards_18 : decode cX7_shareUpwards 18 = .ok (.lreturn, 1) := by decide +kernel
theorem dX7_has_0 : decode cX7_has 0 = .ok (.iload_n 1, 1) := by decide +kernel
theorem dX7_has_1 : decode cX7_has 1 = .ok (.ifCond .lt 21, 3) := by decide +kernel
theorem dX7_has_4 : decode cX7_has 4 = .ok (.iload_n 1, 1) := by decide +kernel
theorem dX7_has_5 : decode cX7_has 5 = .ok (.aload_n 0, 1) := by decide +kernel
theorem dX7_has_6 : decode cX7_has 6 = .ok (.getfield 110, 3) := by decide +kernel
theorem dX7_has_9 : decode cX7_has 9 = .ok (.if_icmp .ge 13, 3) := by decide +kernel
theorem dX7_has_12 : decode cX7_has 12 = .ok (.iload_n 1, 1) := by decide +kernel
theorem dX7_has_13 : decode cX7_has 13 = .ok (.bipush 60, 2) := by decide +kernel
theorem dX7_has_15 : decode cX7_has 15 = .ok (.if_icmp .ge 7, 3) := by decide +kernel
theorem dX7_has_18 : decode cX7_has 18 = .ok (.iconst 1, 1) := by decide +kernel
theorem dX7_has_19 : decode cX7_has 19 = .ok (.goto 4, 3) := by decide +kernel
theorem dX7_has_22 : decode cX7_has 22 = .ok (.iconst 0, 1) := by decide +kernel
theorem dX7_has_23 : decode cX7_has 23 = .ok (.ireturn, 1) := by decide +kernel
theorem dX8_init_0 : decode cX8_init 0 = .ok (.aload_n 0, 1) := by decide +kernel
theorem dX8_init_1 : decode cX8_init 1 = .ok (.invokespecial 3, 3) := by decide +kernel
theorem dX8_init_4 : decode cX8_init 4 = .ok (.aload_n 0, 1) := by decide +kernel
theorem dX8_init_5 : decode cX8_init 5 = .ok (.bipush 60, 2) := by decide +kernel
theorem dX8_init_7 : decode cX8_init 7 = .ok (.newarray .double, 2) := by decide +kernel
theorem dX8_init_9 : decode cX8_init 9 = .ok (.putfield 9, 3) := by decide +kernel
theorem dX8_init_12 : decode cX8_init 12 = .ok (.aload_n 0, 1) := by decide +kernel
theorem dX8_init_13 : decode cX8_init 13 = .ok (.bipush 60, 2) := by decide +kernel
theorem dX8_init_15 : decode cX8_init 15 = .ok (.newarray .float, 2) := by decide +kernel
theorem dX8_init_17 : decode cX8_init 17 = .ok (.putfield 15, 3) := by decide +kernel
theorem dX8_init_20 : decode cX8_init 20 = .ok (.return_, 1) := by decide +kernel
theorem dX8_fill_0 : decode cX8_fill 0 = .ok (.aload_n 0, 1) := by decide +kernel
theorem dX8_fill_1 : decode cX8_fill 1 = .ok (.iconst 1, 1) := by decide +kernel
theorem dX8_fill_2 : decode cX8_fill 2 = .ok (.putfield 19, 3) := by decide +kernel
theorem dX8_fill_5 : decode cX8_fill 5 = .ok (.aload_n 0, 1) := by decide +kernel
theorem dX8_fill_6 : decode cX8_fill 6 = .ok (.iload_n 2, 1) := by decide +kernel
theorem dX8_fill_7 : decode cX8_fill 7 = .ok (.putfield 23, 3) := by decide +kernel
theorem dX8_fill_10 : decode cX8_fill 10 = .ok (.aload_n 0, 1) := by decide +kernel
theorem dX8_fill_11 : decode cX8_fill 11 = .ok (.aload_n 1, 1) := by decide +kernel
theorem dX8_fill_12 : decode cX8_fill 12 = .ok (.getfield 26, 3) := by decide +kernel
theorem dX8_fill_15 : decode cX8_fill 15 = .ok (.putfield 32, 3) := by decide +kernel
theorem dX8_fill_18 : decode cX8_fill 18 = .ok (.iconst 0, 1) := by decide +kernel
theorem dX8_fill_19 : decode cX8_fill 19 = .ok (.istore_n 3, 1) := by decide +kernel
theorem dX8_fill_20 : decode cX8_fill 20 = .ok (.iload_n 3, 1) := by decide +kernel
theorem dX8_fill_21 : decode cX8_fill 21 = .ok (.aload_n 0, 1) := by decide +kernel
theorem dX8_fill_22 : decode cX8_fill 22 = .ok (.getfield 32, 3) := by decide +kernel
theorem dX8_fill_25 : decode cX8_fill 25 = .ok (.if_icmp .ge 51, 3) := by decide +kernel
theorem dX8_fill_76 : decode cX8_fill 76 = .ok (.return_, 1) := by decide +kernel
theorem dX9_toCents_0 : decode cX9_toCents 0 = .ok (.iload_n 2, 1) := by decide +kernel
theorem dX9_toCents_1 : decode cX9_toCents 1 = .ok (.ifCond .ne 17, 3) := by decide +kernel
theorem dX9_toCents_4 : decode cX9_toCents 4 = .ok (.lload_n 0, 1) := by decide +kernel
theorem dX9_toCents_5 : decode cX9_toCents 5 = .ok (.ldc2_w 9, 3) := by decide +kernel
theorem dX9_toCents_8 : decode cX9_toCents 8 = .ok (.ladd, 1) := by decide +kernel
theorem dX9_toCents_9 : decode cX9_toCents 9 = .ok (.ldc2_w 11, 3) := by decide +kernel
theorem dX9_toCents_12 : decode cX9_toCents 12 = .ok (.invokestatic 13, 3) := by decide +kernel
theorem dX9_toCents_15 : decode cX9_toCents 15 = .ok (.goto 14, 3) := by decide +kernel
theorem dX9_toCents_18 : decode cX9_toCents 18 = .ok (.lload_n 0, 1) := by decide +kernel
theorem dX9_toCents_19 : decode cX9_toCents 19 = .ok (.ldc2_w 19, 3) := by decide +kernel
theorem dX9_toCents_22 : decode cX9_toCents 22 = .ok (.ladd, 1) := by decide +kernel
theorem dX9_toCents_23 : decode cX9_toCents 23 = .ok (.ldc2_w 21, 3) := by decide +kernel
theorem dX9_toCents_26 : decode cX9_toCents 26 = .ok (.invokestatic 13, 3) := by decide +kernel
theorem dX9_toCents_29 : decode cX9_toCents 29 = .ok (.lreturn, 1) := by decide +kernel
theorem dX9_ofCents_0 : decode cX9_ofCents 0 = .ok (.lload_n 0, 1) := by decide +kernel
theorem dX9_ofCents_1 : decode cX9_ofCents 1 = .ok (.iload_n 2, 1) := by decide +kernel
theorem dX9_ofCents_2 : decode cX9_ofCents 2 = .ok (.ifCond .ne 9, 3) := by decide +kernel
theorem dX9_ofCents_5 : decode cX9_ofCents 5 = .ok (.ldc2_w 11, 3) := by decide +kernel
theorem dX9_ofCents_8 : decode cX9_ofCents 8 = .ok (.goto 6, 3) := by decide +kernel
theorem dX9_ofCents_11 : decode cX9_ofCents 11 = .ok (.ldc2_w 21, 3) := by decide +kernel
theorem dX9_ofCents_14 : decode cX9_ofCents 14 = .ok (.lmul, 1) := by decide +kernel
theorem dX9_ofCents_15 : decode cX9_ofCents 15 = .ok (.lreturn, 1) := by decide +kernel
theorem dX10_init_0 : decode cX10_init 0 = .ok (.aload_n 0, 1) := by decide +kernel
theorem dX10_init_1 : decode cX10_init 1 = .ok (.invokespecial 1, 3) := by decide +kernel
theorem dX10_init_4 : decode cX10_init 4 = .ok (.aload_n 0, 1) := by decide +kernel
theorem dX10_init_5 : decode cX10_init 5 = .ok (.new 7, 3) := by decide +kernel
theorem dX10_init_8 : decode cX10_init 8 = .ok (.dup, 1) := by decide +kernel
theorem dX10_init_9 : decode cX10_init 9 = .ok (.invokespecial 9, 3) := by decide +kernel
theorem dX10_init_12 : decode cX10_init 12 = .ok (.putfield 10, 3) := by decide +kernel
theorem dX10_init_15 : decode cX10_init 15 = .ok (.aload_n 0, 1) := by decide +kernel
theorem dX10_init_16 : decode cX10_init 16 = .ok (.new 7, 3) := by decide +kernel
theorem dX10_init_19 : decode cX10_init 19 = .ok (.dup, 1) := by decide +kernel
theorem dX10_init_20 : decode cX10_init 20 = .ok (.invokespecial 9, 3) := by decide +kernel
theorem dX10_init_23 : decode cX10_init 23 = .ok (.putfield 16, 3) := by decide +kernel
theorem dX10_init_26 : decode cX10_init 26 = .ok (.aload_n 0, 1) := by decide +kernel
theorem dX10_init_27 : decode cX10_init 27 = .ok (.new 7, 3) := by decide +kernel
theorem dX10_init_30 : decode cX10_init 30 = .ok (.dup, 1) := by decide +kernel
theorem dX10_init_31 : decode cX10_init 31 = .ok (.invokespecial 9, 3) := by decide +kernel
theorem dX10_init_34 : decode cX10_init 34 = .ok (.putfield 19, 3) := by decide +kernel
theorem dX10_init_37 : decode cX10_init 37 = .ok (.aload_n 0, 1) := by decide +kernel
theorem dX10_init_38 : decode cX10_init 38 = .ok (.bipush 8, 2) := by decide +kernel
theorem dX10_init_40 : decode cX10_init 40 = .ok (.anewarray 7, 3) := by decide +kernel
theorem dX10_init_43 : decode cX10_init 43 = .ok (.putfield 22, 3) := by decide +kernel
theorem dX10_init_46 : decode cX10_init 46 = .ok (.aload_n 0, 1) := by decide +kernel
theorem dX10_init_47 : decode cX10_init 47 = .ok (.new 26, 3) := by decide +kernel
theorem dX10_init_50 : decode cX10_init 50 = .ok (.dup, 1) := by decide +kernel
theorem dX10_init_51 : decode cX10_init 51 = .ok (.invokespecial 28, 3) := by decide +kernel
theorem dX10_init_54 : decode cX10_init 54 = .ok (.putfield 29, 3) := by decide +kernel
theorem dX10_init_57 : decode cX10_init 57 = .ok (.aload_n 0, 1) := by decide +kernel
theorem dX10_init_58 : decode cX10_init 58 = .ok (.new 26, 3) := by decide +kernel
theorem dX10_init_61 : decode cX10_init 61 = .ok (.dup, 1) := by decide +kernel
theorem dX10_init_62 : decode cX10_init 62 = .ok (.invokespecial 28, 3) := by decide +kernel
theorem dX10_init_65 : decode cX10_init 65 = .ok (.putfield 33, 3) := by decide +kernel
theorem dX10_init_68 : decode cX10_init 68 = .ok (.aload_n 0, 1) := by decide +kernel
theorem dX10_init_69 : decode cX10_init 69 = .ok (.new 36, 3) := by decide +kernel
theorem dX10_init_72 : decode cX10_init 72 = .ok (.dup, 1) := by decide +kernel
theorem dX10_init_73 : decode cX10_init 73 = .ok (.invokespecial 38, 3) := by decide +kernel
theorem dX10_init_76 : decode cX10_init 76 = .ok (.putfield 39, 3) := by decide +kernel
theorem dX10_init_79 : decode cX10_init 79 = .ok (.aload_n 0, 1) := by decide +kernel
theorem dX10_init_80 : decode cX10_init 80 = .ok (.new 43, 3) := by decide +kernel
theorem dX10_init_83 : decode cX10_init 83 = .ok (.dup, 1) := by decide +kernel
theorem dX10_init_84 : decode cX10_init 84 = .ok (.invokespecial 45, 3) := by decide +kernel
theorem dX10_init_87 : decode cX10_init 87 = .ok (.putfield 46, 3) := by decide +kernel
theorem dX10_init_90 : decode cX10_init 90 = .ok (.aload_n 0, 1) := by decide +kernel
theorem dX10_init_91 : decode cX10_init 91 = .ok (.iconst 2, 1) := by decide +kernel
theorem dX10_init_92 : decode cX10_init 92 = .ok (.anewarray 50, 3) := by decide +kernel
theorem dX10_init_95 : decode cX10_init 95 = .ok (.putfield 52, 3) := by decide +kernel
theorem dX10_init_98 : decode cX10_init 98 = .ok (.aload_n 0, 1) := by decide +kernel
theorem dX10_init_99 : decode cX10_init 99 = .ok (.iconst (-1), 1) := by decide +kernel
theorem dX10_init_100 : decode cX10_init 100 = .ok (.putfield 56, 3) := by decide +kernel
theorem dX10_init_103 : decode cX10_init 103 = .ok (.aload_n 0, 1) := by decide +kernel
theorem dX10_init_104 : decode cX10_init 104 = .ok (.iconst (-1), 1) := by decide +kernel
theorem dX10_init_105 : decode cX10_init 105 = .ok (.putfield 60, 3) := by decide +kernel
theorem dX10_init_108 : decode cX10_init 108 = .ok (.iconst 0, 1) := by decide +kernel
theorem dX10_init_109 : decode cX10_init 109 = .ok (.istore_n 1, 1) := by decide +kernel
theorem dX10_init_110 : decode cX10_init 110 = .ok (.iload_n 1, 1) := by decide +kernel
theorem dX10_init_111 : decode cX10_init 111 = .ok (.aload_n 0, 1) := by decide +kernel
theorem dX10_init_112 : decode cX10_init 112 = .ok (.getfield 22, 3) := by decide +kernel
theorem dX10_init_115 : decode cX10_init 115 = .ok (.arraylength, 1) := by decide +kernel
theorem dX10_init_116 : decode cX10_init 116 = .ok (.if_icmp .ge 22, 3) := by decide +kernel
theorem dX10_init_119 : decode cX10_init 119 = .ok (.aload_n 0, 1) := by decide +kernel
theorem dX10_init_120 : decode cX10_init 120 = .ok (.getfield 22, 3) := by decide +kernel
theorem dX10_init_123 : decode cX10_init 123 = .ok (.iload_n 1, 1) := by decide +kernel
theorem dX10_init_124 : decode cX10_init 124 = .ok (.new 7, 3) := by decide +kernel
theorem dX10_init_127 : decode cX10_init 127 = .ok (.dup, 1) := by decide +kernel
theorem dX10_init_128 : decode cX10_init 128 = .ok (.invokespecial 9, 3) := by decide +kernel
theorem dX10_init_131 : decode cX10_init 131 = .ok (.aastore, 1) := by decide +kernel
theorem dX10_init_132 : decode cX10_init 132 = .ok (.iinc 1 1, 3) := by decide +kernel
theorem dX10_init_135 : decode cX10_init 135 = .ok (.goto (-25), 3) := by decide +kernel
theorem dX10_init_138 : decode cX10_init 138 = .ok (.iconst 0, 1) := by decide +kernel
theorem dX10_init_139 : decode cX10_init 139 = .ok (.istore_n 1, 1) := by decide +kernel
theorem dX10_init_140 : decode cX10_init 140 = .ok (.iload_n 1, 1) := by decide +kernel
theorem dX10_init_141 : decode cX10_init 141 = .ok (.aload_n 0, 1) := by decide +kernel
theorem dX10_init_142 : decode cX10_init 142 = .ok (.getfield 52, 3) := by decide +kernel
theorem dX10_init_145 : decode cX10_init 145 = .ok (.arraylength, 1) := by decide +kernel
theorem dX10_init_146 : decode cX10_init 146 = .ok (.if_icmp .ge 22, 3) := by decide +kernel
theorem dX10_init_149 : decode cX10_init 149 = .ok (.aload_n 0, 1) := by decide +kernel
theorem dX10_init_150 : decode cX10_init 150 = .ok (.getfield 52, 3) := by decide +kernel
theorem dX10_init_153 : decode cX10_init 153 = .ok (.iload_n 1, 1) := by decide +kernel
theorem dX10_init_154 : decode cX10_init 154 = .ok (.new 50, 3) := by decide +kernel
theorem dX10_init_157 : decode cX10_init 157 = .ok (.dup, 1) := by decide +kernel
theorem dX10_init_158 : decode cX10_init 158 = .ok (.invokespecial 63, 3) := by decide +kernel
theorem dX10_init_161 : decode cX10_init 161 = .ok (.aastore, 1) := by decide +kernel
theorem dX10_init_162 : decode cX10_init 162 = .ok (.iinc 1 1, 3) := by decide +kernel
theorem dX10_init_165 : decode cX10_init 165 = .ok (.goto (-25), 3) := by decide +kernel
theorem dX10_init_168 : decode cX10_init 168 = .ok (.return_, 1) := by decide +kernel
theorem dX10_begin_0 : decode cX10_begin 0 = .ok (.iload_n 1, 1) := by decide +kernel
theorem dX10_begin_1 : decode cX10_begin 1 = .ok (.iconst 1, 1) := by decide +kernel
theorem dX10_begin_2 : decode cX10_begin 2 = .ok (.ldc 64, 2) := by decide +kernel
theorem dX10_begin_4 : decode cX10_begin 4 = .ok (.invokestatic 65, 3) := by decide +kernel
theorem dX10_begin_7 : decode cX10_begin 7 = .ok (.ifCond .eq 34, 3) := by decide +kernel
theorem dX10_begin_10 : decode cX10_begin 10 = .ok (.iload_n 2, 1) := by decide +kernel
theorem dX10_begin_11 : decode cX10_begin 11 = .ok (.iconst 0, 1) := by decide +kernel
theorem dX10_begin_12 : decode cX10_begin 12 = .ok (.sipush 2000, 3) := by decide +kernel
theorem dX10_begin_15 : decode cX10_begin 15 = .ok (.invokestatic 65, 3) := by decide +kernel
theorem dX10_begin_18 : decode cX10_begin 18 = .ok (.ifCond .eq 23, 3) := by decide +kernel
theorem dX10_begin_21 : decode cX10_begin 21 = .ok (.iload_n 3, 1) := by decide +kernel
theorem dX10_begin_22 : decode cX10_begin 22 = .ok (.iconst 1, 1) := by decide +kernel
theorem dX10_begin_23 : decode cX10_begin 23 = .ok (.bipush 60, 2) := by decide +kernel
theorem dX10_begin_25 : decode cX10_begin 25 = .ok (.invokestatic 65, 3) := by decide +kernel
theorem dX10_begin_28 : decode cX10_begin 28 = .ok (.ifCond .eq 13, 3) := by decide +kernel
theorem dX10_begin_31 : decode cX10_begin 31 = .ok (.iload 4, 2) := by decide +kernel
theorem dX10_begin_33 : decode cX10_begin 33 = .ok (.iconst 0, 1) := by decide +kernel
theorem dX10_begin_34 : decode cX10_begin 34 = .ok (.iconst 2, 1) := by decide +kernel
theorem dX10_begin_35 : decode cX10_begin 35 = .ok (.invokestatic 65, 3) := by decide +kernel
theorem dX10_begin_38 : decode cX10_begin 38 = .ok (.ifCond .ne 11, 3) := by decide +kernel
theorem dX10_begin_41 : decode cX10_begin 41 = .ok (.new 69, 3) := by decide +kernel
theorem dX10_begin_44 : decode cX10_begin 44 = .ok (.dup, 1) := by decide +kernel
theorem dX10_begin_45 : decode cX10_begin 45 = .ok (.invokespecial 71, 3) := by decide +kernel
theorem dX10_begin_48 : decode cX10_begin 48 = .ok (.athrow, 1) := by decide +kernel
theorem dX10_begin_49 : decode cX10_begin 49 = .ok (.aload_n 0, 1) := by decide +kernel
theorem dX10_begin_50 : decode cX10_begin 50 = .ok (.invokevirtual 72, 3) := by decide +kernel
theorem dX10_begin_53 : decode cX10_begin 53 = .ok (.aload_n 0, 1) := by decide +kernel
theorem dX10_begin_54 : decode cX10_begin 54 = .ok (.getfield 10, 3) := by decide +kernel
theorem dX10_begin_57 : decode cX10_begin 57 = .ok (.iload_n 1, 1) := by decide +kernel
theorem dX10_begin_58 : decode cX10_begin 58 = .ok (.i2l, 1) := by decide +kernel
theorem dX10_begin_59 : decode cX10_begin 59 = .ok (.iload_n 2, 1) := by decide +kernel
theorem dX10_begin_60 : decode cX10_begin 60 = .ok (.iload_n 3, 1) := by decide +kernel
theorem dX10_begin_61 : decode cX10_begin 61 = .ok (.iload 4, 2) := by decide +kernel
theorem dX10_begin_63 : decode cX10_begin 63 = .ok (.aload_n 0, 1) := by decide +kernel
theorem dX10_begin_64 : decode cX10_begin 64 = .ok (.getfield 39, 3) := by decide +kernel
theorem dX10_begin_67 : decode cX10_begin 67 = .ok (.invokevirtual 75, 3) := by decide +kernel
theorem dX10_begin_70 : decode cX10_begin 70 = .ok (.aload_n 0, 1) := by decide +kernel
theorem dX10_begin_71 : decode cX10_begin 71 = .ok (.getfield 10, 3) := by decide +kernel
theorem dX10_begin_74 : decode cX10_begin 74 = .ok (.aload_n 0, 1) := by decide +kernel
theorem dX10_begin_75 : decode cX10_begin 75 = .ok (.getfield 10, 3) := by decide +kernel
theorem dX10_begin_78 : decode cX10_begin 78 = .ok (.getfield 79, 3) := by decide +kernel
theorem dX10_begin_81 : decode cX10_begin 81 = .ok (.putfield 82, 3) := by decide +kernel
theorem dX10_begin_84 : decode cX10_begin 84 = .ok (.aload_n 0, 1) := by decide +kernel
theorem dX10_begin_85 : decode cX10_begin 85 = .ok (.getfield 10, 3) := by decide +kernel
theorem dX10_begin_88 : decode cX10_begin 88 = .ok (.getfield 85, 3) := by decide +kernel
theorem dX10_begin_91 : decode cX10_begin 91 = .ok (.getfield 89, 3) := by decide +kernel
theorem dX10_begin_94 : decode cX10_begin 94 = .ok (.l2i, 1) := by decide +kernel
theorem dX10_begin_95 : decode cX10_begin 95 = .ok (.ireturn, 1) := by decide +kernel
theorem dX10_pass_0 : decode cX10_pass 0 = .ok (.aload_n 0, 1) := by decide +kernel
theorem dX10_pass_1 : decode cX10_pass 1 = .ok (.iconst 5, 1) := by decide +kernel
theorem dX10_pass_2 : decode cX10_pass 2 = .ok (.iload_n 1, 1) := by decide +kernel
theorem dX10_pass_3 : decode cX10_pass 3 = .ok (.invokevirtual 95, 3) := by decide +kernel
theorem dX10_pass_6 : decode cX10_pass 6 = .ok (.ireturn, 1) := by decide +kernel
theorem dX10_date_0 : decode cX10_date 0 = .ok (.iload_n 1, 1) := by decide +kernel
theorem dX10_date_1 : decode cX10_date 1 = .ok (.tableswitch 72 0 3 #[31, 39, 50, 61], 31) := by decide +kernel
theorem dX10_date_32 : decode cX10_date 32 = .ok (.aload_n 0, 1) := by decide +kernel
theorem dX10_date_33 : decode cX10_date 33 = .ok (.getfield 10, 3) := by decide +kernel
theorem dX10_date_36 : decode cX10_date 36 = .ok (.getfield 99, 3) := by decide +kernel
theorem dX10_date_39 : decode cX10_date 39 = .ok (.ireturn, 1) := by decide +kernel
theorem dX10_date_40 : decode cX10_date 40 = .ok (.aload_n 0, 1) := by decide +kernel
theorem dX10_date_41 : decode cX10_date 41 = .ok (.getfield 10, 3) := by decide +kernel
theorem dX10_date_44 : decode cX10_date 44 = .ok (.getfield 99, 3) := by decide +kernel
theorem dX10_date_47 : decode cX10_date 47 = .ok (.invokestatic 102, 3) := by decide +kernel
theorem dX10_date_50 : decode cX10_date 50 = .ok (.ireturn, 1) := by decide +kernel
theorem dX10_date_51 : decode cX10_date 51 = .ok (.aload_n 0, 1) := by decide +kernel
theorem dX10_date_52 : decode cX10_date 52 = .ok (.getfield 10, 3) := by decide +kernel
theorem dX10_date_55 : decode cX10_date 55 = .ok (.getfield 99, 3) := by decide +kernel
theorem dX10_date_58 : decode cX10_date 58 = .ok (.invokestatic 108, 3) := by decide +kernel
theorem dX10_date_61 : decode cX10_date 61 = .ok (.ireturn, 1) := by decide +kernel
theorem dX10_date_62 : decode cX10_date 62 = .ok (.aload_n 0, 1) := by decide +kernel
theorem dX10_date_63 : decode cX10_date 63 = .ok (.getfield 10, 3) := by decide +kernel
theorem dX10_date_66 : decode cX10_date 66 = .ok (.getfield 99, 3) := by decide +kernel
theorem dX10_date_69 : decode cX10_date 69 = .ok (.invokestatic 111, 3) := by decide +kernel
theorem dX10_date_72 : decode cX10_date 72 = .ok (.ireturn, 1) := by decide +kernel
theorem dX10_date_73 : decode cX10_date 73 = .ok (.new 69, 3) := by decide +kernel
theorem dX10_date_76 : decode cX10_date 76 = .ok (.dup, 1) := by decide +kernel
theorem dX10_date_77 : decode cX10_date 77 = .ok (.invokespecial 71, 3) := by decide +kernel
theorem dX10_date_80 : decode cX10_date 80 = .ok (.athrow, 1) := by decide +kernel
theorem dX10_countedDays_0 : decode cX10_countedDays 0 = .ok (.iload_n 1, 1) := by decide +kernel
theorem dX10_countedDays_1 : decode cX10_countedDays 1 = .ok (.iconst 0, 1) := by decide +kernel
theorem dX10_countedDays_2 : decode cX10_countedDays 2 = .ok (.sipush 8000, 3) := by decide +kernel
theorem dX10_countedDays_5 : decode cX10_countedDays 5 = .ok (.invokestatic 65, 3) := by decide +kernel
theorem dX10_countedDays_8 : decode cX10_countedDays 8 = .ok (.ifCond .eq 23, 3) := by decide +kernel
theorem dX10_countedDays_11 : decode cX10_countedDays 11 = .ok (.iload_n 2, 1) := by decide +kernel
theorem dX10_countedDays_12 : decode cX10_countedDays 12 = .ok (.iload_n 1, 1) := by decide +kernel
theorem dX10_countedDays_13 : decode cX10_countedDays 13 = .ok (.sipush 8000, 3) := by decide +kernel
theorem dX10_countedDays_16 : decode cX10_countedDays 16 = .ok (.invokestatic 65, 3) := by decide +kernel
theorem dX10_countedDays_19 : decode cX10_countedDays 19 = .ok (.ifCond .eq 12, 3) := by decide +kernel
theorem dX10_countedDays_22 : decode cX10_countedDays 22 = .ok (.iload_n 3, 1) := by decide +kernel
theorem dX10_countedDays_23 : decode cX10_countedDays 23 = .ok (.iconst 0, 1) := by decide +kernel
theorem dX10_countedDays_24 : decode cX10_countedDays 24 = .ok (.iconst 2, 1) := by decide +kernel
theorem dX10_countedDays_25 : decode cX10_countedDays 25 = .ok (.invokestatic 65, 3) := by decide +kernel
theorem dX10_countedDays_28 : decode cX10_countedDays 28 = .ok (.ifCond .ne 11, 3) := by decide +kernel
theorem dX10_countedDays_31 : decode cX10_countedDays 31 = .ok (.new 69, 3) := by decide +kernel
theorem dX10_countedDays_34 : decode cX10_countedDays 34 = .ok (.dup, 1) := by decide +kernel
theorem dX10_countedDays_35 : decode cX10_countedDays 35 = .ok (.invokespecial 71, 3) := by decide +kernel
theorem dX10_countedDays_38 : decode cX10_countedDays 38 = .ok (.athrow, 1) := by decide +kernel
theorem dX10_countedDays_39 : decode cX10_countedDays 39 = .ok (.iload_n 1, 1) := by decide +kernel
theorem dX10_countedDays_40 : decode cX10_countedDays 40 = .ok (.iload_n 2, 1) := by decide +kernel
theorem dX10_countedDays_41 : decode cX10_countedDays 41 = .ok (.iload_n 3, 1) := by decide +kernel
theorem dX10_countedDays_42 : decode cX10_countedDays 42 = .ok (.invokestatic 114, 3) := by decide +kernel
theorem dX10_countedDays_45 : decode cX10_countedDays 45 = .ok (.ireturn, 1) := by decide +kernel
theorem dX10_set_0 : decode cX10_set 0 = .ok (.iload_n 1, 1) := by decide +kernel
theorem dX10_set_1 : decode cX10_set 1 = .ok (.iconst 0, 1) := by decide +kernel
theorem dX10_set_2 : decode cX10_set 2 = .ok (.iconst 4, 1) := by decide +kernel
theorem dX10_set_3 : decode cX10_set 3 = .ok (.invokestatic 65, 3) := by decide +kernel
theorem dX10_set_6 : decode cX10_set 6 = .ok (.ifCond .ne 11, 3) := by decide +kernel
theorem dX10_set_9 : decode cX10_set 9 = .ok (.new 118, 3) := by decide +kernel
theorem dX10_set_12 : decode cX10_set 12 = .ok (.dup, 1) := by decide +kernel
theorem dX10_set_13 : decode cX10_set 13 = .ok (.invokespecial 120, 3) := by decide +kernel
theorem dX10_set_16 : decode cX10_set 16 = .ok (.athrow, 1) := by decide +kernel
theorem dX10_set_17 : decode cX10_set 17 = .ok (.aload_n 0, 1) := by decide +kernel
theorem dX10_set_18 : decode cX10_set 18 = .ok (.iload_n 1, 1) := by decide +kernel
theorem dX10_set_19 : decode cX10_set 19 = .ok (.iload_n 2, 1) := by decide +kernel
theorem dX10_set_20 : decode cX10_set 20 = .ok (.invokevirtual 95, 3) := by decide +kernel
theorem dX10_set_23 : decode cX10_set 23 = .ok (.ireturn, 1) := by decide +kernel
theorem dX10_setRate_0 : decode cX10_setRate 0 = .ok (.aload_n 0, 1) := by decide +kernel
theorem dX10_setRate_1 : decode cX10_setRate 1 = .ok (.bipush 6, 2) := by decide +kernel
theorem dX10_setRate_3 : decode cX10_setRate 3 = .ok (.iload_n 1, 1) := by decide +kernel
theorem dX10_setRate_4 : decode cX10_setRate 4 = .ok (.invokevirtual 95, 3) := by decide +kernel
theorem dX10_setHoliday_0 : decode cX10_setHoliday 0 = .ok (.aload_n 0, 1) := by decide +kernel
theorem dX10_setHoliday_1 : decode cX10_setHoliday 1 = .ok (.iload_n 2, 1) := by decide +kernel
theorem dX10_setHoliday_2 : decode cX10_setHoliday 2 = .ok (.ifCond .eq 8, 3) := by decide +kernel
theorem dX10_setHoliday_5 : decode cX10_setHoliday 5 = .ok (.bipush 7, 2) := by decide +kernel
theorem dX10_setHoliday_7 : decode cX10_setHoliday 7 = .ok (.goto 5, 3) := by decide +kernel
theorem dX10_setHoliday_10 : decode cX10_setHoliday 10 = .ok (.bipush 8, 2) := by decide +kernel
theorem dX10_setHoliday_12 : decode cX10_setHoliday 12 = .ok (.iload_n 1, 1) := by decide +kernel
theorem dX10_setHoliday_13 : decode cX10_setHoliday 13 = .ok (.invokevirtual 95, 3) := by decide +kernel
theorem dX10_pay_0 : decode cX10_pay 0 = .ok (.aload_n 0, 1) := by decide +kernel
theorem dX10_pay_1 : decode cX10_pay 1 = .ok (.bipush 9, 2) := by decide +kernel
theorem dX10_pay_3 : decode cX10_pay 3 = .ok (.iload_n 1, 1) := by decide +kernel
theorem dX10_pay_4 : decode cX10_pay 4 = .ok (.invokevirtual 95, 3) := by decide +kernel
theorem dX10_waive_0 : decode cX10_waive 0 = .ok (.aload_n 0, 1) := by decide +kernel
theorem dX10_waive_1 : decode cX10_waive 1 = .ok (.bipush 10, 2) := by decide +kernel
theorem dX10_waive_3 : decode cX10_waive 3 = .ok (.iload_n 1, 1) := by decide +kernel
theorem dX10_waive_4 : decode cX10_waive 4 = .ok (.invokevirtual 95, 3) := by decide +kernel
theorem dX10_explain_0 : decode cX10_explain 0 = .ok (.iload_n 2, 1) := by decide +kernel
theorem dX10_explain_1 : decode cX10_explain 1 = .ok (.iconst 0, 1) := by decide +kernel
theorem dX10_explain_2 : decode cX10_explain 2 = .ok (.iconst 5, 1) := by decide +kernel
theorem dX10_explain_3 : decode cX10_explain 3 = .ok (.invokestatic 65, 3) := by decide +kernel
theorem dX10_explain_6 : decode cX10_explain 6 = .ok (.ifCond .ne 11, 3) := by decide +kernel
theorem dX10_explain_9 : decode cX10_explain 9 = .ok (.new 69, 3) := by decide +kernel
theorem dX10_explain_12 : decode cX10_explain 12 = .ok (.dup, 1) := by decide +kernel
theorem dX10_explain_13 : decode cX10_explain 13 = .ok (.invokespecial 71, 3) := by decide +kernel
theorem dX10_explain_16 : decode cX10_explain 16 = .ok (.athrow, 1) := by decide +kernel
theorem dX10_explain_17 : decode cX10_explain 17 = .ok (.aload_n 0, 1) := by decide +kernel
theorem dX10_explain_18 : decode cX10_explain 18 = .ok (.getfield 10, 3) := by decide +kernel
theorem dX10_explain_21 : decode cX10_explain 21 = .ok (.bipush 9, 2) := by decide +kernel
theorem dX10_explain_23 : decode cX10_explain 23 = .ok (.iload_n 1, 1) := by decide +kernel
theorem dX10_explain_24 : decode cX10_explain 24 = .ok (.invokevirtual 121, 3) := by decide +kernel
theorem dX10_explain_27 : decode cX10_explain 27 = .ok (.invokestatic 124, 3) := by decide +kernel
theorem dX10_number_0 : decode cX10_number 0 = .ok (.aload_n 0, 1) := by decide +kernel
theorem dX10_number_1 : decode cX10_number 1 = .ok (.getfield 10, 3) := by decide +kernel
theorem dX10_number_4 : decode cX10_number 4 = .ok (.getfield 85, 3) := by decide +kernel
theorem dX10_number_7 : decode cX10_number 7 = .ok (.astore_n 2, 1) := by decide +kernel
theorem dX10_number_8 : decode cX10_number 8 = .ok (.iload_n 1, 1) := by decide +kernel
theorem dX10_number_9 : decode cX10_number 9 = .ok (.tableswitch 134 0 9 #[55, 61, 67, 73, 79, 85, 90, 106, 118, 129], 55) := by decide +kernel
theorem dX10_number_64 : decode cX10_number 64 = .ok (.aload_n 2, 1) := by decide +kernel
theorem dX10_number_65 : decode cX10_number 65 = .ok (.getfield 159, 3) := by decide +kernel
theorem dX10_number_68 : decode cX10_number 68 = .ok (.l2i, 1) := by decide +kernel
theorem dX10_number_69 : decode cX10_number 69 = .ok (.ireturn, 1) := by decide +kernel
theorem dX10_number_70 : decode cX10_number 70 = .ok (.aload_n 2, 1) := by decide +kernel
theorem dX10_number_71 : decode cX10_number 71 = .ok (.getfield 162, 3) := by decide +kernel
theorem dX10_number_74 : decode cX10_number 74 = .ok (.l2i, 1) := by decide +kernel
theorem dX10_number_75 : decode cX10_number 75 = .ok (.ireturn, 1) := by decide +kernel
theorem dX10_number_76 : decode cX10_number 76 = .ok (.aload_n 2, 1) := by decide +kernel
