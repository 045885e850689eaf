theorem dX10_number_77 : decode cX10_number 77 = .ok (.getfield 165, 3) := by decide +kernel
theorem dX10_number_80 : decode cX10_number 80 = .ok (.l2i, 1) := by decide +kernel
theorem dX10_number_81 : decode cX10_number 81 = .ok (.ireturn, 1) := by decide +kernel
theorem dX10_number_82 : decode cX10_number 82 = .ok (.aload_n 2, 1) := by decide +kernel
theorem dX10_number_83 : decode cX10_number 83 = .ok (.invokevirtual 168, 3) := by decide +kernel
theorem dX10_number_86 : decode cX10_number 86 = .ok (.l2i, 1) := by decide +kernel
theorem dX10_number_87 : decode cX10_number 87 = .ok (.ireturn, 1) := by decide +kernel
theorem dX10_number_88 : decode cX10_number 88 = .ok (.aload_n 2, 1) := by decide +kernel
theorem dX10_number_89 : decode cX10_number 89 = .ok (.getfield 89, 3) := by decide +kernel
theorem dX10_number_92 : decode cX10_number 92 = .ok (.l2i, 1) := by decide +kernel
theorem dX10_number_93 : decode cX10_number 93 = .ok (.ireturn, 1) := by decide +kernel
theorem dX10_number_94 : decode cX10_number 94 = .ok (.aload_n 2, 1) := by decide +kernel
theorem dX10_number_95 : decode cX10_number 95 = .ok (.getfield 156, 3) := by decide +kernel
theorem dX10_number_98 : decode cX10_number 98 = .ok (.ireturn, 1) := by decide +kernel
theorem dX10_number_99 : decode cX10_number 99 = .ok (.aload_n 2, 1) := by decide +kernel
theorem dX10_number_100 : decode cX10_number 100 = .ok (.getfield 156, 3) := by decide +kernel
theorem dX10_number_103 : decode cX10_number 103 = .ok (.ifCond .le 10, 3) := by decide +kernel
theorem dX10_number_113 : decode cX10_number 113 = .ok (.iconst (-1), 1) := by decide +kernel
theorem dX10_number_114 : decode cX10_number 114 = .ok (.ireturn, 1) := by decide +kernel
theorem dX10_number_115 : decode cX10_number 115 = .ok (.aload_n 0, 1) := by decide +kernel
theorem dX10_number_116 : decode cX10_number 116 = .ok (.getfield 10, 3) := by decide +kernel
theorem dX10_number_119 : decode cX10_number 119 = .ok (.getfield 140, 3) := by decide +kernel
theorem dX10_number_122 : decode cX10_number 122 = .ok (.invokevirtual 144, 3) := by decide +kernel
theorem dX10_number_125 : decode cX10_number 125 = .ok (.l2i, 1) := by decide +kernel
theorem dX10_number_126 : decode cX10_number 126 = .ok (.ireturn, 1) := by decide +kernel
theorem dX10_number_127 : decode cX10_number 127 = .ok (.aload_n 0, 1) := by decide +kernel
theorem dX10_number_128 : decode cX10_number 128 = .ok (.getfield 10, 3) := by decide +kernel
theorem dX10_number_131 : decode cX10_number 131 = .ok (.getfield 140, 3) := by decide +kernel
theorem dX10_number_134 : decode cX10_number 134 = .ok (.invokevirtual 174, 3) := by decide +kernel
theorem dX10_number_137 : decode cX10_number 137 = .ok (.ireturn, 1) := by decide +kernel
theorem dX10_number_138 : decode cX10_number 138 = .ok (.aload_n 2, 1) := by decide +kernel
theorem dX10_number_139 : decode cX10_number 139 = .ok (.getfield 178, 3) := by decide +kernel
theorem dX10_number_142 : decode cX10_number 142 = .ok (.ireturn, 1) := by decide +kernel
theorem dX10_number_143 : decode cX10_number 143 = .ok (.new 69, 3) := by decide +kernel
theorem dX10_number_146 : decode cX10_number 146 = .ok (.dup, 1) := by decide +kernel
theorem dX10_number_147 : decode cX10_number 147 = .ok (.invokespecial 71, 3) := by decide +kernel
theorem dX10_number_150 : decode cX10_number 150 = .ok (.athrow, 1) := by decide +kernel
theorem dX10_accruedUnits_0 : decode cX10_accruedUnits 0 = .ok (.aload_n 0, 1) := by decide +kernel
theorem dX10_accruedUnits_1 : decode cX10_accruedUnits 1 = .ok (.getfield 10, 3) := by decide +kernel
theorem dX10_accruedUnits_4 : decode cX10_accruedUnits 4 = .ok (.getfield 85, 3) := by decide +kernel
theorem dX10_accruedUnits_7 : decode cX10_accruedUnits 7 = .ok (.getfield 181, 3) := by decide +kernel
theorem dX10_accruedUnits_10 : decode cX10_accruedUnits 10 = .ok (.lreturn, 1) := by decide +kernel
theorem dX10_total_0 : decode cX10_total 0 = .ok (.aload_n 0, 1) := by decide +kernel
theorem dX10_total_1 : decode cX10_total 1 = .ok (.getfield 10, 3) := by decide +kernel
theorem dX10_total_4 : decode cX10_total 4 = .ok (.getfield 85, 3) := by decide +kernel
theorem dX10_total_7 : decode cX10_total 7 = .ok (.getfield 136, 3) := by decide +kernel
theorem dX10_total_10 : decode cX10_total 10 = .ok (.astore_n 2, 1) := by decide +kernel
theorem dX10_total_11 : decode cX10_total 11 = .ok (.iload_n 1, 1) := by decide +kernel
theorem dX10_total_12 : decode cX10_total 12 = .ok (.ifCond .lt 9, 3) := by decide +kernel
theorem dX10_total_15 : decode cX10_total 15 = .ok (.iload_n 1, 1) := by decide +kernel
theorem dX10_total_16 : decode cX10_total 16 = .ok (.aload_n 2, 1) := by decide +kernel
theorem dX10_total_17 : decode cX10_total 17 = .ok (.arraylength, 1) := by decide +kernel
theorem dX10_total_18 : decode cX10_total 18 = .ok (.if_icmp .lt 11, 3) := by decide +kernel
theorem dX10_total_21 : decode cX10_total 21 = .ok (.new 69, 3) := by decide +kernel
theorem dX10_total_24 : decode cX10_total 24 = .ok (.dup, 1) := by decide +kernel
theorem dX10_total_25 : decode cX10_total 25 = .ok (.invokespecial 71, 3) := by decide +kernel
theorem dX10_total_28 : decode cX10_total 28 = .ok (.athrow, 1) := by decide +kernel
theorem dX10_total_29 : decode cX10_total 29 = .ok (.aload_n 2, 1) := by decide +kernel
theorem dX10_total_30 : decode cX10_total 30 = .ok (.iload_n 1, 1) := by decide +kernel
theorem dX10_total_31 : decode cX10_total 31 = .ok (.laload, 1) := by decide +kernel
theorem dX10_total_32 : decode cX10_total 32 = .ok (.l2i, 1) := by decide +kernel
theorem dX10_total_33 : decode cX10_total 33 = .ok (.ireturn, 1) := by decide +kernel
theorem dX10_condition_0 : decode cX10_condition 0 = .ok (.aload_n 0, 1) := by decide +kernel
theorem dX10_condition_1 : decode cX10_condition 1 = .ok (.getfield 10, 3) := by decide +kernel
theorem dX10_condition_4 : decode cX10_condition 4 = .ok (.getfield 85, 3) := by decide +kernel
theorem dX10_condition_7 : decode cX10_condition 7 = .ok (.getfield 184, 3) := by decide +kernel
theorem dX10_condition_10 : decode cX10_condition 10 = .ok (.ifCond .ne 5, 3) := by decide +kernel
theorem dX10_condition_13 : decode cX10_condition 13 = .ok (.iconst 0, 1) := by decide +kernel
theorem dX10_condition_14 : decode cX10_condition 14 = .ok (.ireturn, 1) := by decide +kernel
theorem dX10_interestShare_0 : decode cX10_interestShare 0 = .ok (.aload_n 0, 1) := by decide +kernel
theorem dX10_interestShare_1 : decode cX10_interestShare 1 = .ok (.getfield 10, 3) := by decide +kernel
theorem dX10_interestShare_4 : decode cX10_interestShare 4 = .ok (.getfield 85, 3) := by decide +kernel
theorem dX10_interestShare_7 : decode cX10_interestShare 7 = .ok (.getfield 136, 3) := by decide +kernel
theorem dX10_interestShare_10 : decode cX10_interestShare 10 = .ok (.iconst 0, 1) := by decide +kernel
theorem dX10_interestShare_11 : decode cX10_interestShare 11 = .ok (.laload, 1) := by decide +kernel
theorem dX10_interestShare_12 : decode cX10_interestShare 12 = .ok (.lstore_n 1, 1) := by decide +kernel
theorem dX10_interestShare_13 : decode cX10_interestShare 13 = .ok (.lload_n 1, 1) := by decide +kernel
theorem dX10_interestShare_14 : decode cX10_interestShare 14 = .ok (.lconst 0, 1) := by decide +kernel
theorem dX10_interestShare_15 : decode cX10_interestShare 15 = .ok (.lcmp, 1) := by decide +kernel
theorem dX10_interestShare_16 : decode cX10_interestShare 16 = .ok (.ifCond .gt 11, 3) := by decide +kernel
theorem dX10_interestShare_19 : decode cX10_interestShare 19 = .ok (.new 195, 3) := by decide +kernel
theorem dX10_interestShare_22 : decode cX10_interestShare 22 = .ok (.dup, 1) := by decide +kernel
theorem dX10_interestShare_23 : decode cX10_interestShare 23 = .ok (.invokespecial 197, 3) := by decide +kernel
theorem dX10_interestShare_26 : decode cX10_interestShare 26 = .ok (.athrow, 1) := by decide +kernel
theorem dX10_progress_0 : decode cX10_progress 0 = .ok (.aload_n 0, 1) := by decide +kernel
theorem dX10_progress_1 : decode cX10_progress 1 = .ok (.getfield 10, 3) := by decide +kernel
theorem dX10_progress_4 : decode cX10_progress 4 = .ok (.getfield 85, 3) := by decide +kernel
theorem dX10_progress_7 : decode cX10_progress 7 = .ok (.getfield 198, 3) := by decide +kernel
theorem dX10_progress_10 : decode cX10_progress 10 = .ok (.aload_n 0, 1) := by decide +kernel
theorem dX10_progress_11 : decode cX10_progress 11 = .ok (.getfield 10, 3) := by decide +kernel
theorem dX10_progress_14 : decode cX10_progress 14 = .ok (.getfield 85, 3) := by decide +kernel
theorem dX10_progress_17 : decode cX10_progress 17 = .ok (.getfield 136, 3) := by decide +kernel
theorem dX10_progress_20 : decode cX10_progress 20 = .ok (.bipush 7, 2) := by decide +kernel
theorem dX10_progress_22 : decode cX10_progress 22 = .ok (.laload, 1) := by decide +kernel
theorem dX10_progress_23 : decode cX10_progress 23 = .ok (.ladd, 1) := by decide +kernel
theorem dX10_progress_24 : decode cX10_progress 24 = .ok (.lstore_n 1, 1) := by decide +kernel
theorem dX10_progress_25 : decode cX10_progress 25 = .ok (.aload_n 0, 1) := by decide +kernel
theorem dX10_progress_26 : decode cX10_progress 26 = .ok (.getfield 10, 3) := by decide +kernel
theorem dX10_progress_29 : decode cX10_progress 29 = .ok (.getfield 85, 3) := by decide +kernel
theorem dX10_progress_32 : decode cX10_progress 32 = .ok (.getfield 184, 3) := by decide +kernel
theorem dX10_progress_35 : decode cX10_progress 35 = .ok (.ifCond .eq 9, 3) := by decide +kernel
theorem dX10_progress_44 : decode cX10_progress 44 = .ok (.new 201, 3) := by decide +kernel
theorem dX10_progress_47 : decode cX10_progress 47 = .ok (.dup, 1) := by decide +kernel
theorem dX10_progress_48 : decode cX10_progress 48 = .ok (.invokespecial 203, 3) := by decide +kernel
theorem dX10_progress_51 : decode cX10_progress 51 = .ok (.athrow, 1) := by decide +kernel
theorem dX10_scheduleLength_0 : decode cX10_scheduleLength 0 = .ok (.aload_n 0, 1) := by decide +kernel
theorem dX10_scheduleLength_1 : decode cX10_scheduleLength 1 = .ok (.invokevirtual 204, 3) := by decide +kernel
theorem dX10_scheduleLength_4 : decode cX10_scheduleLength 4 = .ok (.aload_n 0, 1) := by decide +kernel
theorem dX10_scheduleLength_5 : decode cX10_scheduleLength 5 = .ok (.getfield 39, 3) := by decide +kernel
theorem dX10_scheduleLength_8 : decode cX10_scheduleLength 8 = .ok (.getfield 207, 3) := by decide +kernel
theorem dX10_scheduleLength_11 : decode cX10_scheduleLength 11 = .ok (.ireturn, 1) := by decide +kernel
theorem dX10_schedule_0 : decode cX10_schedule 0 = .ok (.aload_n 0, 1) := by decide +kernel
theorem dX10_schedule_1 : decode cX10_schedule 1 = .ok (.invokevirtual 204, 3) := by decide +kernel
theorem dX10_schedule_4 : decode cX10_schedule 4 = .ok (.aload_n 0, 1) := by decide +kernel
theorem dX10_schedule_5 : decode cX10_schedule 5 = .ok (.getfield 39, 3) := by decide +kernel
theorem dX10_schedule_8 : decode cX10_schedule 8 = .ok (.iload_n 1, 1) := by decide +kernel
theorem dX10_schedule_9 : decode cX10_schedule 9 = .ok (.invokevirtual 210, 3) := by decide +kernel
theorem dX10_schedule_12 : decode cX10_schedule 12 = .ok (.ifCond .ne 11, 3) := by decide +kernel
theorem dX10_schedule_15 : decode cX10_schedule 15 = .ok (.new 118, 3) := by decide +kernel
theorem dX10_schedule_18 : decode cX10_schedule 18 = .ok (.dup, 1) := by decide +kernel
theorem dX10_schedule_19 : decode cX10_schedule 19 = .ok (.invokespecial 120, 3) := by decide +kernel
theorem dX10_schedule_22 : decode cX10_schedule 22 = .ok (.athrow, 1) := by decide +kernel
theorem dX10_installmentFor_0 : decode cX10_installmentFor 0 = .ok (.iload_n 1, 1) := by decide +kernel
theorem dX10_installmentFor_1 : decode cX10_installmentFor 1 = .ok (.iconst 1, 1) := by decide +kernel
theorem dX10_installmentFor_2 : decode cX10_installmentFor 2 = .ok (.bipush 60, 2) := by decide +kernel
theorem dX10_installmentFor_4 : decode cX10_installmentFor 4 = .ok (.invokestatic 65, 3) := by decide +kernel
theorem dX10_installmentFor_7 : decode cX10_installmentFor 7 = .ok (.ifCond .ne 11, 3) := by decide +kernel
theorem dX10_installmentFor_10 : decode cX10_installmentFor 10 = .ok (.new 69, 3) := by decide +kernel
theorem dX10_installmentFor_13 : decode cX10_installmentFor 13 = .ok (.dup, 1) := by decide +kernel
theorem dX10_installmentFor_14 : decode cX10_installmentFor 14 = .ok (.invokespecial 71, 3) := by decide +kernel
theorem dX10_installmentFor_17 : decode cX10_installmentFor 17 = .ok (.athrow, 1) := by decide +kernel
theorem dX10_installmentFor_18 : decode cX10_installmentFor 18 = .ok (.aload_n 0, 1) := by decide +kernel
theorem dX10_installmentFor_19 : decode cX10_installmentFor 19 = .ok (.getfield 10, 3) := by decide +kernel
theorem dX10_installmentFor_22 : decode cX10_installmentFor 22 = .ok (.getfield 85, 3) := by decide +kernel
theorem dX10_installmentFor_25 : decode cX10_installmentFor 25 = .ok (.getfield 156, 3) := by decide +kernel
theorem dX10_installmentFor_28 : decode cX10_installmentFor 28 = .ok (.ifCond .gt 11, 3) := by decide +kernel
theorem dX10_installmentFor_31 : decode cX10_installmentFor 31 = .ok (.new 201, 3) := by decide +kernel
theorem dX10_installmentFor_34 : decode cX10_installmentFor 34 = .ok (.dup, 1) := by decide +kernel
theorem dX10_installmentFor_35 : decode cX10_installmentFor 35 = .ok (.invokespecial 203, 3) := by decide +kernel
theorem dX10_installmentFor_38 : decode cX10_installmentFor 38 = .ok (.athrow, 1) := by decide +kernel
theorem dX10_append_0 : decode cX10_append 0 = .ok (.iload_n 1, 1) := by decide +kernel
theorem dX10_append_1 : decode cX10_append 1 = .ok (.bipush 32, 2) := by decide +kernel
theorem dX10_append_3 : decode cX10_append 3 = .ok (.bipush 126, 2) := by decide +kernel
theorem dX10_append_5 : decode cX10_append 5 = .ok (.invokestatic 65, 3) := by decide +kernel
theorem dX10_append_8 : decode cX10_append 8 = .ok (.ifCond .ne 11, 3) := by decide +kernel
theorem dX10_append_11 : decode cX10_append 11 = .ok (.new 69, 3) := by decide +kernel
theorem dX10_append_14 : decode cX10_append 14 = .ok (.dup, 1) := by decide +kernel
theorem dX10_append_15 : decode cX10_append 15 = .ok (.invokespecial 71, 3) := by decide +kernel
theorem dX10_append_18 : decode cX10_append 18 = .ok (.athrow, 1) := by decide +kernel
theorem dX10_append_19 : decode cX10_append 19 = .ok (.aload_n 0, 1) := by decide +kernel
theorem dX10_append_20 : decode cX10_append 20 = .ok (.getfield 46, 3) := by decide +kernel
theorem dX10_append_23 : decode cX10_append 23 = .ok (.invokevirtual 226, 3) := by decide +kernel
theorem dX10_append_26 : decode cX10_append 26 = .ok (.ifCond .ne 11, 3) := by decide +kernel
theorem dX10_append_37 : decode cX10_append 37 = .ok (.aload_n 0, 1) := by decide +kernel
theorem dX10_append_38 : decode cX10_append 38 = .ok (.getfield 46, 3) := by decide +kernel
theorem dX10_append_41 : decode cX10_append 41 = .ok (.iload_n 1, 1) := by decide +kernel
theorem dX10_append_42 : decode cX10_append 42 = .ok (.invokevirtual 229, 3) := by decide +kernel
theorem dX10_append_45 : decode cX10_append 45 = .ok (.aload_n 0, 1) := by decide +kernel
theorem dX10_append_46 : decode cX10_append 46 = .ok (.getfield 46, 3) := by decide +kernel
theorem dX10_append_49 : decode cX10_append 49 = .ok (.getfield 233, 3) := by decide +kernel
theorem dX10_append_52 : decode cX10_append 52 = .ok (.ireturn, 1) := by decide +kernel
theorem dX10_execute_0 : decode cX10_execute 0 = .ok (.aload_n 0, 1) := by decide +kernel
theorem dX10_execute_1 : decode cX10_execute 1 = .ok (.getfield 46, 3) := by decide +kernel
theorem dX10_execute_4 : decode cX10_execute 4 = .ok (.invokevirtual 236, 3) := by decide +kernel
theorem dX10_execute_7 : decode cX10_execute 7 = .ok (.istore_n 1, 1) := by decide +kernel
theorem dX10_execute_8 : decode cX10_execute 8 = .ok (.aload_n 0, 1) := by decide +kernel
theorem dX10_execute_9 : decode cX10_execute 9 = .ok (.getfield 46, 3) := by decide +kernel
theorem dX10_execute_12 : decode cX10_execute 12 = .ok (.invokevirtual 239, 3) := by decide +kernel
theorem dX10_execute_15 : decode cX10_execute 15 = .ok (.iload_n 1, 1) := by decide +kernel
theorem dX10_execute_16 : decode cX10_execute 16 = .ok (.ifCond .lt 16, 3) := by decide +kernel
theorem dX10_execute_19 : decode cX10_execute 19 = .ok (.aload_n 0, 1) := by decide +kernel
theorem dX10_execute_20 : decode cX10_execute 20 = .ok (.iload_n 1, 1) := by decide +kernel
theorem dX10_execute_21 : decode cX10_execute 21 = .ok (.putfield 56, 3) := by decide +kernel
theorem dX10_execute_24 : decode cX10_execute 24 = .ok (.new 69, 3) := by decide +kernel
theorem dX10_execute_27 : decode cX10_execute 27 = .ok (.dup, 1) := by decide +kernel
theorem dX10_execute_28 : decode cX10_execute 28 = .ok (.invokespecial 71, 3) := by decide +kernel
theorem dX10_execute_31 : decode cX10_execute 31 = .ok (.athrow, 1) := by decide +kernel
theorem dX10_errorPosition_0 : decode cX10_errorPosition 0 = .ok (.aload_n 0, 1) := by decide +kernel
theorem dX10_errorPosition_1 : decode cX10_errorPosition 1 = .ok (.getfield 56, 3) := by decide +kernel
theorem dX10_errorPosition_4 : decode cX10_errorPosition 4 = .ok (.ifCond .ge 11, 3) := by decide +kernel
theorem dX10_errorPosition_7 : decode cX10_errorPosition 7 = .ok (.new 261, 3) := by decide +kernel
theorem dX10_errorPosition_10 : decode cX10_errorPosition 10 = .ok (.dup, 1) := by decide +kernel
theorem dX10_errorPosition_11 : decode cX10_errorPosition 11 = .ok (.invokespecial 263, 3) := by decide +kernel
theorem dX10_errorPosition_14 : decode cX10_errorPosition 14 = .ok (.athrow, 1) := by decide +kernel
theorem dX10_refusedCommand_0 : decode cX10_refusedCommand 0 = .ok (.aload_n 0, 1) := by decide +kernel
theorem dX10_refusedCommand_1 : decode cX10_refusedCommand 1 = .ok (.getfield 60, 3) := by decide +kernel
theorem dX10_refusedCommand_4 : decode cX10_refusedCommand 4 = .ok (.ifCond .ge 11, 3) := by decide +kernel
theorem dX10_refusedCommand_7 : decode cX10_refusedCommand 7 = .ok (.new 261, 3) := by decide +kernel
theorem dX10_refusedCommand_10 : decode cX10_refusedCommand 10 = .ok (.dup, 1) := by decide +kernel
theorem dX10_refusedCommand_11 : decode cX10_refusedCommand 11 = .ok (.invokespecial 263, 3) := by decide +kernel
theorem dX10_refusedCommand_14 : decode cX10_refusedCommand 14 = .ok (.athrow, 1) := by decide +kernel
theorem dX10_ledgerSize_0 : decode cX10_ledgerSize 0 = .ok (.aload_n 0, 1) := by decide +kernel
theorem dX10_ledgerSize_1 : decode cX10_ledgerSize 1 = .ok (.getfield 10, 3) := by decide +kernel
theorem dX10_ledgerSize_4 : decode cX10_ledgerSize 4 = .ok (.getfield 264, 3) := by decide +kernel
theorem dX10_ledgerSize_7 : decode cX10_ledgerSize 7 = .ok (.getfield 268, 3) := by decide +kernel
theorem dX10_ledgerSize_10 : decode cX10_ledgerSize 10 = .ok (.ireturn, 1) := by decide +kernel
theorem dX10_ledger_0 : decode cX10_ledger 0 = .ok (.iload_n 1, 1) := by decide +kernel
theorem dX10_ledger_1 : decode cX10_ledger 1 = .ok (.iconst 0, 1) := by decide +kernel
theorem dX10_ledger_2 : decode cX10_ledger 2 = .ok (.aload_n 0, 1) := by decide +kernel
theorem dX10_ledger_3 : decode cX10_ledger 3 = .ok (.getfield 10, 3) := by decide +kernel
theorem dX10_ledger_6 : decode cX10_ledger 6 = .ok (.getfield 264, 3) := by decide +kernel
theorem dX10_ledger_9 : decode cX10_ledger 9 = .ok (.getfield 268, 3) := by decide +kernel
theorem dX10_ledger_12 : decode cX10_ledger 12 = .ok (.iconst 1, 1) := by decide +kernel
theorem dX10_ledger_13 : decode cX10_ledger 13 = .ok (.isub, 1) := by decide +kernel
theorem dX10_ledger_14 : decode cX10_ledger 14 = .ok (.invokestatic 65, 3) := by decide +kernel
theorem dX10_ledger_17 : decode cX10_ledger 17 = .ok (.ifCond .eq 12, 3) := by decide +kernel
theorem dX10_ledger_29 : decode cX10_ledger 29 = .ok (.new 118, 3) := by decide +kernel
theorem dX10_ledger_32 : decode cX10_ledger 32 = .ok (.dup, 1) := by decide +kernel
theorem dX10_ledger_33 : decode cX10_ledger 33 = .ok (.invokespecial 120, 3) := by decide +kernel
theorem dX10_ledger_36 : decode cX10_ledger 36 = .ok (.athrow, 1) := by decide +kernel
theorem dX10_undo_0 : decode cX10_undo 0 = .ok (.aload_n 0, 1) := by decide +kernel
theorem dX10_undo_1 : decode cX10_undo 1 = .ok (.getfield 276, 3) := by decide +kernel
theorem dX10_undo_4 : decode cX10_undo 4 = .ok (.ifCond .gt 11, 3) := by decide +kernel
theorem dX10_undo_7 : decode cX10_undo 7 = .ok (.new 201, 3) := by decide +kernel
theorem dX10_undo_10 : decode cX10_undo 10 = .ok (.dup, 1) := by decide +kernel
theorem dX10_undo_11 : decode cX10_undo 11 = .ok (.invokespecial 203, 3) := by decide +kernel
theorem dX10_undo_14 : decode cX10_undo 14 = .ok (.athrow, 1) := by decide +kernel
theorem dX10_isConfirmed_0 : decode cX10_isConfirmed 0 = .ok (.aload_n 0, 1) := by decide +kernel
theorem dX10_isConfirmed_1 : decode cX10_isConfirmed 1 = .ok (.getfield 10, 3) := by decide +kernel
theorem dX10_isConfirmed_4 : decode cX10_isConfirmed 4 = .ok (.getfield 85, 3) := by decide +kernel
theorem dX10_isConfirmed_7 : decode cX10_isConfirmed 7 = .ok (.astore_n 1, 1) := by decide +kernel
theorem dX10_isConfirmed_8 : decode cX10_isConfirmed 8 = .ok (.aload_n 1, 1) := by decide +kernel
theorem dX10_isConfirmed_9 : decode cX10_isConfirmed 9 = .ok (.getfield 184, 3) := by decide +kernel
theorem dX10_isConfirmed_12 : decode cX10_isConfirmed 12 = .ok (.ifCond .ne 5, 3) := by decide +kernel
theorem dX10_isConfirmed_15 : decode cX10_isConfirmed 15 = .ok (.iconst 1, 1) := by decide +kernel
theorem dX10_isConfirmed_16 : decode cX10_isConfirmed 16 = .ok (.ireturn, 1) := by decide +kernel
theorem dX10_storeSchedule_0 : decode cX10_storeSchedule 0 = .ok (.iload_n 1, 1) := by decide +kernel
theorem dX10_storeSchedule_1 : decode cX10_storeSchedule 1 = .ok (.ifCond .lt 12, 3) := by decide +kernel
theorem dX10_storeSchedule_4 : decode cX10_storeSchedule 4 = .ok (.iload_n 1, 1) := by decide +kernel
theorem dX10_storeSchedule_5 : decode cX10_storeSchedule 5 = .ok (.aload_n 0, 1) := by decide +kernel
theorem dX10_storeSchedule_6 : decode cX10_storeSchedule 6 = .ok (.getfield 52, 3) := by decide +kernel
theorem dX10_storeSchedule_9 : decode cX10_storeSchedule 9 = .ok (.arraylength, 1) := by decide +kernel
theorem dX10_storeSchedule_10 : decode cX10_storeSchedule 10 = .ok (.if_icmp .lt 11, 3) := by decide +kernel
theorem dX10_storeSchedule_13 : decode cX10_storeSchedule 13 = .ok (.new 118, 3) := by decide +kernel
theorem dX10_storeSchedule_16 : decode cX10_storeSchedule 16 = .ok (.dup, 1) := by decide +kernel
theorem dX10_storeSchedule_17 : decode cX10_storeSchedule 17 = .ok (.invokespecial 120, 3) := by decide +kernel
theorem dX10_storeSchedule_20 : decode cX10_storeSchedule 20 = .ok (.athrow, 1) := by decide +kernel
theorem dX10_storeSchedule_21 : decode cX10_storeSchedule 21 = .ok (.aload_n 0, 1) := by decide +kernel
theorem dX10_storeSchedule_22 : decode cX10_storeSchedule 22 = .ok (.invokevirtual 204, 3) := by decide +kernel
theorem dX10_storeSchedule_25 : decode cX10_storeSchedule 25 = .ok (.aload_n 0, 1) := by decide +kernel
theorem dX10_storeSchedule_26 : decode cX10_storeSchedule 26 = .ok (.getfield 52, 3) := by decide +kernel
theorem dX10_storeSchedule_29 : decode cX10_storeSchedule 29 = .ok (.iload_n 1, 1) := by decide +kernel
theorem dX10_storeSchedule_30 : decode cX10_storeSchedule 30 = .ok (.aaload, 1) := by decide +kernel
theorem dX10_storeSchedule_31 : decode cX10_storeSchedule 31 = .ok (.astore_n 3, 1) := by decide +kernel
theorem dX10_storeSchedule_32 : decode cX10_storeSchedule 32 = .ok (.aload_n 3, 1) := by decide +kernel
theorem dX10_storeSchedule_33 : decode cX10_storeSchedule 33 = .ok (.ifnull 12, 3) := by decide +kernel
theorem dX10_storeSchedule_36 : decode cX10_storeSchedule 36 = .ok (.aload_n 3, 1) := by decide +kernel
theorem dX10_storeSchedule_37 : decode cX10_storeSchedule 37 = .ok (.aload_n 0, 1) := by decide +kernel
theorem dX10_storeSchedule_38 : decode cX10_storeSchedule 38 = .ok (.getfield 39, 3) := by decide +kernel
theorem dX10_storeSchedule_41 : decode cX10_storeSchedule 41 = .ok (.iload_n 2, 1) := by decide +kernel
theorem dX10_storeSchedule_42 : decode cX10_storeSchedule 42 = .ok (.invokevirtual 315, 3) := by decide +kernel
theorem dX10_storeSchedule_45 : decode cX10_storeSchedule 45 = .ok (.aload_n 0, 1) := by decide +kernel
theorem dX10_storeSchedule_46 : decode cX10_storeSchedule 46 = .ok (.getfield 39, 3) := by decide +kernel
theorem dX10_storeSchedule_49 : decode cX10_storeSchedule 49 = .ok (.getfield 207, 3) := by decide +kernel
theorem dX10_storeSchedule_52 : decode cX10_storeSchedule 52 = .ok (.ireturn, 1) := by decide +kernel
theorem dX10_copyRow_0 : decode cX10_copyRow 0 = .ok (.iload_n 1, 1) := by decide +kernel
theorem dX10_copyRow_1 : decode cX10_copyRow 1 = .ok (.iconst 0, 1) := by decide +kernel
theorem dX10_copyRow_2 : decode cX10_copyRow 2 = .ok (.iconst 1, 1) := by decide +kernel
theorem dX10_copyRow_3 : decode cX10_copyRow 3 = .ok (.invokestatic 65, 3) := by decide +kernel
theorem dX10_copyRow_6 : decode cX10_copyRow 6 = .ok (.ifCond .eq 12, 3) := by decide +kernel
theorem dX10_copyRow_9 : decode cX10_copyRow 9 = .ok (.aload_n 0, 1) := by decide +kernel
theorem dX10_copyRow_10 : decode cX10_copyRow 10 = .ok (.getfield 52, 3) := by decide +kernel
theorem dX10_copyRow_13 : decode cX10_copyRow 13 = .ok (.arraylength, 1) := by decide +kernel
theorem dX10_copyRow_14 : decode cX10_copyRow 14 = .ok (.iconst 2, 1) := by decide +kernel
theorem dX10_copyRow_15 : decode cX10_copyRow 15 = .ok (.if_icmp .ge 11, 3) := by decide +kernel
theorem dX10_copyRow_18 : decode cX10_copyRow 18 = .ok (.new 118, 3) := by decide +kernel
theorem dX10_copyRow_21 : decode cX10_copyRow 21 = .ok (.dup, 1) := by decide +kernel
theorem dX10_copyRow_22 : decode cX10_copyRow 22 = .ok (.invokespecial 120, 3) := by decide +kernel
theorem dX10_copyRow_25 : decode cX10_copyRow 25 = .ok (.athrow, 1) := by decide +kernel
theorem dX10_copyRow_26 : decode cX10_copyRow 26 = .ok (.aload_n 0, 1) := by decide +kernel
theorem dX10_copyRow_27 : decode cX10_copyRow 27 = .ok (.getfield 52, 3) := by decide +kernel
theorem dX10_copyRow_30 : decode cX10_copyRow 30 = .ok (.iload_n 1, 1) := by decide +kernel
theorem dX10_copyRow_31 : decode cX10_copyRow 31 = .ok (.aaload, 1) := by decide +kernel
theorem dX10_copyRow_32 : decode cX10_copyRow 32 = .ok (.astore_n 3, 1) := by decide +kernel
theorem dX10_copyRow_33 : decode cX10_copyRow 33 = .ok (.aload_n 0, 1) := by decide +kernel
theorem dX10_copyRow_34 : decode cX10_copyRow 34 = .ok (.getfield 52, 3) := by decide +kernel
theorem dX10_copyRow_37 : decode cX10_copyRow 37 = .ok (.iconst 1, 1) := by decide +kernel
theorem dX10_copyRow_38 : decode cX10_copyRow 38 = .ok (.iload_n 1, 1) := by decide +kernel
theorem dX10_copyRow_39 : decode cX10_copyRow 39 = .ok (.isub, 1) := by decide +kernel
theorem dX10_copyRow_40 : decode cX10_copyRow 40 = .ok (.aaload, 1) := by decide +kernel
theorem dX10_copyRow_41 : decode cX10_copyRow 41 = .ok (.astore 4, 2) := by decide +kernel
theorem dX10_copyRow_43 : decode cX10_copyRow 43 = .ok (.aload_n 3, 1) := by decide +kernel
theorem dX10_copyRow_44 : decode cX10_copyRow 44 = .ok (.ifnull 23, 3) := by decide +kernel
theorem dX10_copyRow_47 : decode cX10_copyRow 47 = .ok (.aload 4, 2) := by decide +kernel
theorem dX10_copyRow_49 : decode cX10_copyRow 49 = .ok (.ifnull 18, 3) := by decide +kernel
theorem dX10_copyRow_52 : decode cX10_copyRow 52 = .ok (.aload_n 3, 1) := by decide +kernel
theorem dX10_copyRow_53 : decode cX10_copyRow 53 = .ok (.getfield 319, 3) := by decide +kernel
theorem dX10_copyRow_56 : decode cX10_copyRow 56 = .ok (.ifCond .eq 11, 3) := by decide +kernel
theorem dX10_copyRow_67 : decode cX10_copyRow 67 = .ok (.new 261, 3) := by decide +kernel
theorem dX10_copyRow_70 : decode cX10_copyRow 70 = .ok (.dup, 1) := by decide +kernel
theorem dX10_copyRow_71 : decode cX10_copyRow 71 = .ok (.invokespecial 263, 3) := by decide +kernel
theorem dX10_copyRow_74 : decode cX10_copyRow 74 = .ok (.athrow, 1) := by decide +kernel
theorem dX10_stored_0 : decode cX10_stored 0 = .ok (.iload_n 1, 1) := by decide +kernel
theorem dX10_stored_1 : decode cX10_stored 1 = .ok (.ifCond .lt 12, 3) := by decide +kernel
theorem dX10_stored_4 : decode cX10_stored 4 = .ok (.iload_n 1, 1) := by decide +kernel
theorem dX10_stored_5 : decode cX10_stored 5 = .ok (.aload_n 0, 1) := by decide +kernel
theorem dX10_stored_6 : decode cX10_stored 6 = .ok (.getfield 52, 3) := by decide +kernel
theorem dX10_stored_9 : decode cX10_stored 9 = .ok (.arraylength, 1) := by decide +kernel
theorem dX10_stored_10 : decode cX10_stored 10 = .ok (.if_icmp .lt 11, 3) := by decide +kernel
theorem dX10_stored_13 : decode cX10_stored 13 = .ok (.new 118, 3) := by decide +kernel
theorem dX10_stored_16 : decode cX10_stored 16 = .ok (.dup, 1) := by decide +kernel
theorem dX10_stored_17 : decode cX10_stored 17 = .ok (.invokespecial 120, 3) := by decide +kernel
theorem dX10_stored_20 : decode cX10_stored 20 = .ok (.athrow, 1) := by decide +kernel
theorem dX10_stored_21 : decode cX10_stored 21 = .ok (.aload_n 0, 1) := by decide +kernel
theorem dX10_stored_22 : decode cX10_stored 22 = .ok (.getfield 52, 3) := by decide +kernel
theorem dX10_stored_25 : decode cX10_stored 25 = .ok (.iload_n 1, 1) := by decide +kernel
theorem dX10_stored_26 : decode cX10_stored 26 = .ok (.aaload, 1) := by decide +kernel
theorem dX10_stored_27 : decode cX10_stored 27 = .ok (.astore_n 3, 1) := by decide +kernel
theorem dX10_stored_28 : decode cX10_stored 28 = .ok (.aload_n 3, 1) := by decide +kernel
theorem dX10_stored_29 : decode cX10_stored 29 = .ok (.ifnull 18, 3) := by decide +kernel
theorem dX10_stored_32 : decode cX10_stored 32 = .ok (.aload_n 3, 1) := by decide +kernel
theorem dX10_stored_33 : decode cX10_stored 33 = .ok (.getfield 319, 3) := by decide +kernel
theorem dX10_stored_36 : decode cX10_stored 36 = .ok (.ifCond .eq 11, 3) := by decide +kernel
theorem dX10_stored_47 : decode cX10_stored 47 = .ok (.new 261, 3) := by decide +kernel
theorem dX10_stored_50 : decode cX10_stored 50 = .ok (.dup, 1) := by decide +kernel
theorem dX10_stored_51 : decode cX10_stored 51 = .ok (.invokespecial 263, 3) := by decide +kernel
theorem dX10_stored_54 : decode cX10_stored 54 = .ok (.athrow, 1) := by decide +kernel
theorem dX10_snapshot_0 : decode cX10_snapshot 0 = .ok (.aload_n 0, 1) := by decide +kernel
theorem dX10_snapshot_1 : decode cX10_snapshot 1 = .ok (.getfield 19, 3) := by decide +kernel
theorem dX10_snapshot_4 : decode cX10_snapshot 4 = .ok (.aload_n 0, 1) := by decide +kernel
theorem dX10_snapshot_5 : decode cX10_snapshot 5 = .ok (.getfield 10, 3) := by decide +kernel
theorem dX10_snapshot_8 : decode cX10_snapshot 8 = .ok (.invokevirtual 128, 3) := by decide +kernel
theorem dX10_snapshot_11 : decode cX10_snapshot 11 = .ok (.aload_n 0, 1) := by decide +kernel
theorem dX10_snapshot_12 : decode cX10_snapshot 12 = .ok (.getfield 33, 3) := by decide +kernel
theorem dX10_snapshot_15 : decode cX10_snapshot 15 = .ok (.aload_n 0, 1) := by decide +kernel
theorem dX10_snapshot_16 : decode cX10_snapshot 16 = .ok (.getfield 29, 3) := by decide +kernel
theorem dX10_snapshot_19 : decode cX10_snapshot 19 = .ok (.invokevirtual 338, 3) := by decide +kernel
theorem dX10_snapshot_22 : decode cX10_snapshot 22 = .ok (.aload_n 0, 1) := by decide +kernel
theorem dX10_snapshot_23 : decode cX10_snapshot 23 = .ok (.iconst 1, 1) := by decide +kernel
theorem dX10_snapshot_24 : decode cX10_snapshot 24 = .ok (.putfield 341, 3) := by decide +kernel
theorem dX10_snapshot_27 : decode cX10_snapshot 27 = .ok (.aload_n 0, 1) := by decide +kernel
theorem dX10_snapshot_28 : decode cX10_snapshot 28 = .ok (.getfield 10, 3) := by decide +kernel
theorem dX10_snapshot_31 : decode cX10_snapshot 31 = .ok (.getfield 99, 3) := by decide +kernel
theorem dX10_snapshot_34 : decode cX10_snapshot 34 = .ok (.ireturn, 1) := by decide +kernel
theorem dX10_restore_0 : decode cX10_restore 0 = .ok (.aload_n 0, 1) := by decide +kernel
theorem dX10_restore_1 : decode cX10_restore 1 = .ok (.getfield 341, 3) := by decide +kernel
theorem dX10_restore_4 : decode cX10_restore 4 = .ok (.ifCond .ne 11, 3) := by decide +kernel
theorem dX10_restore_7 : decode cX10_restore 7 = .ok (.new 201, 3) := by decide +kernel
theorem dX10_restore_10 : decode cX10_restore 10 = .ok (.dup, 1) := by decide +kernel
theorem dX10_restore_11 : decode cX10_restore 11 = .ok (.invokespecial 203, 3) := by decide +kernel
theorem dX10_restore_14 : decode cX10_restore 14 = .ok (.athrow, 1) := by decide +kernel
theorem dX10_isWithin_0 : decode cX10_isWithin 0 = .ok (.iload_n 0, 1) := by decide +kernel
theorem dX10_isWithin_1 : decode cX10_isWithin 1 = .ok (.iload_n 1, 1) := by decide +kernel
theorem dX10_isWithin_2 : decode cX10_isWithin 2 = .ok (.if_icmp .lt 12, 3) := by decide +kernel
theorem dX10_isWithin_5 : decode cX10_isWithin 5 = .ok (.iload_n 0, 1) := by decide +kernel
theorem dX10_isWithin_6 : decode cX10_isWithin 6 = .ok (.iload_n 2, 1) := by decide +kernel
theorem dX10_isWithin_7 : decode cX10_isWithin 7 = .ok (.if_icmp .gt 7, 3) := by decide +kernel
theorem dX10_isWithin_10 : decode cX10_isWithin 10 = .ok (.iconst 1, 1) := by decide +kernel
theorem dX10_isWithin_11 : decode cX10_isWithin 11 = .ok (.goto 4, 3) := by decide +kernel
theorem dX10_isWithin_14 : decode cX10_isWithin 14 = .ok (.iconst 0, 1) := by decide +kernel
theorem dX10_isWithin_15 : decode cX10_isWithin 15 = .ok (.ireturn, 1) := by decide +kernel
theorem dX10_refuse_0 : decode cX10_refuse 0 = .ok (.iload_n 0, 1) := by decide +kernel
theorem dX10_refuse_1 : decode cX10_refuse 1 = .ok (.iconst 1, 1) := by decide +kernel
theorem dX10_refuse_2 : decode cX10_refuse 2 = .ok (.if_icmp .ne 11, 3) := by decide +kernel
theorem dX10_refuse_5 : decode cX10_refuse 5 = .ok (.new 69, 3) := by decide +kernel
theorem dX10_refuse_8 : decode cX10_refuse 8 = .ok (.dup, 1) := by decide +kernel
theorem dX10_refuse_9 : decode cX10_refuse 9 = .ok (.invokespecial 71, 3) := by decide +kernel
theorem dX10_refuse_12 : decode cX10_refuse 12 = .ok (.athrow, 1) := by decide +kernel
theorem dX10_refuse_13 : decode cX10_refuse 13 = .ok (.iload_n 0, 1) := by decide +kernel
theorem dX10_refuse_14 : decode cX10_refuse 14 = .ok (.iconst 2, 1) := by decide +kernel
theorem dX10_refuse_15 : decode cX10_refuse 15 = .ok (.if_icmp .ne 11, 3) := by decide +kernel
theorem dX10_refuse_18 : decode cX10_refuse 18 = .ok (.new 201, 3) := by decide +kernel
theorem dX10_refuse_21 : decode cX10_refuse 21 = .ok (.dup, 1) := by decide +kernel
theorem dX10_refuse_22 : decode cX10_refuse 22 = .ok (.invokespecial 203, 3) := by decide +kernel
theorem dX10_refuse_25 : decode cX10_refuse 25 = .ok (.athrow, 1) := by decide +kernel
theorem dX10_refuse_26 : decode cX10_refuse 26 = .ok (.iload_n 0, 1) := by decide +kernel
theorem dX10_refuse_27 : decode cX10_refuse 27 = .ok (.iconst 3, 1) := by decide +kernel
theorem dX10_refuse_28 : decode cX10_refuse 28 = .ok (.if_icmp .ne 11, 3) := by decide +kernel
theorem dX10_refuse_39 : decode cX10_refuse 39 = .ok (.return_, 1) := by decide +kernel
theorem dX10_command_0 : decode cX10_command 0 = .ok (.aload_n 0, 1) := by decide +kernel
theorem dX10_command_1 : decode cX10_command 1 = .ok (.getfield 10, 3) := by decide +kernel
theorem dX10_command_4 : decode cX10_command 4 = .ok (.iload_n 1, 1) := by decide +kernel
theorem dX10_command_5 : decode cX10_command 5 = .ok (.iload_n 2, 1) := by decide +kernel
theorem dX10_command_6 : decode cX10_command 6 = .ok (.invokevirtual 121, 3) := by decide +kernel
theorem dX10_command_9 : decode cX10_command 9 = .ok (.invokestatic 124, 3) := by decide +kernel
theorem dX10_command_12 : decode cX10_command 12 = .ok (.aload_n 0, 1) := by decide +kernel
theorem dX10_command_13 : decode cX10_command 13 = .ok (.invokevirtual 72, 3) := by decide +kernel
theorem dX10_command_16 : decode cX10_command 16 = .ok (.aload_n 0, 1) := by decide +kernel
theorem dX10_command_17 : decode cX10_command 17 = .ok (.getfield 29, 3) := by decide +kernel
theorem dX10_command_20 : decode cX10_command 20 = .ok (.aload_n 0, 1) := by decide +kernel
theorem dX10_command_21 : decode cX10_command 21 = .ok (.getfield 10, 3) := by decide +kernel
theorem dX10_command_24 : decode cX10_command 24 = .ok (.iload_n 1, 1) := by decide +kernel
theorem dX10_command_25 : decode cX10_command 25 = .ok (.iload_n 2, 1) := by decide +kernel
theorem dX10_command_26 : decode cX10_command 26 = .ok (.invokevirtual 257, 3) := by decide +kernel
theorem dX10_command_29 : decode cX10_command 29 = .ok (.aload_n 0, 1) := by decide +kernel
theorem dX10_command_30 : decode cX10_command 30 = .ok (.getfield 10, 3) := by decide +kernel
theorem dX10_command_33 : decode cX10_command 33 = .ok (.iload_n 1, 1) := by decide +kernel
theorem dX10_command_34 : decode cX10_command 34 = .ok (.iload_n 2, 1) := by decide +kernel
theorem dX10_command_35 : decode cX10_command 35 = .ok (.aload_n 0, 1) := by decide +kernel
theorem dX10_command_36 : decode cX10_command 36 = .ok (.getfield 39, 3) := by decide +kernel
theorem dX10_command_39 : decode cX10_command 39 = .ok (.iconst 0, 1) := by decide +kernel
theorem dX10_command_40 : decode cX10_command 40 = .ok (.invokevirtual 132, 3) := by decide +kernel
theorem dX10_command_43 : decode cX10_command 43 = .ok (.ireturn, 1) := by decide +kernel
theorem dX10_remember_0 : decode cX10_remember 0 = .ok (.aload_n 0, 1) := by decide +kernel
theorem dX10_remember_1 : decode cX10_remember 1 = .ok (.getfield 22, 3) := by decide +kernel
theorem dX10_remember_4 : decode cX10_remember 4 = .ok (.aload_n 0, 1) := by decide +kernel
theorem dX10_remember_5 : decode cX10_remember 5 = .ok (.getfield 279, 3) := by decide +kernel
theorem dX10_remember_8 : decode cX10_remember 8 = .ok (.bipush 8, 2) := by decide +kernel
theorem dX10_remember_10 : decode cX10_remember 10 = .ok (.invokestatic 282, 3) := by decide +kernel
theorem dX10_remember_13 : decode cX10_remember 13 = .ok (.aaload, 1) := by decide +kernel
theorem dX10_remember_14 : decode cX10_remember 14 = .ok (.astore_n 1, 1) := by decide +kernel
theorem dX10_remember_15 : decode cX10_remember 15 = .ok (.aload_n 1, 1) := by decide +kernel
theorem dX10_remember_16 : decode cX10_remember 16 = .ok (.ifnull 11, 3) := by decide +kernel
theorem dX10_remember_19 : decode cX10_remember 19 = .ok (.aload_n 1, 1) := by decide +kernel
theorem dX10_remember_20 : decode cX10_remember 20 = .ok (.aload_n 0, 1) := by decide +kernel
theorem dX10_remember_21 : decode cX10_remember 21 = .ok (.getfield 10, 3) := by decide +kernel
theorem dX10_remember_24 : decode cX10_remember 24 = .ok (.invokevirtual 128, 3) := by decide +kernel
theorem dX10_remember_27 : decode cX10_remember 27 = .ok (.aload_n 0, 1) := by decide +kernel
theorem dX10_remember_28 : decode cX10_remember 28 = .ok (.dup, 1) := by decide +kernel
theorem dX10_remember_29 : decode cX10_remember 29 = .ok (.getfield 279, 3) := by decide +kernel
theorem dX10_remember_32 : decode cX10_remember 32 = .ok (.iconst 1, 1) := by decide +kernel
theorem dX10_remember_33 : decode cX10_remember 33 = .ok (.iadd, 1) := by decide +kernel
theorem dX10_remember_34 : decode cX10_remember 34 = .ok (.putfield 279, 3) := by decide +kernel
theorem dX10_remember_37 : decode cX10_remember 37 = .ok (.aload_n 0, 1) := by decide +kernel
theorem dX10_remember_38 : decode cX10_remember 38 = .ok (.aload_n 0, 1) := by decide +kernel
theorem dX10_remember_39 : decode cX10_remember 39 = .ok (.getfield 276, 3) := by decide +kernel
theorem dX10_remember_42 : decode cX10_remember 42 = .ok (.iconst 1, 1) := by decide +kernel
theorem dX10_remember_43 : decode cX10_remember 43 = .ok (.iadd, 1) := by decide +kernel
theorem dX10_remember_44 : decode cX10_remember 44 = .ok (.bipush 8, 2) := by decide +kernel
theorem dX10_remember_46 : decode cX10_remember 46 = .ok (.invokestatic 326, 3) := by decide +kernel
theorem dX10_remember_49 : decode cX10_remember 49 = .ok (.putfield 276, 3) := by decide +kernel
theorem dX10_remember_52 : decode cX10_remember 52 = .ok (.return_, 1) := by decide +kernel
theorem dX10_projectNow_0 : decode cX10_projectNow 0 = .ok (.aload_n 0, 1) := by decide +kernel
theorem dX10_projectNow_1 : decode cX10_projectNow 1 = .ok (.getfield 39, 3) := by decide +kernel
theorem dX10_projectNow_4 : decode cX10_projectNow 4 = .ok (.aload_n 0, 1) := by decide +kernel
theorem dX10_projectNow_5 : decode cX10_projectNow 5 = .ok (.getfield 10, 3) := by decide +kernel
theorem dX10_projectNow_8 : decode cX10_projectNow 8 = .ok (.aload_n 0, 1) := by decide +kernel
theorem dX10_projectNow_9 : decode cX10_projectNow 9 = .ok (.getfield 10, 3) := by decide +kernel
theorem dX10_projectNow_12 : decode cX10_projectNow 12 = .ok (.getfield 85, 3) := by decide +kernel
theorem dX10_projectNow_15 : decode cX10_projectNow 15 = .ok (.getfield 156, 3) := by decide +kernel
theorem dX10_projectNow_18 : decode cX10_projectNow 18 = .ok (.invokevirtual 218, 3) := by decide +kernel
theorem dX10_projectNow_21 : decode cX10_projectNow 21 = .ok (.aload_n 0, 1) := by decide +kernel
theorem dX10_projectNow_22 : decode cX10_projectNow 22 = .ok (.getfield 39, 3) := by decide +kernel
theorem dX10_projectNow_25 : decode cX10_projectNow 25 = .ok (.aload_n 0, 1) := by decide +kernel
theorem dX10_projectNow_26 : decode cX10_projectNow 26 = .ok (.getfield 10, 3) := by decide +kernel
theorem dX10_projectNow_29 : decode cX10_projectNow 29 = .ok (.getfield 85, 3) := by decide +kernel
theorem dX10_projectNow_32 : decode cX10_projectNow 32 = .ok (.getfield 89, 3) := by decide +kernel
theorem dX10_projectNow_35 : decode cX10_projectNow 35 = .ok (.aload_n 0, 1) := by decide +kernel
theorem dX10_projectNow_36 : decode cX10_projectNow 36 = .ok (.getfield 10, 3) := by decide +kernel
theorem dX10_projectNow_39 : decode cX10_projectNow 39 = .ok (.getfield 85, 3) := by decide +kernel
theorem dX10_projectNow_42 : decode cX10_projectNow 42 = .ok (.getfield 156, 3) := by decide +kernel
theorem dX10_projectNow_45 : decode cX10_projectNow 45 = .ok (.invokevirtual 344, 3) := by decide +kernel
theorem dX10_projectNow_48 : decode cX10_projectNow 48 = .ok (.return_, 1) := by decide +kernel
theorem dX11_init_0 : decode cX11_init 0 = .ok (.aload_n 0, 1) := by decide +kernel
theorem dX11_init_1 : decode cX11_init 1 = .ok (.invokespecial 1, 3) := by decide +kernel
theorem dX11_init_4 : decode cX11_init 4 = .ok (.aload_n 0, 1) := by decide +kernel
theorem dX11_init_5 : decode cX11_init 5 = .ok (.sipush 1460, 3) := by decide +kernel
theorem dX11_init_8 : decode cX11_init 8 = .ok (.newarray .int, 2) := by decide +kernel
theorem dX11_init_10 : decode cX11_init 10 = .ok (.putfield 7, 3) := by decide +kernel
theorem dX11_init_13 : decode cX11_init 13 = .ok (.aload_n 0, 1) := by decide +kernel
theorem dX11_init_14 : decode cX11_init 14 = .ok (.sipush 1460, 3) := by decide +kernel
theorem dX11_init_17 : decode cX11_init 17 = .ok (.newarray .int, 2) := by decide +kernel
theorem dX11_init_19 : decode cX11_init 19 = .ok (.putfield 13, 3) := by decide +kernel
theorem dX11_init_22 : decode cX11_init 22 = .ok (.aload_n 0, 1) := by decide +kernel
theorem dX11_init_23 : decode cX11_init 23 = .ok (.sipush 11680, 3) := by decide +kernel
theorem dX11_init_26 : decode cX11_init 26 = .ok (.newarray .int, 2) := by decide +kernel
theorem dX11_init_28 : decode cX11_init 28 = .ok (.putfield 16, 3) := by decide +kernel
theorem dX11_init_31 : decode cX11_init 31 = .ok (.aload_n 0, 1) := by decide +kernel
theorem dX11_init_32 : decode cX11_init 32 = .ok (.bipush 8, 2) := by decide +kernel
theorem dX11_init_34 : decode cX11_init 34 = .ok (.newarray .long, 2) := by decide +kernel
theorem dX11_init_36 : decode cX11_init 36 = .ok (.putfield 19, 3) := by decide +kernel
theorem dX11_init_39 : decode cX11_init 39 = .ok (.aload_n 0, 1) := by decide +kernel
theorem dX11_init_40 : decode cX11_init 40 = .ok (.sipush 1460, 3) := by decide +kernel
theorem dX11_init_43 : decode cX11_init 43 = .ok (.newarray .int, 2) := by decide +kernel
theorem dX11_init_45 : decode cX11_init 45 = .ok (.putfield 23, 3) := by decide +kernel
theorem dX11_init_48 : decode cX11_init 48 = .ok (.aload_n 0, 1) := by decide +kernel
theorem dX11_init_49 : decode cX11_init 49 = .ok (.sipush 300, 3) := by decide +kernel
theorem dX11_init_52 : decode cX11_init 52 = .ok (.newarray .int, 2) := by decide +kernel
theorem dX11_init_54 : decode cX11_init 54 = .ok (.putfield 26, 3) := by decide +kernel
theorem dX11_init_57 : decode cX11_init 57 = .ok (.aload_n 0, 1) := by decide +kernel
theorem dX11_init_58 : decode cX11_init 58 = .ok (.iconst 4, 1) := by decide +kernel
theorem dX11_init_59 : decode cX11_init 59 = .ok (.newarray .int, 2) := by decide +kernel
theorem dX11_init_61 : decode cX11_init 61 = .ok (.putfield 29, 3) := by decide +kernel
theorem dX11_init_64 : decode cX11_init 64 = .ok (.aload_n 0, 1) := by decide +kernel
theorem dX11_init_65 : decode cX11_init 65 = .ok (.bipush 60, 2) := by decide +kernel
theorem dX11_init_67 : decode cX11_init 67 = .ok (.newarray .int, 2) := by decide +kernel
theorem dX11_init_69 : decode cX11_init 69 = .ok (.putfield 32, 3) := by decide +kernel
theorem dX11_init_72 : decode cX11_init 72 = .ok (.aload_n 0, 1) := by decide +kernel
theorem dX11_init_73 : decode cX11_init 73 = .ok (.iconst (-1), 1) := by decide +kernel
theorem dX11_init_74 : decode cX11_init 74 = .ok (.putfield 35, 3) := by decide +kernel
theorem dX11_init_77 : decode cX11_init 77 = .ok (.aload_n 0, 1) := by decide +kernel
theorem dX11_init_78 : decode cX11_init 78 = .ok (.iconst (-1), 1) := by decide +kernel
theorem dX11_init_79 : decode cX11_init 79 = .ok (.putfield 39, 3) := by decide +kernel
theorem dX11_init_82 : decode cX11_init 82 = .ok (.aload_n 0, 1) := by decide +kernel
theorem dX11_init_83 : decode cX11_init 83 = .ok (.bipush 60, 2) := by decide +kernel
theorem dX11_init_85 : decode cX11_init 85 = .ok (.newarray .int, 2) := by decide +kernel
theorem dX11_init_87 : decode cX11_init 87 = .ok (.putfield 42, 3) := by decide +kernel
theorem dX11_init_90 : decode cX11_init 90 = .ok (.aload_n 0, 1) := by decide +kernel
theorem dX11_init_91 : decode cX11_init 91 = .ok (.bipush 120, 2) := by decide +kernel
theorem dX11_init_93 : decode cX11_init 93 = .ok (.newarray .double, 2) := by decide +kernel
theorem dX11_init_95 : decode cX11_init 95 = .ok (.putfield 45, 3) := by decide +kernel
theorem dX11_init_98 : decode cX11_init 98 = .ok (.aload_n 0, 1) := by decide +kernel
theorem dX11_init_99 : decode cX11_init 99 = .ok (.iconst 2, 1) := by decide +kernel
theorem dX11_init_100 : decode cX11_init 100 = .ok (.newarray .int, 2) := by decide +kernel
theorem dX11_init_102 : decode cX11_init 102 = .ok (.dup, 1) := by decide +kernel
theorem dX11_init_103 : decode cX11_init 103 = .ok (.iconst 0, 1) := by decide +kernel
theorem dX11_init_104 : decode cX11_init 104 = .ok (.iconst (-1), 1) := by decide +kernel
theorem dX11_init_105 : decode cX11_init 105 = .ok (.iastore, 1) := by decide +kernel
theorem dX11_init_106 : decode cX11_init 106 = .ok (.dup, 1) := by decide +kernel
theorem dX11_init_107 : decode cX11_init 107 = .ok (.iconst 1, 1) := by decide +kernel
theorem dX11_init_108 : decode cX11_init 108 = .ok (.iconst (-1), 1) := by decide +kernel
theorem dX11_init_109 : decode cX11_init 109 = .ok (.iastore, 1) := by decide +kernel
theorem dX11_init_110 : decode cX11_init 110 = .ok (.putfield 49, 3) := by decide +kernel
theorem dX11_init_113 : decode cX11_init 113 = .ok (.aload_n 0, 1) := by decide +kernel
theorem dX11_init_114 : decode cX11_init 114 = .ok (.iconst 2, 1) := by decide +kernel
theorem dX11_init_115 : decode cX11_init 115 = .ok (.newarray .boolean, 2) := by decide +kernel
theorem dX11_init_117 : decode cX11_init 117 = .ok (.putfield 52, 3) := by decide +kernel
theorem dX11_init_120 : decode cX11_init 120 = .ok (.aload_n 0, 1) := by decide +kernel
theorem dX11_init_121 : decode cX11_init 121 = .ok (.getfield 7, 3) := by decide +kernel
theorem dX11_init_124 : decode cX11_init 124 = .ok (.iconst 4, 1) := by decide +kernel
theorem dX11_init_125 : decode cX11_init 125 = .ok (.bipush 10, 2) := by decide +kernel
theorem dX11_init_127 : decode cX11_init 127 = .ok (.iastore, 1) := by decide +kernel
theorem dX11_init_128 : decode cX11_init 128 = .ok (.aload_n 0, 1) := by decide +kernel
theorem dX11_init_129 : decode cX11_init 129 = .ok (.getfield 7, 3) := by decide +kernel
theorem dX11_init_132 : decode cX11_init 132 = .ok (.iconst 5, 1) := by decide +kernel
theorem dX11_init_133 : decode cX11_init 133 = .ok (.sipush 500, 3) := by decide +kernel
theorem dX11_init_136 : decode cX11_init 136 = .ok (.iastore, 1) := by decide +kernel
theorem dX11_init_137 : decode cX11_init 137 = .ok (.return_, 1) := by decide +kernel
theorem dX11_thrown_0 : decode cX11_thrown 0 = .ok (.aload_n 0, 1) := by decide +kernel
theorem dX11_thrown_1 : decode cX11_thrown 1 = .ok (.getfield 56, 3) := by decide +kernel
theorem dX11_thrown_4 : decode cX11_thrown 4 = .ok (.ireturn, 1) := by decide +kernel
theorem dX11_fails_0 : decode cX11_fails 0 = .ok (.aload_n 0, 1) := by decide +kernel
theorem dX11_fails_1 : decode cX11_fails 1 = .ok (.iload_n 1, 1) := by decide +kernel
theorem dX11_fails_2 : decode cX11_fails 2 = .ok (.putfield 56, 3) := by decide +kernel
theorem dX11_fails_5 : decode cX11_fails 5 = .ok (.iconst 0, 1) := by decide +kernel
theorem dX11_fails_6 : decode cX11_fails 6 = .ok (.ireturn, 1) := by decide +kernel
theorem dX11_in_0 : decode cX11_in 0 = .ok (.iload_n 0, 1) := by decide +kernel
theorem dX11_in_1 : decode cX11_in 1 = .ok (.iload_n 1, 1) := by decide +kernel
theorem dX11_in_2 : decode cX11_in 2 = .ok (.if_icmp .lt 12, 3) := by decide +kernel
theorem dX11_in_5 : decode cX11_in 5 = .ok (.iload_n 0, 1) := by decide +kernel
theorem dX11_in_6 : decode cX11_in 6 = .ok (.iload_n 2, 1) := by decide +kernel
theorem dX11_in_7 : decode cX11_in 7 = .ok (.if_icmp .gt 7, 3) := by decide +kernel
theorem dX11_in_10 : decode cX11_in 10 = .ok (.iconst 1, 1) := by decide +kernel
theorem dX11_in_11 : decode cX11_in 11 = .ok (.goto 4, 3) := by decide +kernel
theorem dX11_in_14 : decode cX11_in 14 = .ok (.iconst 0, 1) := by decide +kernel
theorem dX11_in_15 : decode cX11_in 15 = .ok (.ireturn, 1) := by decide +kernel
theorem dX11_begins_0 : decode cX11_begins 0 = .ok (.aload_n 0, 1) := by decide +kernel
theorem dX11_begins_1 : decode cX11_begins 1 = .ok (.getfield 66, 3) := by decide +kernel
theorem dX11_begins_4 : decode cX11_begins 4 = .ok (.ifCond .eq 4, 3) := by decide +kernel
theorem dX11_begins_8 : decode cX11_begins 8 = .ok (.aload_n 0, 1) := by decide +kernel
theorem dX11_begins_9 : decode cX11_begins 9 = .ok (.getfield 70, 3) := by decide +kernel
theorem dX11_begins_12 : decode cX11_begins 12 = .ok (.bipush 8, 2) := by decide +kernel
theorem dX11_begins_14 : decode cX11_begins 14 = .ok (.if_icmp .ne 72, 3) := by decide +kernel
theorem dX11_begins_86 : decode cX11_begins 86 = .ok (.iconst 0, 1) := by decide +kernel
theorem dX11_begins_87 : decode cX11_begins 87 = .ok (.istore_n 1, 1) := by decide +kernel
theorem dX11_begins_88 : decode cX11_begins 88 = .ok (.iload_n 1, 1) := by decide +kernel
theorem dX11_begins_89 : decode cX11_begins 89 = .ok (.sipush 1460, 3) := by decide +kernel
theorem dX11_begins_92 : decode cX11_begins 92 = .ok (.if_icmp .ge 30, 3) := by decide +kernel
theorem dX11_begins_95 : decode cX11_begins 95 = .ok (.aload_n 0, 1) := by decide +kernel
theorem dX11_begins_96 : decode cX11_begins 96 = .ok (.getfield 16, 3) := by decide +kernel
theorem dX11_begins_99 : decode cX11_begins 99 = .ok (.sipush 1460, 3) := by decide +kernel
theorem dX11_begins_102 : decode cX11_begins 102 = .ok (.aload_n 0, 1) := by decide +kernel
theorem dX11_begins_103 : decode cX11_begins 103 = .ok (.getfield 70, 3) := by decide +kernel
theorem dX11_begins_106 : decode cX11_begins 106 = .ok (.imul, 1) := by decide +kernel
theorem dX11_begins_107 : decode cX11_begins 107 = .ok (.iload_n 1, 1) := by decide +kernel
theorem dX11_begins_108 : decode cX11_begins 108 = .ok (.iadd, 1) := by decide +kernel
theorem dX11_begins_109 : decode cX11_begins 109 = .ok (.aload_n 0, 1) := by decide +kernel
theorem dX11_begins_110 : decode cX11_begins 110 = .ok (.getfield 7, 3) := by decide +kernel
theorem dX11_begins_113 : decode cX11_begins 113 = .ok (.iload_n 1, 1) := by decide +kernel
theorem dX11_begins_114 : decode cX11_begins 114 = .ok (.iaload, 1) := by decide +kernel
theorem dX11_begins_115 : decode cX11_begins 115 = .ok (.iastore, 1) := by decide +kernel
theorem dX11_begins_116 : decode cX11_begins 116 = .ok (.iinc 1 1, 3) := by decide +kernel
theorem dX11_begins_119 : decode cX11_begins 119 = .ok (.goto (-31), 3) := by decide +kernel
theorem dX11_begins_122 : decode cX11_begins 122 = .ok (.aload_n 0, 1) := by decide +kernel
theorem dX11_begins_123 : decode cX11_begins 123 = .ok (.getfield 19, 3) := by decide +kernel
theorem dX11_begins_126 : decode cX11_begins 126 = .ok (.aload_n 0, 1) := by decide +kernel
theorem dX11_begins_127 : decode cX11_begins 127 = .ok (.getfield 70, 3) := by decide +kernel
theorem dX11_begins_130 : decode cX11_begins 130 = .ok (.aload_n 0, 1) := by decide +kernel
theorem dX11_begins_131 : decode cX11_begins 131 = .ok (.getfield 59, 3) := by decide +kernel
theorem dX11_begins_134 : decode cX11_begins 134 = .ok (.lastore, 1) := by decide +kernel
theorem dX11_begins_135 : decode cX11_begins 135 = .ok (.aload_n 0, 1) := by decide +kernel
theorem dX11_begins_136 : decode cX11_begins 136 = .ok (.dup, 1) := by decide +kernel
theorem dX11_begins_137 : decode cX11_begins 137 = .ok (.getfield 70, 3) := by decide +kernel
theorem dX11_begins_140 : decode cX11_begins 140 = .ok (.iconst 1, 1) := by decide +kernel
theorem dX11_begins_141 : decode cX11_begins 141 = .ok (.iadd, 1) := by decide +kernel
theorem dX11_begins_142 : decode cX11_begins 142 = .ok (.putfield 70, 3) := by decide +kernel
theorem dX11_begins_145 : decode cX11_begins 145 = .ok (.return_, 1) := by decide +kernel
theorem dX11_undo_0 : decode cX11_undo 0 = .ok (.aload_n 0, 1) := by decide +kernel
theorem dX11_undo_1 : decode cX11_undo 1 = .ok (.iconst 0, 1) := by decide +kernel
theorem dX11_undo_2 : decode cX11_undo 2 = .ok (.putfield 56, 3) := by decide +kernel
theorem dX11_undo_5 : decode cX11_undo 5 = .ok (.aload_n 0, 1) := by decide +kernel
theorem dX11_undo_6 : decode cX11_undo 6 = .ok (.getfield 70, 3) := by decide +kernel
theorem dX11_undo_9 : decode cX11_undo 9 = .ok (.ifCond .ne 9, 3) := by decide +kernel
theorem dX11_undo_12 : decode cX11_undo 12 = .ok (.aload_n 0, 1) := by decide +kernel
theorem dX11_undo_13 : decode cX11_undo 13 = .ok (.iconst 1, 1) := by decide +kernel
theorem dX11_undo_14 : decode cX11_undo 14 = .ok (.invokevirtual 73, 3) := by decide +kernel
theorem dX11_undo_17 : decode cX11_undo 17 = .ok (.ireturn, 1) := by decide +kernel
theorem dX11_snapshot_0 : decode cX11_snapshot 0 = .ok (.aload_n 0, 1) := by decide +kernel
theorem dX11_snapshot_1 : decode cX11_snapshot 1 = .ok (.iconst 0, 1) := by decide +kernel
theorem dX11_snapshot_2 : decode cX11_snapshot 2 = .ok (.putfield 56, 3) := by decide +kernel
theorem dX11_snapshot_5 : decode cX11_snapshot 5 = .ok (.aload_n 0, 1) := by decide +kernel
theorem dX11_snapshot_6 : decode cX11_snapshot 6 = .ok (.iconst 1, 1) := by decide +kernel
theorem dX11_snapshot_7 : decode cX11_snapshot 7 = .ok (.putfield 77, 3) := by decide +kernel
theorem dX11_snapshot_10 : decode cX11_snapshot 10 = .ok (.iconst 0, 1) := by decide +kernel
theorem dX11_snapshot_11 : decode cX11_snapshot 11 = .ok (.istore_n 1, 1) := by decide +kernel
theorem dX11_snapshot_12 : decode cX11_snapshot 12 = .ok (.iload_n 1, 1) := by decide +kernel
theorem dX11_snapshot_13 : decode cX11_snapshot 13 = .ok (.sipush 1460, 3) := by decide +kernel
theorem dX11_snapshot_16 : decode cX11_snapshot 16 = .ok (.if_icmp .ge 21, 3) := by decide +kernel
theorem dX11_snapshot_19 : decode cX11_snapshot 19 = .ok (.aload_n 0, 1) := by decide +kernel
theorem dX11_snapshot_20 : decode cX11_snapshot 20 = .ok (.getfield 13, 3) := by decide +kernel
theorem dX11_snapshot_23 : decode cX11_snapshot 23 = .ok (.iload_n 1, 1) := by decide +kernel
theorem dX11_snapshot_24 : decode cX11_snapshot 24 = .ok (.aload_n 0, 1) := by decide +kernel
theorem dX11_snapshot_25 : decode cX11_snapshot 25 = .ok (.getfield 7, 3) := by decide +kernel
theorem dX11_snapshot_28 : decode cX11_snapshot 28 = .ok (.iload_n 1, 1) := by decide +kernel
theorem dX11_snapshot_29 : decode cX11_snapshot 29 = .ok (.iaload, 1) := by decide +kernel
theorem dX11_snapshot_30 : decode cX11_snapshot 30 = .ok (.iastore, 1) := by decide +kernel
theorem dX11_snapshot_31 : decode cX11_snapshot 31 = .ok (.iinc 1 1, 3) := by decide +kernel
theorem dX11_snapshot_34 : decode cX11_snapshot 34 = .ok (.goto (-22), 3) := by decide +kernel
theorem dX11_snapshot_37 : decode cX11_snapshot 37 = .ok (.aload_n 0, 1) := by decide +kernel
theorem dX11_snapshot_38 : decode cX11_snapshot 38 = .ok (.aload_n 0, 1) := by decide +kernel
theorem dX11_snapshot_39 : decode cX11_snapshot 39 = .ok (.getfield 59, 3) := by decide +kernel
theorem dX11_snapshot_42 : decode cX11_snapshot 42 = .ok (.putfield 80, 3) := by decide +kernel
theorem dX11_snapshot_45 : decode cX11_snapshot 45 = .ok (.aload_n 0, 1) := by decide +kernel
theorem dX11_snapshot_46 : decode cX11_snapshot 46 = .ok (.getfield 7, 3) := by decide +kernel
theorem dX11_snapshot_49 : decode cX11_snapshot 49 = .ok (.iconst 1, 1) := by decide +kernel
theorem dX11_snapshot_50 : decode cX11_snapshot 50 = .ok (.iaload, 1) := by decide +kernel
theorem dX11_snapshot_51 : decode cX11_snapshot 51 = .ok (.ireturn, 1) := by decide +kernel
theorem dX11_restore_0 : decode cX11_restore 0 = .ok (.aload_n 0, 1) := by decide +kernel
theorem dX11_restore_1 : decode cX11_restore 1 = .ok (.iconst 0, 1) := by decide +kernel
theorem dX11_restore_2 : decode cX11_restore 2 = .ok (.putfield 56, 3) := by decide +kernel
theorem dX11_restore_5 : decode cX11_restore 5 = .ok (.aload_n 0, 1) := by decide +kernel
theorem dX11_restore_6 : decode cX11_restore 6 = .ok (.getfield 77, 3) := by decide +kernel
theorem dX11_restore_9 : decode cX11_restore 9 = .ok (.ifCond .ne 9, 3) := by decide +kernel
theorem dX11_restore_12 : decode cX11_restore 12 = .ok (.aload_n 0, 1) := by decide +kernel
theorem dX11_restore_13 : decode cX11_restore 13 = .ok (.iconst 1, 1) := by decide +kernel
theorem dX11_restore_14 : decode cX11_restore 14 = .ok (.invokevirtual 73, 3) := by decide +kernel
theorem dX11_restore_17 : decode cX11_restore 17 = .ok (.ireturn, 1) := by decide +kernel
theorem dX11_monthLength_0 : decode cX11_monthLength 0 = .ok (.iload_n 0, 1) := by decide +kernel
theorem dX11_monthLength_1 : decode cX11_monthLength 1 = .ok (.iconst 1, 1) := by decide +kernel
theorem dX11_monthLength_2 : decode cX11_monthLength 2 = .ok (.if_icmp .ne 8, 3) := by decide +kernel
theorem dX11_monthLength_5 : decode cX11_monthLength 5 = .ok (.bipush 28, 2) := by decide +kernel
theorem dX11_monthLength_7 : decode cX11_monthLength 7 = .ok (.goto 32, 3) := by decide +kernel
theorem dX11_monthLength_10 : decode cX11_monthLength 10 = .ok (.iload_n 0, 1) := by decide +kernel
theorem dX11_monthLength_11 : decode cX11_monthLength 11 = .ok (.iconst 3, 1) := by decide +kernel
theorem dX11_monthLength_12 : decode cX11_monthLength 12 = .ok (.if_icmp .eq 20, 3) := by decide +kernel
theorem dX11_monthLength_15 : decode cX11_monthLength 15 = .ok (.iload_n 0, 1) := by decide +kernel
theorem dX11_monthLength_16 : decode cX11_monthLength 16 = .ok (.iconst 5, 1) := by decide +kernel
theorem dX11_monthLength_17 : decode cX11_monthLength 17 = .ok (.if_icmp .eq 15, 3) := by decide +kernel
theorem dX11_monthLength_20 : decode cX11_monthLength 20 = .ok (.iload_n 0, 1) := by decide +kernel
theorem dX11_monthLength_21 : decode cX11_monthLength 21 = .ok (.bipush 8, 2) := by decide +kernel
theorem dX11_monthLength_23 : decode cX11_monthLength 23 = .ok (.if_icmp .eq 9, 3) := by decide +kernel
theorem dX11_monthLength_26 : decode cX11_monthLength 26 = .ok (.iload_n 0, 1) := by decide +kernel
theorem dX11_monthLength_27 : decode cX11_monthLength 27 = .ok (.bipush 10, 2) := by decide +kernel
theorem dX11_monthLength_29 : decode cX11_monthLength 29 = .ok (.if_icmp .ne 8, 3) := by decide +kernel
theorem dX11_monthLength_32 : decode cX11_monthLength 32 = .ok (.bipush 30, 2) := by decide +kernel
theorem dX11_monthLength_34 : decode cX11_monthLength 34 = .ok (.goto 5, 3) := by decide +kernel
theorem dX11_monthLength_37 : decode cX11_monthLength 37 = .ok (.bipush 31, 2) := by decide +kernel
theorem dX11_monthLength_39 : decode cX11_monthLength 39 = .ok (.ireturn, 1) := by decide +kernel
theorem dX11_monthStart_0 : decode cX11_monthStart 0 = .ok (.iconst 0, 1) := by decide +kernel
theorem dX11_monthStart_1 : decode cX11_monthStart 1 = .ok (.istore_n 1, 1) := by decide +kernel
theorem dX11_monthStart_2 : decode cX11_monthStart 2 = .ok (.iconst 0, 1) := by decide +kernel
theorem dX11_monthStart_3 : decode cX11_monthStart 3 = .ok (.istore_n 2, 1) := by decide +kernel
theorem dX11_monthStart_4 : decode cX11_monthStart 4 = .ok (.iload_n 2, 1) := by decide +kernel
theorem dX11_monthStart_5 : decode cX11_monthStart 5 = .ok (.iload_n 0, 1) := by decide +kernel
theorem dX11_monthStart_6 : decode cX11_monthStart 6 = .ok (.if_icmp .ge 16, 3) := by decide +kernel
theorem dX11_monthStart_9 : decode cX11_monthStart 9 = .ok (.iload_n 1, 1) := by decide +kernel
theorem dX11_monthStart_10 : decode cX11_monthStart 10 = .ok (.iload_n 2, 1) := by decide +kernel
theorem dX11_monthStart_11 : decode cX11_monthStart 11 = .ok (.invokestatic 83, 3) := by decide +kernel
theorem dX11_monthStart_14 : decode cX11_monthStart 14 = .ok (.iadd, 1) := by decide +kernel
theorem dX11_monthStart_15 : decode cX11_monthStart 15 = .ok (.istore_n 1, 1) := by decide +kernel
theorem dX11_monthStart_16 : decode cX11_monthStart 16 = .ok (.iinc 2 1, 3) := by decide +kernel
theorem dX11_monthStart_19 : decode cX11_monthStart 19 = .ok (.goto (-15), 3) := by decide +kernel
theorem dX11_monthStart_22 : decode cX11_monthStart 22 = .ok (.iload_n 1, 1) := by decide +kernel
theorem dX11_monthStart_23 : decode cX11_monthStart 23 = .ok (.ireturn, 1) := by decide +kernel
theorem dX11_monthOf_0 : decode cX11_monthOf 0 = .ok (.iconst 0, 1) := by decide +kernel
theorem dX11_monthOf_1 : decode cX11_monthOf 1 = .ok (.istore_n 1, 1) := by decide +kernel
theorem dX11_monthOf_2 : decode cX11_monthOf 2 = .ok (.iload_n 1, 1) := by decide +kernel
theorem dX11_monthOf_3 : decode cX11_monthOf 3 = .ok (.bipush 11, 2) := by decide +kernel
theorem dX11_monthOf_5 : decode cX11_monthOf 5 = .ok (.if_icmp .ge 23, 3) := by decide +kernel
theorem dX11_monthOf_8 : decode cX11_monthOf 8 = .ok (.iload_n 1, 1) := by decide +kernel
theorem dX11_monthOf_9 : decode cX11_monthOf 9 = .ok (.iconst 1, 1) := by decide +kernel
theorem dX11_monthOf_10 : decode cX11_monthOf 10 = .ok (.iadd, 1) := by decide +kernel
theorem dX11_monthOf_11 : decode cX11_monthOf 11 = .ok (.invokestatic 86, 3) := by decide +kernel
theorem dX11_monthOf_14 : decode cX11_monthOf 14 = .ok (.iload_n 0, 1) := by decide +kernel
theorem dX11_monthOf_15 : decode cX11_monthOf 15 = .ok (.sipush 365, 3) := by decide +kernel
theorem dX11_monthOf_18 : decode cX11_monthOf 18 = .ok (.irem, 1) := by decide +kernel
theorem dX11_monthOf_19 : decode cX11_monthOf 19 = .ok (.if_icmp .gt 9, 3) := by decide +kernel
theorem dX11_monthOf_22 : decode cX11_monthOf 22 = .ok (.iinc 1 1, 3) := by decide +kernel
theorem dX11_monthOf_25 : decode cX11_monthOf 25 = .ok (.goto (-23), 3) := by decide +kernel
theorem dX11_monthOf_28 : decode cX11_monthOf 28 = .ok (.iload_n 1, 1) := by decide +kernel
theorem dX11_monthOf_29 : decode cX11_monthOf 29 = .ok (.ireturn, 1) := by decide +kernel
theorem dX11_numberOf_0 : decode cX11_numberOf 0 = .ok (.iload_n 0, 1) := by decide +kernel
theorem dX11_numberOf_1 : decode cX11_numberOf 1 = .ok (.sipush 365, 3) := by decide +kernel
theorem dX11_numberOf_4 : decode cX11_numberOf 4 = .ok (.irem, 1) := by decide +kernel
theorem dX11_numberOf_5 : decode cX11_numberOf 5 = .ok (.iload_n 0, 1) := by decide +kernel
theorem dX11_numberOf_6 : decode cX11_numberOf 6 = .ok (.invokestatic 89, 3) := by decide +kernel
theorem dX11_numberOf_9 : decode cX11_numberOf 9 = .ok (.invokestatic 86, 3) := by decide +kernel
theorem dX11_numberOf_12 : decode cX11_numberOf 12 = .ok (.isub, 1) := by decide +kernel
theorem dX11_numberOf_13 : decode cX11_numberOf 13 = .ok (.iconst 1, 1) := by decide +kernel
theorem dX11_numberOf_14 : decode cX11_numberOf 14 = .ok (.iadd, 1) := by decide +kernel
theorem dX11_numberOf_15 : decode cX11_numberOf 15 = .ok (.ireturn, 1) := by decide +kernel
theorem dX11_monthsAfter_0 : decode cX11_monthsAfter 0 = .ok (.bipush 12, 2) := by decide +kernel
theorem dX11_monthsAfter_2 : decode cX11_monthsAfter 2 = .ok (.iload_n 0, 1) := by decide +kernel
theorem dX11_monthsAfter_3 : decode cX11_monthsAfter 3 = .ok (.sipush 365, 3) := by decide +kernel
theorem dX11_monthsAfter_6 : decode cX11_monthsAfter 6 = .ok (.idiv, 1) := by decide +kernel
theorem dX11_monthsAfter_7 : decode cX11_monthsAfter 7 = .ok (.imul, 1) := by decide +kernel
theorem dX11_monthsAfter_8 : decode cX11_monthsAfter 8 = .ok (.iload_n 0, 1) := by decide +kernel
theorem dX11_monthsAfter_9 : decode cX11_monthsAfter 9 = .ok (.invokestatic 89, 3) := by decide +kernel
theorem dX11_monthsAfter_12 : decode cX11_monthsAfter 12 = .ok (.iadd, 1) := by decide +kernel
theorem dX11_monthsAfter_13 : decode cX11_monthsAfter 13 = .ok (.iload_n 1, 1) := by decide +kernel
theorem dX11_monthsAfter_14 : decode cX11_monthsAfter 14 = .ok (.iadd, 1) := by decide +kernel
theorem dX11_monthsAfter_15 : decode cX11_monthsAfter 15 = .ok (.istore_n 2, 1) := by decide +kernel
theorem dX11_monthsAfter_16 : decode cX11_monthsAfter 16 = .ok (.iload_n 0, 1) := by decide +kernel
theorem dX11_monthsAfter_17 : decode cX11_monthsAfter 17 = .ok (.invokestatic 92, 3) := by decide +kernel
theorem dX11_monthsAfter_20 : decode cX11_monthsAfter 20 = .ok (.iload_n 2, 1) := by decide +kernel
theorem dX11_monthsAfter_21 : decode cX11_monthsAfter 21 = .ok (.bipush 12, 2) := by decide +kernel
theorem dX11_monthsAfter_23 : decode cX11_monthsAfter 23 = .ok (.irem, 1) := by decide +kernel
theorem dX11_monthsAfter_24 : decode cX11_monthsAfter 24 = .ok (.invokestatic 83, 3) := by decide +kernel
theorem dX11_monthsAfter_27 : decode cX11_monthsAfter 27 = .ok (.if_icmp .le 13, 3) := by decide +kernel
theorem dX11_monthsAfter_40 : decode cX11_monthsAfter 40 = .ok (.iload_n 0, 1) := by decide +kernel
theorem dX11_monthsAfter_41 : decode cX11_monthsAfter 41 = .ok (.invokestatic 92, 3) := by decide +kernel
theorem dX11_monthsAfter_44 : decode cX11_monthsAfter 44 = .ok (.istore_n 3, 1) := by decide +kernel
theorem dX11_monthsAfter_45 : decode cX11_monthsAfter 45 = .ok (.sipush 365, 3) := by decide +kernel
theorem dX11_monthsAfter_48 : decode cX11_monthsAfter 48 = .ok (.iload_n 2, 1) := by decide +kernel
theorem dX11_monthsAfter_49 : decode cX11_monthsAfter 49 = .ok (.bipush 12, 2) := by decide +kernel
theorem dX11_monthsAfter_51 : decode cX11_monthsAfter 51 = .ok (.idiv, 1) := by decide +kernel
theorem dX11_monthsAfter_52 : decode cX11_monthsAfter 52 = .ok (.imul, 1) := by decide +kernel
theorem dX11_monthsAfter_53 : decode cX11_monthsAfter 53 = .ok (.iload_n 2, 1) := by decide +kernel
theorem dX11_monthsAfter_54 : decode cX11_monthsAfter 54 = .ok (.bipush 12, 2) := by decide +kernel
theorem dX11_monthsAfter_56 : decode cX11_monthsAfter 56 = .ok (.irem, 1) := by decide +kernel
theorem dX11_monthsAfter_57 : decode cX11_monthsAfter 57 = .ok (.invokestatic 86, 3) := by decide +kernel
theorem dX11_monthsAfter_60 : decode cX11_monthsAfter 60 = .ok (.iadd, 1) := by decide +kernel
theorem dX11_monthsAfter_61 : decode cX11_monthsAfter 61 = .ok (.iload_n 3, 1) := by decide +kernel
theorem dX11_monthsAfter_62 : decode cX11_monthsAfter 62 = .ok (.iadd, 1) := by decide +kernel
theorem dX11_monthsAfter_63 : decode cX11_monthsAfter 63 = .ok (.iconst 1, 1) := by decide +kernel
theorem dX11_monthsAfter_64 : decode cX11_monthsAfter 64 = .ok (.isub, 1) := by decide +kernel
theorem dX11_monthsAfter_65 : decode cX11_monthsAfter 65 = .ok (.ireturn, 1) := by decide +kernel
theorem dX11_counted_0 : decode cX11_counted 0 = .ok (.iload_n 1, 1) := by decide +kernel
theorem dX11_counted_1 : decode cX11_counted 1 = .ok (.iconst 2, 1) := by decide +kernel
theorem dX11_counted_2 : decode cX11_counted 2 = .ok (.if_icmp .ge 7, 3) := by decide +kernel
theorem dX11_counted_5 : decode cX11_counted 5 = .ok (.iload_n 0, 1) := by decide +kernel
theorem dX11_counted_6 : decode cX11_counted 6 = .ok (.goto 39, 3) := by decide +kernel
theorem dX11_counted_9 : decode cX11_counted 9 = .ok (.sipush 360, 3) := by decide +kernel
theorem dX11_counted_12 : decode cX11_counted 12 = .ok (.iload_n 0, 1) := by decide +kernel
theorem dX11_counted_13 : decode cX11_counted 13 = .ok (.sipush 365, 3) := by decide +kernel
theorem dX11_counted_16 : decode cX11_counted 16 = .ok (.idiv, 1) := by decide +kernel
theorem dX11_counted_17 : decode cX11_counted 17 = .ok (.imul, 1) := by decide +kernel
theorem dX11_counted_18 : decode cX11_counted 18 = .ok (.bipush 30, 2) := by decide +kernel
theorem dX11_counted_20 : decode cX11_counted 20 = .ok (.iload_n 0, 1) := by decide +kernel
theorem dX11_counted_21 : decode cX11_counted 21 = .ok (.invokestatic 89, 3) := by decide +kernel
theorem dX11_counted_24 : decode cX11_counted 24 = .ok (.imul, 1) := by decide +kernel
theorem dX11_counted_25 : decode cX11_counted 25 = .ok (.iadd, 1) := by decide +kernel
theorem dX11_counted_26 : decode cX11_counted 26 = .ok (.iload_n 0, 1) := by decide +kernel
theorem dX11_counted_27 : decode cX11_counted 27 = .ok (.invokestatic 92, 3) := by decide +kernel
theorem dX11_counted_30 : decode cX11_counted 30 = .ok (.bipush 30, 2) := by decide +kernel
theorem dX11_counted_32 : decode cX11_counted 32 = .ok (.if_icmp .le 8, 3) := by decide +kernel
theorem dX11_counted_35 : decode cX11_counted 35 = .ok (.bipush 30, 2) := by decide +kernel
theorem dX11_counted_37 : decode cX11_counted 37 = .ok (.goto 7, 3) := by decide +kernel
theorem dX11_counted_40 : decode cX11_counted 40 = .ok (.iload_n 0, 1) := by decide +kernel
theorem dX11_counted_41 : decode cX11_counted 41 = .ok (.invokestatic 92, 3) := by decide +kernel
theorem dX11_counted_44 : decode cX11_counted 44 = .ok (.iadd, 1) := by decide +kernel
theorem dX11_counted_45 : decode cX11_counted 45 = .ok (.ireturn, 1) := by decide +kernel
theorem dX11_partOf_0 : decode cX11_partOf 0 = .ok (.iload_n 1, 1) := by decide +kernel
theorem dX11_partOf_1 : decode cX11_partOf 1 = .ok (.ifCond .ne 7, 3) := by decide +kernel
theorem dX11_partOf_4 : decode cX11_partOf 4 = .ok (.iload_n 0, 1) := by decide +kernel
theorem dX11_partOf_5 : decode cX11_partOf 5 = .ok (.goto 32, 3) := by decide +kernel
theorem dX11_partOf_8 : decode cX11_partOf 8 = .ok (.iload_n 1, 1) := by decide +kernel
theorem dX11_partOf_9 : decode cX11_partOf 9 = .ok (.iconst 1, 1) := by decide +kernel
theorem dX11_partOf_10 : decode cX11_partOf 10 = .ok (.if_icmp .ne 11, 3) := by decide +kernel
theorem dX11_partOf_13 : decode cX11_partOf 13 = .ok (.iload_n 0, 1) := by decide +kernel
theorem dX11_partOf_14 : decode cX11_partOf 14 = .ok (.sipush 365, 3) := by decide +kernel
theorem dX11_partOf_17 : decode cX11_partOf 17 = .ok (.idiv, 1) := by decide +kernel
theorem dX11_partOf_18 : decode cX11_partOf 18 = .ok (.goto 19, 3) := by decide +kernel
theorem dX11_partOf_21 : decode cX11_partOf 21 = .ok (.iload_n 1, 1) := by decide +kernel
theorem dX11_partOf_22 : decode cX11_partOf 22 = .ok (.iconst 2, 1) := by decide +kernel
theorem dX11_partOf_23 : decode cX11_partOf 23 = .ok (.if_icmp .ne 10, 3) := by decide +kernel
theorem dX11_partOf_26 : decode cX11_partOf 26 = .ok (.iload_n 0, 1) := by decide +kernel
theorem dX11_partOf_27 : decode cX11_partOf 27 = .ok (.invokestatic 89, 3) := by decide +kernel
theorem dX11_partOf_30 : decode cX11_partOf 30 = .ok (.goto 7, 3) := by decide +kernel
theorem dX11_partOf_33 : decode cX11_partOf 33 = .ok (.iload_n 0, 1) := by decide +kernel
theorem dX11_partOf_34 : decode cX11_partOf 34 = .ok (.invokestatic 92, 3) := by decide +kernel
theorem dX11_partOf_37 : decode cX11_partOf 37 = .ok (.ireturn, 1) := by decide +kernel
theorem dX11_date_0 : decode cX11_date 0 = .ok (.aload_n 0, 1) := by decide +kernel
theorem dX11_date_1 : decode cX11_date 1 = .ok (.iload_n 1, 1) := by decide +kernel
theorem dX11_date_2 : decode cX11_date 2 = .ok (.iconst 0, 1) := by decide +kernel
theorem dX11_date_3 : decode cX11_date 3 = .ok (.iconst 3, 1) := by decide +kernel
theorem dX11_date_4 : decode cX11_date 4 = .ok (.invokestatic 95, 3) := by decide +kernel
theorem dX11_date_7 : decode cX11_date 7 = .ok (.ifCond .eq 7, 3) := by decide +kernel
theorem dX11_date_10 : decode cX11_date 10 = .ok (.iconst 0, 1) := by decide +kernel
theorem dX11_date_11 : decode cX11_date 11 = .ok (.goto 4, 3) := by decide +kernel
theorem dX11_date_14 : decode cX11_date 14 = .ok (.iconst 1, 1) := by decide +kernel
theorem dX11_date_15 : decode cX11_date 15 = .ok (.putfield 56, 3) := by decide +kernel
theorem dX11_date_18 : decode cX11_date 18 = .ok (.aload_n 0, 1) := by decide +kernel
theorem dX11_date_19 : decode cX11_date 19 = .ok (.getfield 56, 3) := by decide +kernel
theorem dX11_date_22 : decode cX11_date 22 = .ok (.ifCond .le 7, 3) := by decide +kernel
theorem dX11_date_25 : decode cX11_date 25 = .ok (.iconst 0, 1) := by decide +kernel
theorem dX11_date_26 : decode cX11_date 26 = .ok (.goto 13, 3) := by decide +kernel
theorem dX11_date_29 : decode cX11_date 29 = .ok (.aload_n 0, 1) := by decide +kernel
theorem dX11_date_30 : decode cX11_date 30 = .ok (.getfield 7, 3) := by decide +kernel
theorem dX11_date_33 : decode cX11_date 33 = .ok (.iconst 1, 1) := by decide +kernel
theorem dX11_date_34 : decode cX11_date 34 = .ok (.iaload, 1) := by decide +kernel
theorem dX11_date_35 : decode cX11_date 35 = .ok (.iload_n 1, 1) := by decide +kernel
theorem dX11_date_36 : decode cX11_date 36 = .ok (.invokestatic 99, 3) := by decide +kernel
theorem dX11_date_39 : decode cX11_date 39 = .ok (.ireturn, 1) := by decide +kernel
theorem dX11_countedDays_0 : decode cX11_countedDays 0 = .ok (.aload_n 0, 1) := by decide +kernel
theorem dX11_countedDays_1 : decode cX11_countedDays 1 = .ok (.iload_n 1, 1) := by decide +kernel
theorem dX11_countedDays_2 : decode cX11_countedDays 2 = .ok (.iconst 0, 1) := by decide +kernel
theorem dX11_countedDays_3 : decode cX11_countedDays 3 = .ok (.sipush 8000, 3) := by decide +kernel
theorem dX11_countedDays_6 : decode cX11_countedDays 6 = .ok (.invokestatic 95, 3) := by decide +kernel
theorem dX11_countedDays_9 : decode cX11_countedDays 9 = .ok (.ifCond .eq 27, 3) := by decide +kernel
