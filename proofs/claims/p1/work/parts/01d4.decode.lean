theorem dX11_number_119 : decode cX11_number 119 = .ok (.ireturn, 1) := by decide +kernel
theorem dX11_number_120 : decode cX11_number 120 = .ok (.aload_n 0, 1) := by decide +kernel
theorem dX11_number_121 : decode cX11_number 121 = .ok (.getfield 7, 3) := by decide +kernel
theorem dX11_number_124 : decode cX11_number 124 = .ok (.bipush 13, 2) := by decide +kernel
theorem dX11_number_126 : decode cX11_number 126 = .ok (.iaload, 1) := by decide +kernel
theorem dX11_number_127 : decode cX11_number 127 = .ok (.ireturn, 1) := by decide +kernel
theorem dX11_number_128 : decode cX11_number 128 = .ok (.aload_n 0, 1) := by decide +kernel
theorem dX11_number_129 : decode cX11_number 129 = .ok (.getfield 7, 3) := by decide +kernel
theorem dX11_number_132 : decode cX11_number 132 = .ok (.bipush 13, 2) := by decide +kernel
theorem dX11_number_134 : decode cX11_number 134 = .ok (.iaload, 1) := by decide +kernel
theorem dX11_number_135 : decode cX11_number 135 = .ok (.ifCond .le 17, 3) := by decide +kernel
theorem dX11_number_152 : decode cX11_number 152 = .ok (.iconst (-1), 1) := by decide +kernel
theorem dX11_number_153 : decode cX11_number 153 = .ok (.ireturn, 1) := by decide +kernel
theorem dX11_number_154 : decode cX11_number 154 = .ok (.aload_n 0, 1) := by decide +kernel
theorem dX11_number_155 : decode cX11_number 155 = .ok (.invokevirtual 229, 3) := by decide +kernel
theorem dX11_number_158 : decode cX11_number 158 = .ok (.ireturn, 1) := by decide +kernel
theorem dX11_number_159 : decode cX11_number 159 = .ok (.aload_n 0, 1) := by decide +kernel
theorem dX11_number_160 : decode cX11_number 160 = .ok (.iconst 0, 1) := by decide +kernel
theorem dX11_number_161 : decode cX11_number 161 = .ok (.invokevirtual 232, 3) := by decide +kernel
theorem dX11_number_164 : decode cX11_number 164 = .ok (.ireturn, 1) := by decide +kernel
theorem dX11_number_165 : decode cX11_number 165 = .ok (.aload_n 0, 1) := by decide +kernel
theorem dX11_number_166 : decode cX11_number 166 = .ok (.getfield 7, 3) := by decide +kernel
theorem dX11_number_169 : decode cX11_number 169 = .ok (.bipush 10, 2) := by decide +kernel
theorem dX11_number_171 : decode cX11_number 171 = .ok (.iaload, 1) := by decide +kernel
theorem dX11_number_172 : decode cX11_number 172 = .ok (.ireturn, 1) := by decide +kernel
theorem dX11_number_173 : decode cX11_number 173 = .ok (.aload_n 0, 1) := by decide +kernel
theorem dX11_number_174 : decode cX11_number 174 = .ok (.iconst 1, 1) := by decide +kernel
theorem dX11_number_175 : decode cX11_number 175 = .ok (.invokevirtual 73, 3) := by decide +kernel
theorem dX11_number_178 : decode cX11_number 178 = .ok (.ireturn, 1) := by decide +kernel
theorem dX11_accruedUnits_0 : decode cX11_accruedUnits 0 = .ok (.aload_n 0, 1) := by decide +kernel
theorem dX11_accruedUnits_1 : decode cX11_accruedUnits 1 = .ok (.iconst 0, 1) := by decide +kernel
theorem dX11_accruedUnits_2 : decode cX11_accruedUnits 2 = .ok (.putfield 56, 3) := by decide +kernel
theorem dX11_accruedUnits_5 : decode cX11_accruedUnits 5 = .ok (.aload_n 0, 1) := by decide +kernel
theorem dX11_accruedUnits_6 : decode cX11_accruedUnits 6 = .ok (.getfield 59, 3) := by decide +kernel
theorem dX11_accruedUnits_9 : decode cX11_accruedUnits 9 = .ok (.lreturn, 1) := by decide +kernel
theorem dX11_total_0 : decode cX11_total 0 = .ok (.aload_n 0, 1) := by decide +kernel
theorem dX11_total_1 : decode cX11_total 1 = .ok (.iload_n 1, 1) := by decide +kernel
theorem dX11_total_2 : decode cX11_total 2 = .ok (.iconst 0, 1) := by decide +kernel
theorem dX11_total_3 : decode cX11_total 3 = .ok (.bipush 7, 2) := by decide +kernel
theorem dX11_total_5 : decode cX11_total 5 = .ok (.invokestatic 95, 3) := by decide +kernel
theorem dX11_total_8 : decode cX11_total 8 = .ok (.ifCond .eq 7, 3) := by decide +kernel
theorem dX11_total_11 : decode cX11_total 11 = .ok (.iconst 0, 1) := by decide +kernel
theorem dX11_total_12 : decode cX11_total 12 = .ok (.goto 4, 3) := by decide +kernel
theorem dX11_total_15 : decode cX11_total 15 = .ok (.iconst 1, 1) := by decide +kernel
theorem dX11_total_16 : decode cX11_total 16 = .ok (.putfield 56, 3) := by decide +kernel
theorem dX11_total_19 : decode cX11_total 19 = .ok (.aload_n 0, 1) := by decide +kernel
theorem dX11_total_20 : decode cX11_total 20 = .ok (.getfield 56, 3) := by decide +kernel
theorem dX11_total_23 : decode cX11_total 23 = .ok (.ifCond .le 7, 3) := by decide +kernel
theorem dX11_total_26 : decode cX11_total 26 = .ok (.iconst 0, 1) := by decide +kernel
theorem dX11_total_27 : decode cX11_total 27 = .ok (.goto 12, 3) := by decide +kernel
theorem dX11_total_30 : decode cX11_total 30 = .ok (.aload_n 0, 1) := by decide +kernel
theorem dX11_total_31 : decode cX11_total 31 = .ok (.getfield 7, 3) := by decide +kernel
theorem dX11_total_34 : decode cX11_total 34 = .ok (.bipush 20, 2) := by decide +kernel
theorem dX11_total_36 : decode cX11_total 36 = .ok (.iload_n 1, 1) := by decide +kernel
theorem dX11_total_37 : decode cX11_total 37 = .ok (.iadd, 1) := by decide +kernel
theorem dX11_total_38 : decode cX11_total 38 = .ok (.iaload, 1) := by decide +kernel
theorem dX11_total_39 : decode cX11_total 39 = .ok (.ireturn, 1) := by decide +kernel
theorem dX11_condition_0 : decode cX11_condition 0 = .ok (.aload_n 0, 1) := by decide +kernel
theorem dX11_condition_1 : decode cX11_condition 1 = .ok (.iconst 0, 1) := by decide +kernel
theorem dX11_condition_2 : decode cX11_condition 2 = .ok (.putfield 56, 3) := by decide +kernel
theorem dX11_condition_5 : decode cX11_condition 5 = .ok (.aload_n 0, 1) := by decide +kernel
theorem dX11_condition_6 : decode cX11_condition 6 = .ok (.getfield 7, 3) := by decide +kernel
theorem dX11_condition_9 : decode cX11_condition 9 = .ok (.iconst 0, 1) := by decide +kernel
theorem dX11_condition_10 : decode cX11_condition 10 = .ok (.iaload, 1) := by decide +kernel
theorem dX11_condition_11 : decode cX11_condition 11 = .ok (.ifCond .ne 5, 3) := by decide +kernel
theorem dX11_condition_14 : decode cX11_condition 14 = .ok (.iconst 0, 1) := by decide +kernel
theorem dX11_condition_15 : decode cX11_condition 15 = .ok (.ireturn, 1) := by decide +kernel
theorem dX11_interestShare_0 : decode cX11_interestShare 0 = .ok (.aload_n 0, 1) := by decide +kernel
theorem dX11_interestShare_1 : decode cX11_interestShare 1 = .ok (.aload_n 0, 1) := by decide +kernel
theorem dX11_interestShare_2 : decode cX11_interestShare 2 = .ok (.getfield 7, 3) := by decide +kernel
theorem dX11_interestShare_5 : decode cX11_interestShare 5 = .ok (.bipush 20, 2) := by decide +kernel
theorem dX11_interestShare_7 : decode cX11_interestShare 7 = .ok (.iaload, 1) := by decide +kernel
theorem dX11_interestShare_8 : decode cX11_interestShare 8 = .ok (.ifCond .ne 7, 3) := by decide +kernel
theorem dX11_interestShare_11 : decode cX11_interestShare 11 = .ok (.iconst 1, 1) := by decide +kernel
theorem dX11_interestShare_12 : decode cX11_interestShare 12 = .ok (.goto 4, 3) := by decide +kernel
theorem dX11_interestShare_16 : decode cX11_interestShare 16 = .ok (.putfield 56, 3) := by decide +kernel
theorem dX11_interestShare_19 : decode cX11_interestShare 19 = .ok (.aload_n 0, 1) := by decide +kernel
theorem dX11_interestShare_20 : decode cX11_interestShare 20 = .ok (.getfield 56, 3) := by decide +kernel
theorem dX11_interestShare_23 : decode cX11_interestShare 23 = .ok (.ifCond .le 7, 3) := by decide +kernel
theorem dX11_interestShare_26 : decode cX11_interestShare 26 = .ok (.dconst 0, 1) := by decide +kernel
theorem dX11_interestShare_27 : decode cX11_interestShare 27 = .ok (.goto 20, 3) := by decide +kernel
theorem dX11_interestShare_47 : decode cX11_interestShare 47 = .ok (.dreturn, 1) := by decide +kernel
theorem dX11_progress_0 : decode cX11_progress 0 = .ok (.aload_n 0, 1) := by decide +kernel
theorem dX11_progress_1 : decode cX11_progress 1 = .ok (.aload_n 0, 1) := by decide +kernel
theorem dX11_progress_2 : decode cX11_progress 2 = .ok (.getfield 7, 3) := by decide +kernel
theorem dX11_progress_5 : decode cX11_progress 5 = .ok (.iconst 0, 1) := by decide +kernel
theorem dX11_progress_6 : decode cX11_progress 6 = .ok (.iaload, 1) := by decide +kernel
theorem dX11_progress_7 : decode cX11_progress 7 = .ok (.ifCond .ne 7, 3) := by decide +kernel
theorem dX11_progress_10 : decode cX11_progress 10 = .ok (.iconst 1, 1) := by decide +kernel
theorem dX11_progress_11 : decode cX11_progress 11 = .ok (.goto 4, 3) := by decide +kernel
theorem dX11_progress_15 : decode cX11_progress 15 = .ok (.putfield 56, 3) := by decide +kernel
theorem dX11_progress_18 : decode cX11_progress 18 = .ok (.aload_n 0, 1) := by decide +kernel
theorem dX11_progress_19 : decode cX11_progress 19 = .ok (.getfield 56, 3) := by decide +kernel
theorem dX11_progress_22 : decode cX11_progress 22 = .ok (.ifCond .le 7, 3) := by decide +kernel
theorem dX11_progress_25 : decode cX11_progress 25 = .ok (.fconst 0, 1) := by decide +kernel
theorem dX11_progress_26 : decode cX11_progress 26 = .ok (.goto 28, 3) := by decide +kernel
theorem dX11_progress_54 : decode cX11_progress 54 = .ok (.freturn, 1) := by decide +kernel
theorem dX11_append_0 : decode cX11_append 0 = .ok (.aload_n 0, 1) := by decide +kernel
theorem dX11_append_1 : decode cX11_append 1 = .ok (.iload_n 1, 1) := by decide +kernel
theorem dX11_append_2 : decode cX11_append 2 = .ok (.bipush 32, 2) := by decide +kernel
theorem dX11_append_4 : decode cX11_append 4 = .ok (.bipush 126, 2) := by decide +kernel
theorem dX11_append_6 : decode cX11_append 6 = .ok (.invokestatic 95, 3) := by decide +kernel
theorem dX11_append_9 : decode cX11_append 9 = .ok (.ifCond .eq 20, 3) := by decide +kernel
theorem dX11_append_12 : decode cX11_append 12 = .ok (.aload_n 0, 1) := by decide +kernel
theorem dX11_append_13 : decode cX11_append 13 = .ok (.getfield 235, 3) := by decide +kernel
theorem dX11_append_16 : decode cX11_append 16 = .ok (.bipush 60, 2) := by decide +kernel
theorem dX11_append_18 : decode cX11_append 18 = .ok (.if_icmp .ne 7, 3) := by decide +kernel
theorem dX11_append_25 : decode cX11_append 25 = .ok (.iconst 0, 1) := by decide +kernel
theorem dX11_append_26 : decode cX11_append 26 = .ok (.goto 4, 3) := by decide +kernel
theorem dX11_append_29 : decode cX11_append 29 = .ok (.iconst 1, 1) := by decide +kernel
theorem dX11_append_30 : decode cX11_append 30 = .ok (.putfield 56, 3) := by decide +kernel
theorem dX11_append_33 : decode cX11_append 33 = .ok (.aload_n 0, 1) := by decide +kernel
theorem dX11_append_34 : decode cX11_append 34 = .ok (.getfield 56, 3) := by decide +kernel
theorem dX11_append_37 : decode cX11_append 37 = .ok (.ifCond .le 5, 3) := by decide +kernel
theorem dX11_append_40 : decode cX11_append 40 = .ok (.iconst 0, 1) := by decide +kernel
theorem dX11_append_41 : decode cX11_append 41 = .ok (.ireturn, 1) := by decide +kernel
theorem dX11_append_42 : decode cX11_append 42 = .ok (.aload_n 0, 1) := by decide +kernel
theorem dX11_append_43 : decode cX11_append 43 = .ok (.getfield 32, 3) := by decide +kernel
theorem dX11_append_46 : decode cX11_append 46 = .ok (.aload_n 0, 1) := by decide +kernel
theorem dX11_append_47 : decode cX11_append 47 = .ok (.getfield 235, 3) := by decide +kernel
theorem dX11_append_50 : decode cX11_append 50 = .ok (.iload_n 1, 1) := by decide +kernel
theorem dX11_append_51 : decode cX11_append 51 = .ok (.iastore, 1) := by decide +kernel
theorem dX11_append_52 : decode cX11_append 52 = .ok (.aload_n 0, 1) := by decide +kernel
theorem dX11_append_53 : decode cX11_append 53 = .ok (.dup, 1) := by decide +kernel
theorem dX11_append_54 : decode cX11_append 54 = .ok (.getfield 235, 3) := by decide +kernel
theorem dX11_append_57 : decode cX11_append 57 = .ok (.iconst 1, 1) := by decide +kernel
theorem dX11_append_58 : decode cX11_append 58 = .ok (.iadd, 1) := by decide +kernel
theorem dX11_append_59 : decode cX11_append 59 = .ok (.putfield 235, 3) := by decide +kernel
theorem dX11_append_62 : decode cX11_append 62 = .ok (.aload_n 0, 1) := by decide +kernel
theorem dX11_append_63 : decode cX11_append 63 = .ok (.getfield 235, 3) := by decide +kernel
theorem dX11_append_66 : decode cX11_append 66 = .ok (.ireturn, 1) := by decide +kernel
theorem dX11_here_0 : decode cX11_here 0 = .ok (.aload_n 0, 1) := by decide +kernel
theorem dX11_here_1 : decode cX11_here 1 = .ok (.getfield 238, 3) := by decide +kernel
theorem dX11_here_4 : decode cX11_here 4 = .ok (.aload_n 0, 1) := by decide +kernel
theorem dX11_here_5 : decode cX11_here 5 = .ok (.getfield 235, 3) := by decide +kernel
theorem dX11_here_8 : decode cX11_here 8 = .ok (.if_icmp .ge 15, 3) := by decide +kernel
theorem dX11_here_23 : decode cX11_here 23 = .ok (.iconst (-1), 1) := by decide +kernel
theorem dX11_here_24 : decode cX11_here 24 = .ok (.ireturn, 1) := by decide +kernel
theorem dX11_commandHere_0 : decode cX11_commandHere 0 = .ok (.aload_n 0, 1) := by decide +kernel
theorem dX11_commandHere_1 : decode cX11_commandHere 1 = .ok (.invokevirtual 241, 3) := by decide +kernel
theorem dX11_commandHere_4 : decode cX11_commandHere 4 = .ok (.istore_n 1, 1) := by decide +kernel
theorem dX11_commandHere_5 : decode cX11_commandHere 5 = .ok (.iload_n 1, 1) := by decide +kernel
theorem dX11_commandHere_6 : decode cX11_commandHere 6 = .ok (.bipush 112, 2) := by decide +kernel
theorem dX11_commandHere_8 : decode cX11_commandHere 8 = .ok (.if_icmp .eq 29, 3) := by decide +kernel
theorem dX11_commandHere_11 : decode cX11_commandHere 11 = .ok (.iload_n 1, 1) := by decide +kernel
theorem dX11_commandHere_12 : decode cX11_commandHere 12 = .ok (.bipush 100, 2) := by decide +kernel
theorem dX11_commandHere_14 : decode cX11_commandHere 14 = .ok (.if_icmp .eq 23, 3) := by decide +kernel
theorem dX11_commandHere_17 : decode cX11_commandHere 17 = .ok (.iload_n 1, 1) := by decide +kernel
theorem dX11_commandHere_18 : decode cX11_commandHere 18 = .ok (.bipush 114, 2) := by decide +kernel
theorem dX11_commandHere_20 : decode cX11_commandHere 20 = .ok (.if_icmp .eq 17, 3) := by decide +kernel
theorem dX11_commandHere_23 : decode cX11_commandHere 23 = .ok (.iload_n 1, 1) := by decide +kernel
theorem dX11_commandHere_24 : decode cX11_commandHere 24 = .ok (.bipush 104, 2) := by decide +kernel
theorem dX11_commandHere_26 : decode cX11_commandHere 26 = .ok (.if_icmp .eq 11, 3) := by decide +kernel
theorem dX11_commandHere_29 : decode cX11_commandHere 29 = .ok (.iload_n 1, 1) := by decide +kernel
theorem dX11_commandHere_30 : decode cX11_commandHere 30 = .ok (.bipush 119, 2) := by decide +kernel
theorem dX11_commandHere_32 : decode cX11_commandHere 32 = .ok (.if_icmp .eq 5, 3) := by decide +kernel
theorem dX11_commandHere_35 : decode cX11_commandHere 35 = .ok (.iconst 0, 1) := by decide +kernel
theorem dX11_commandHere_36 : decode cX11_commandHere 36 = .ok (.ireturn, 1) := by decide +kernel
theorem dX11_isText_0 : decode cX11_isText 0 = .ok (.aload_n 0, 1) := by decide +kernel
theorem dX11_isText_1 : decode cX11_isText 1 = .ok (.iconst 0, 1) := by decide +kernel
theorem dX11_isText_2 : decode cX11_isText 2 = .ok (.putfield 238, 3) := by decide +kernel
theorem dX11_isText_5 : decode cX11_isText 5 = .ok (.aload_n 0, 1) := by decide +kernel
theorem dX11_isText_6 : decode cX11_isText 6 = .ok (.iconst 0, 1) := by decide +kernel
theorem dX11_isText_7 : decode cX11_isText 7 = .ok (.putfield 244, 3) := by decide +kernel
theorem dX11_isText_10 : decode cX11_isText 10 = .ok (.aload_n 0, 1) := by decide +kernel
theorem dX11_isText_11 : decode cX11_isText 11 = .ok (.invokevirtual 247, 3) := by decide +kernel
theorem dX11_isText_14 : decode cX11_isText 14 = .ok (.ifCond .eq 40, 3) := by decide +kernel
theorem dX11_isText_54 : decode cX11_isText 54 = .ok (.iconst 0, 1) := by decide +kernel
theorem dX11_isText_55 : decode cX11_isText 55 = .ok (.ireturn, 1) := by decide +kernel
theorem dX11_execute_0 : decode cX11_execute 0 = .ok (.aload_n 0, 1) := by decide +kernel
theorem dX11_execute_1 : decode cX11_execute 1 = .ok (.iconst 0, 1) := by decide +kernel
theorem dX11_execute_2 : decode cX11_execute 2 = .ok (.putfield 56, 3) := by decide +kernel
theorem dX11_execute_5 : decode cX11_execute 5 = .ok (.aload_n 0, 1) := by decide +kernel
theorem dX11_execute_6 : decode cX11_execute 6 = .ok (.invokevirtual 251, 3) := by decide +kernel
theorem dX11_execute_9 : decode cX11_execute 9 = .ok (.istore_n 1, 1) := by decide +kernel
theorem dX11_execute_10 : decode cX11_execute 10 = .ok (.aload_n 0, 1) := by decide +kernel
theorem dX11_execute_11 : decode cX11_execute 11 = .ok (.iconst 0, 1) := by decide +kernel
theorem dX11_execute_12 : decode cX11_execute 12 = .ok (.putfield 235, 3) := by decide +kernel
theorem dX11_execute_15 : decode cX11_execute 15 = .ok (.iload_n 1, 1) := by decide +kernel
theorem dX11_execute_16 : decode cX11_execute 16 = .ok (.ifCond .ne 17, 3) := by decide +kernel
theorem dX11_execute_19 : decode cX11_execute 19 = .ok (.aload_n 0, 1) := by decide +kernel
theorem dX11_execute_20 : decode cX11_execute 20 = .ok (.aload_n 0, 1) := by decide +kernel
theorem dX11_execute_21 : decode cX11_execute 21 = .ok (.getfield 238, 3) := by decide +kernel
theorem dX11_execute_24 : decode cX11_execute 24 = .ok (.putfield 35, 3) := by decide +kernel
theorem dX11_execute_27 : decode cX11_execute 27 = .ok (.aload_n 0, 1) := by decide +kernel
theorem dX11_execute_28 : decode cX11_execute 28 = .ok (.iconst 1, 1) := by decide +kernel
theorem dX11_execute_29 : decode cX11_execute 29 = .ok (.invokevirtual 73, 3) := by decide +kernel
theorem dX11_execute_32 : decode cX11_execute 32 = .ok (.ireturn, 1) := by decide +kernel
theorem dX11_errorPosition_0 : decode cX11_errorPosition 0 = .ok (.aload_n 0, 1) := by decide +kernel
theorem dX11_errorPosition_1 : decode cX11_errorPosition 1 = .ok (.aload_n 0, 1) := by decide +kernel
theorem dX11_errorPosition_2 : decode cX11_errorPosition 2 = .ok (.getfield 35, 3) := by decide +kernel
theorem dX11_errorPosition_5 : decode cX11_errorPosition 5 = .ok (.ifCond .ge 7, 3) := by decide +kernel
theorem dX11_errorPosition_8 : decode cX11_errorPosition 8 = .ok (.iconst 1, 1) := by decide +kernel
theorem dX11_errorPosition_9 : decode cX11_errorPosition 9 = .ok (.goto 4, 3) := by decide +kernel
theorem dX11_errorPosition_13 : decode cX11_errorPosition 13 = .ok (.putfield 56, 3) := by decide +kernel
theorem dX11_errorPosition_16 : decode cX11_errorPosition 16 = .ok (.aload_n 0, 1) := by decide +kernel
theorem dX11_errorPosition_17 : decode cX11_errorPosition 17 = .ok (.getfield 56, 3) := by decide +kernel
theorem dX11_errorPosition_20 : decode cX11_errorPosition 20 = .ok (.ifCond .le 7, 3) := by decide +kernel
theorem dX11_errorPosition_23 : decode cX11_errorPosition 23 = .ok (.iconst 0, 1) := by decide +kernel
theorem dX11_errorPosition_24 : decode cX11_errorPosition 24 = .ok (.goto 7, 3) := by decide +kernel
theorem dX11_errorPosition_31 : decode cX11_errorPosition 31 = .ok (.ireturn, 1) := by decide +kernel
theorem dX11_refusedCommand_0 : decode cX11_refusedCommand 0 = .ok (.aload_n 0, 1) := by decide +kernel
theorem dX11_refusedCommand_1 : decode cX11_refusedCommand 1 = .ok (.aload_n 0, 1) := by decide +kernel
theorem dX11_refusedCommand_2 : decode cX11_refusedCommand 2 = .ok (.getfield 39, 3) := by decide +kernel
theorem dX11_refusedCommand_5 : decode cX11_refusedCommand 5 = .ok (.ifCond .ge 7, 3) := by decide +kernel
theorem dX11_refusedCommand_8 : decode cX11_refusedCommand 8 = .ok (.iconst 1, 1) := by decide +kernel
theorem dX11_refusedCommand_9 : decode cX11_refusedCommand 9 = .ok (.goto 4, 3) := by decide +kernel
theorem dX11_refusedCommand_13 : decode cX11_refusedCommand 13 = .ok (.putfield 56, 3) := by decide +kernel
theorem dX11_refusedCommand_16 : decode cX11_refusedCommand 16 = .ok (.aload_n 0, 1) := by decide +kernel
theorem dX11_refusedCommand_17 : decode cX11_refusedCommand 17 = .ok (.getfield 56, 3) := by decide +kernel
theorem dX11_refusedCommand_20 : decode cX11_refusedCommand 20 = .ok (.ifCond .le 7, 3) := by decide +kernel
theorem dX11_refusedCommand_23 : decode cX11_refusedCommand 23 = .ok (.iconst 0, 1) := by decide +kernel
theorem dX11_refusedCommand_24 : decode cX11_refusedCommand 24 = .ok (.goto 18, 3) := by decide +kernel
theorem dX11_refusedCommand_42 : decode cX11_refusedCommand 42 = .ok (.ireturn, 1) := by decide +kernel
theorem dX11_ledgerSize_0 : decode cX11_ledgerSize 0 = .ok (.aload_n 0, 1) := by decide +kernel
theorem dX11_ledgerSize_1 : decode cX11_ledgerSize 1 = .ok (.iconst 0, 1) := by decide +kernel
theorem dX11_ledgerSize_2 : decode cX11_ledgerSize 2 = .ok (.putfield 56, 3) := by decide +kernel
theorem dX11_ledgerSize_5 : decode cX11_ledgerSize 5 = .ok (.aload_n 0, 1) := by decide +kernel
theorem dX11_ledgerSize_6 : decode cX11_ledgerSize 6 = .ok (.getfield 7, 3) := by decide +kernel
theorem dX11_ledgerSize_9 : decode cX11_ledgerSize 9 = .ok (.bipush 29, 2) := by decide +kernel
theorem dX11_ledgerSize_11 : decode cX11_ledgerSize 11 = .ok (.iaload, 1) := by decide +kernel
theorem dX11_ledgerSize_12 : decode cX11_ledgerSize 12 = .ok (.ireturn, 1) := by decide +kernel
theorem dX11_ledger_0 : decode cX11_ledger 0 = .ok (.aload_n 0, 1) := by decide +kernel
theorem dX11_ledger_1 : decode cX11_ledger 1 = .ok (.iload_n 1, 1) := by decide +kernel
theorem dX11_ledger_2 : decode cX11_ledger 2 = .ok (.iconst 0, 1) := by decide +kernel
theorem dX11_ledger_3 : decode cX11_ledger 3 = .ok (.aload_n 0, 1) := by decide +kernel
theorem dX11_ledger_4 : decode cX11_ledger 4 = .ok (.getfield 7, 3) := by decide +kernel
theorem dX11_ledger_7 : decode cX11_ledger 7 = .ok (.bipush 29, 2) := by decide +kernel
theorem dX11_ledger_9 : decode cX11_ledger 9 = .ok (.iaload, 1) := by decide +kernel
theorem dX11_ledger_10 : decode cX11_ledger 10 = .ok (.iconst 1, 1) := by decide +kernel
theorem dX11_ledger_11 : decode cX11_ledger 11 = .ok (.isub, 1) := by decide +kernel
theorem dX11_ledger_12 : decode cX11_ledger 12 = .ok (.invokestatic 95, 3) := by decide +kernel
theorem dX11_ledger_15 : decode cX11_ledger 15 = .ok (.ifCond .eq 16, 3) := by decide +kernel
theorem dX11_ledger_31 : decode cX11_ledger 31 = .ok (.iconst 1, 1) := by decide +kernel
theorem dX11_ledger_32 : decode cX11_ledger 32 = .ok (.putfield 56, 3) := by decide +kernel
theorem dX11_ledger_35 : decode cX11_ledger 35 = .ok (.aload_n 0, 1) := by decide +kernel
theorem dX11_ledger_36 : decode cX11_ledger 36 = .ok (.getfield 56, 3) := by decide +kernel
theorem dX11_ledger_39 : decode cX11_ledger 39 = .ok (.ifCond .le 7, 3) := by decide +kernel
theorem dX11_ledger_42 : decode cX11_ledger 42 = .ok (.iconst 0, 1) := by decide +kernel
theorem dX11_ledger_43 : decode cX11_ledger 43 = .ok (.goto 16, 3) := by decide +kernel
theorem dX11_ledger_59 : decode cX11_ledger 59 = .ok (.ireturn, 1) := by decide +kernel
theorem dX11_isConfirmed_0 : decode cX11_isConfirmed 0 = .ok (.aload_n 0, 1) := by decide +kernel
theorem dX11_isConfirmed_1 : decode cX11_isConfirmed 1 = .ok (.iconst 0, 1) := by decide +kernel
theorem dX11_isConfirmed_2 : decode cX11_isConfirmed 2 = .ok (.putfield 56, 3) := by decide +kernel
theorem dX11_isConfirmed_5 : decode cX11_isConfirmed 5 = .ok (.iconst 1, 1) := by decide +kernel
theorem dX11_isConfirmed_6 : decode cX11_isConfirmed 6 = .ok (.ireturn, 1) := by decide +kernel
theorem dX11_isRow_0 : decode cX11_isRow 0 = .ok (.iload_n 0, 1) := by decide +kernel
theorem dX11_isRow_1 : decode cX11_isRow 1 = .ok (.iconst 0, 1) := by decide +kernel
theorem dX11_isRow_2 : decode cX11_isRow 2 = .ok (.iconst 1, 1) := by decide +kernel
theorem dX11_isRow_3 : decode cX11_isRow 3 = .ok (.invokestatic 95, 3) := by decide +kernel
theorem dX11_isRow_6 : decode cX11_isRow 6 = .ok (.ireturn, 1) := by decide +kernel
theorem dX11_storeSchedule_0 : decode cX11_storeSchedule 0 = .ok (.aload_n 0, 1) := by decide +kernel
theorem dX11_storeSchedule_1 : decode cX11_storeSchedule 1 = .ok (.iload_n 1, 1) := by decide +kernel
theorem dX11_storeSchedule_2 : decode cX11_storeSchedule 2 = .ok (.invokestatic 263, 3) := by decide +kernel
theorem dX11_storeSchedule_5 : decode cX11_storeSchedule 5 = .ok (.ifCond .eq 7, 3) := by decide +kernel
theorem dX11_storeSchedule_8 : decode cX11_storeSchedule 8 = .ok (.iconst 0, 1) := by decide +kernel
theorem dX11_storeSchedule_9 : decode cX11_storeSchedule 9 = .ok (.goto 4, 3) := by decide +kernel
theorem dX11_storeSchedule_12 : decode cX11_storeSchedule 12 = .ok (.iconst 1, 1) := by decide +kernel
theorem dX11_storeSchedule_13 : decode cX11_storeSchedule 13 = .ok (.putfield 56, 3) := by decide +kernel
theorem dX11_storeSchedule_16 : decode cX11_storeSchedule 16 = .ok (.aload_n 0, 1) := by decide +kernel
theorem dX11_storeSchedule_17 : decode cX11_storeSchedule 17 = .ok (.getfield 56, 3) := by decide +kernel
theorem dX11_storeSchedule_20 : decode cX11_storeSchedule 20 = .ok (.ifCond .le 5, 3) := by decide +kernel
theorem dX11_storeSchedule_23 : decode cX11_storeSchedule 23 = .ok (.iconst 0, 1) := by decide +kernel
theorem dX11_storeSchedule_24 : decode cX11_storeSchedule 24 = .ok (.ireturn, 1) := by decide +kernel
theorem dX11_storeSchedule_25 : decode cX11_storeSchedule 25 = .ok (.aload_n 0, 1) := by decide +kernel
theorem dX11_storeSchedule_26 : decode cX11_storeSchedule 26 = .ok (.invokevirtual 175, 3) := by decide +kernel
theorem dX11_storeSchedule_29 : decode cX11_storeSchedule 29 = .ok (.pop, 1) := by decide +kernel
theorem dX11_storeSchedule_30 : decode cX11_storeSchedule 30 = .ok (.aload_n 0, 1) := by decide +kernel
theorem dX11_storeSchedule_31 : decode cX11_storeSchedule 31 = .ok (.getfield 49, 3) := by decide +kernel
theorem dX11_storeSchedule_34 : decode cX11_storeSchedule 34 = .ok (.iload_n 1, 1) := by decide +kernel
theorem dX11_storeSchedule_35 : decode cX11_storeSchedule 35 = .ok (.aload_n 0, 1) := by decide +kernel
theorem dX11_storeSchedule_36 : decode cX11_storeSchedule 36 = .ok (.getfield 163, 3) := by decide +kernel
theorem dX11_storeSchedule_39 : decode cX11_storeSchedule 39 = .ok (.iastore, 1) := by decide +kernel
theorem dX11_storeSchedule_40 : decode cX11_storeSchedule 40 = .ok (.aload_n 0, 1) := by decide +kernel
theorem dX11_storeSchedule_41 : decode cX11_storeSchedule 41 = .ok (.getfield 52, 3) := by decide +kernel
theorem dX11_storeSchedule_44 : decode cX11_storeSchedule 44 = .ok (.iload_n 1, 1) := by decide +kernel
theorem dX11_storeSchedule_45 : decode cX11_storeSchedule 45 = .ok (.iload_n 2, 1) := by decide +kernel
theorem dX11_storeSchedule_46 : decode cX11_storeSchedule 46 = .ok (.ifCond .ne 7, 3) := by decide +kernel
theorem dX11_storeSchedule_49 : decode cX11_storeSchedule 49 = .ok (.iconst 1, 1) := by decide +kernel
theorem dX11_storeSchedule_50 : decode cX11_storeSchedule 50 = .ok (.goto 4, 3) := by decide +kernel
theorem dX11_storeSchedule_53 : decode cX11_storeSchedule 53 = .ok (.iconst 0, 1) := by decide +kernel
theorem dX11_storeSchedule_54 : decode cX11_storeSchedule 54 = .ok (.bastore, 1) := by decide +kernel
theorem dX11_storeSchedule_55 : decode cX11_storeSchedule 55 = .ok (.iconst 0, 1) := by decide +kernel
theorem dX11_storeSchedule_56 : decode cX11_storeSchedule 56 = .ok (.istore_n 3, 1) := by decide +kernel
theorem dX11_storeSchedule_57 : decode cX11_storeSchedule 57 = .ok (.iload_n 3, 1) := by decide +kernel
theorem dX11_storeSchedule_58 : decode cX11_storeSchedule 58 = .ok (.aload_n 0, 1) := by decide +kernel
theorem dX11_storeSchedule_59 : decode cX11_storeSchedule 59 = .ok (.getfield 163, 3) := by decide +kernel
theorem dX11_storeSchedule_62 : decode cX11_storeSchedule 62 = .ok (.if_icmp .ge 50, 3) := by decide +kernel
theorem dX11_storeSchedule_112 : decode cX11_storeSchedule 112 = .ok (.aload_n 0, 1) := by decide +kernel
theorem dX11_storeSchedule_113 : decode cX11_storeSchedule 113 = .ok (.getfield 163, 3) := by decide +kernel
theorem dX11_storeSchedule_116 : decode cX11_storeSchedule 116 = .ok (.ireturn, 1) := by decide +kernel
theorem dX11_copyRow_0 : decode cX11_copyRow 0 = .ok (.iconst 1, 1) := by decide +kernel
theorem dX11_copyRow_1 : decode cX11_copyRow 1 = .ok (.iload_n 1, 1) := by decide +kernel
theorem dX11_copyRow_2 : decode cX11_copyRow 2 = .ok (.isub, 1) := by decide +kernel
theorem dX11_copyRow_3 : decode cX11_copyRow 3 = .ok (.istore_n 3, 1) := by decide +kernel
theorem dX11_copyRow_4 : decode cX11_copyRow 4 = .ok (.aload_n 0, 1) := by decide +kernel
theorem dX11_copyRow_5 : decode cX11_copyRow 5 = .ok (.iload_n 1, 1) := by decide +kernel
theorem dX11_copyRow_6 : decode cX11_copyRow 6 = .ok (.invokestatic 263, 3) := by decide +kernel
theorem dX11_copyRow_9 : decode cX11_copyRow 9 = .ok (.ifCond .ne 7, 3) := by decide +kernel
theorem dX11_copyRow_12 : decode cX11_copyRow 12 = .ok (.iconst 1, 1) := by decide +kernel
theorem dX11_copyRow_13 : decode cX11_copyRow 13 = .ok (.goto 73, 3) := by decide +kernel
theorem dX11_copyRow_16 : decode cX11_copyRow 16 = .ok (.aload_n 0, 1) := by decide +kernel
theorem dX11_copyRow_17 : decode cX11_copyRow 17 = .ok (.getfield 49, 3) := by decide +kernel
theorem dX11_copyRow_20 : decode cX11_copyRow 20 = .ok (.iconst 0, 1) := by decide +kernel
theorem dX11_copyRow_21 : decode cX11_copyRow 21 = .ok (.iaload, 1) := by decide +kernel
theorem dX11_copyRow_22 : decode cX11_copyRow 22 = .ok (.ifCond .lt 12, 3) := by decide +kernel
theorem dX11_copyRow_34 : decode cX11_copyRow 34 = .ok (.iconst 2, 1) := by decide +kernel
theorem dX11_copyRow_35 : decode cX11_copyRow 35 = .ok (.goto 51, 3) := by decide +kernel
theorem dX11_copyRow_86 : decode cX11_copyRow 86 = .ok (.putfield 56, 3) := by decide +kernel
theorem dX11_copyRow_89 : decode cX11_copyRow 89 = .ok (.iconst 0, 1) := by decide +kernel
theorem dX11_copyRow_90 : decode cX11_copyRow 90 = .ok (.istore 4, 2) := by decide +kernel
theorem dX11_copyRow_92 : decode cX11_copyRow 92 = .ok (.iconst 0, 1) := by decide +kernel
theorem dX11_copyRow_93 : decode cX11_copyRow 93 = .ok (.istore 5, 2) := by decide +kernel
theorem dX11_copyRow_95 : decode cX11_copyRow 95 = .ok (.iload 5, 2) := by decide +kernel
theorem dX11_copyRow_97 : decode cX11_copyRow 97 = .ok (.iload_n 2, 1) := by decide +kernel
theorem dX11_copyRow_98 : decode cX11_copyRow 98 = .ok (.if_icmp .ge 80, 3) := by decide +kernel
theorem dX11_copyRow_101 : decode cX11_copyRow 101 = .ok (.aload_n 0, 1) := by decide +kernel
theorem dX11_copyRow_102 : decode cX11_copyRow 102 = .ok (.getfield 56, 3) := by decide +kernel
theorem dX11_copyRow_105 : decode cX11_copyRow 105 = .ok (.ifCond .ne 73, 3) := by decide +kernel
theorem dX11_copyRow_178 : decode cX11_copyRow 178 = .ok (.iload 4, 2) := by decide +kernel
theorem dX11_copyRow_180 : decode cX11_copyRow 180 = .ok (.ireturn, 1) := by decide +kernel
theorem dX11_stored_0 : decode cX11_stored 0 = .ok (.aload_n 0, 1) := by decide +kernel
theorem dX11_stored_1 : decode cX11_stored 1 = .ok (.iload_n 1, 1) := by decide +kernel
theorem dX11_stored_2 : decode cX11_stored 2 = .ok (.invokestatic 263, 3) := by decide +kernel
theorem dX11_stored_5 : decode cX11_stored 5 = .ok (.ifCond .ne 7, 3) := by decide +kernel
theorem dX11_stored_8 : decode cX11_stored 8 = .ok (.iconst 1, 1) := by decide +kernel
theorem dX11_stored_9 : decode cX11_stored 9 = .ok (.goto 24, 3) := by decide +kernel
theorem dX11_stored_12 : decode cX11_stored 12 = .ok (.iload_n 2, 1) := by decide +kernel
theorem dX11_stored_13 : decode cX11_stored 13 = .ok (.iconst 0, 1) := by decide +kernel
theorem dX11_stored_14 : decode cX11_stored 14 = .ok (.aload_n 0, 1) := by decide +kernel
theorem dX11_stored_15 : decode cX11_stored 15 = .ok (.getfield 49, 3) := by decide +kernel
theorem dX11_stored_18 : decode cX11_stored 18 = .ok (.iload_n 1, 1) := by decide +kernel
theorem dX11_stored_19 : decode cX11_stored 19 = .ok (.iaload, 1) := by decide +kernel
theorem dX11_stored_20 : decode cX11_stored 20 = .ok (.iconst 1, 1) := by decide +kernel
theorem dX11_stored_21 : decode cX11_stored 21 = .ok (.isub, 1) := by decide +kernel
theorem dX11_stored_22 : decode cX11_stored 22 = .ok (.invokestatic 95, 3) := by decide +kernel
theorem dX11_stored_25 : decode cX11_stored 25 = .ok (.ifCond .eq 7, 3) := by decide +kernel
theorem dX11_stored_32 : decode cX11_stored 32 = .ok (.iconst 2, 1) := by decide +kernel
theorem dX11_stored_33 : decode cX11_stored 33 = .ok (.putfield 56, 3) := by decide +kernel
theorem dX11_stored_36 : decode cX11_stored 36 = .ok (.aload_n 0, 1) := by decide +kernel
theorem dX11_stored_37 : decode cX11_stored 37 = .ok (.getfield 56, 3) := by decide +kernel
theorem dX11_stored_40 : decode cX11_stored 40 = .ok (.ifCond .le 7, 3) := by decide +kernel
theorem dX11_stored_43 : decode cX11_stored 43 = .ok (.dconst 0, 1) := by decide +kernel
theorem dX11_stored_44 : decode cX11_stored 44 = .ok (.goto 14, 3) := by decide +kernel
theorem dX11_stored_58 : decode cX11_stored 58 = .ok (.dreturn, 1) := by decide +kernel
theorem dJ6_bitCount_0f7a4_0 : decode cJ6_bitCount_0f7a4 0 = .ok (.iload_n 0, 1) := by decide +kernel
theorem dJ6_bitCount_0f7a4_1 : decode cJ6_bitCount_0f7a4 1 = .ok (.iload_n 0, 1) := by decide +kernel
theorem dJ6_bitCount_0f7a4_2 : decode cJ6_bitCount_0f7a4 2 = .ok (.iconst 1, 1) := by decide +kernel
theorem dJ6_bitCount_0f7a4_3 : decode cJ6_bitCount_0f7a4 3 = .ok (.iushr, 1) := by decide +kernel
theorem dJ6_bitCount_0f7a4_4 : decode cJ6_bitCount_0f7a4 4 = .ok (.ldc_w 265, 3) := by decide +kernel
theorem dJ6_bitCount_0f7a4_7 : decode cJ6_bitCount_0f7a4 7 = .ok (.iand, 1) := by decide +kernel
theorem dJ6_bitCount_0f7a4_8 : decode cJ6_bitCount_0f7a4 8 = .ok (.isub, 1) := by decide +kernel
theorem dJ6_bitCount_0f7a4_9 : decode cJ6_bitCount_0f7a4 9 = .ok (.istore_n 0, 1) := by decide +kernel
theorem dJ6_bitCount_0f7a4_10 : decode cJ6_bitCount_0f7a4 10 = .ok (.iload_n 0, 1) := by decide +kernel
theorem dJ6_bitCount_0f7a4_11 : decode cJ6_bitCount_0f7a4 11 = .ok (.ldc_w 266, 3) := by decide +kernel
theorem dJ6_bitCount_0f7a4_14 : decode cJ6_bitCount_0f7a4 14 = .ok (.iand, 1) := by decide +kernel
theorem dJ6_bitCount_0f7a4_15 : decode cJ6_bitCount_0f7a4 15 = .ok (.iload_n 0, 1) := by decide +kernel
theorem dJ6_bitCount_0f7a4_16 : decode cJ6_bitCount_0f7a4 16 = .ok (.iconst 2, 1) := by decide +kernel
theorem dJ6_bitCount_0f7a4_17 : decode cJ6_bitCount_0f7a4 17 = .ok (.iushr, 1) := by decide +kernel
theorem dJ6_bitCount_0f7a4_18 : decode cJ6_bitCount_0f7a4 18 = .ok (.ldc_w 266, 3) := by decide +kernel
theorem dJ6_bitCount_0f7a4_21 : decode cJ6_bitCount_0f7a4 21 = .ok (.iand, 1) := by decide +kernel
theorem dJ6_bitCount_0f7a4_22 : decode cJ6_bitCount_0f7a4 22 = .ok (.iadd, 1) := by decide +kernel
theorem dJ6_bitCount_0f7a4_23 : decode cJ6_bitCount_0f7a4 23 = .ok (.istore_n 0, 1) := by decide +kernel
theorem dJ6_bitCount_0f7a4_24 : decode cJ6_bitCount_0f7a4 24 = .ok (.iload_n 0, 1) := by decide +kernel
theorem dJ6_bitCount_0f7a4_25 : decode cJ6_bitCount_0f7a4 25 = .ok (.iload_n 0, 1) := by decide +kernel
theorem dJ6_bitCount_0f7a4_26 : decode cJ6_bitCount_0f7a4 26 = .ok (.iconst 4, 1) := by decide +kernel
theorem dJ6_bitCount_0f7a4_27 : decode cJ6_bitCount_0f7a4 27 = .ok (.iushr, 1) := by decide +kernel
theorem dJ6_bitCount_0f7a4_28 : decode cJ6_bitCount_0f7a4 28 = .ok (.iadd, 1) := by decide +kernel
theorem dJ6_bitCount_0f7a4_29 : decode cJ6_bitCount_0f7a4 29 = .ok (.ldc_w 267, 3) := by decide +kernel
theorem dJ6_bitCount_0f7a4_32 : decode cJ6_bitCount_0f7a4 32 = .ok (.iand, 1) := by decide +kernel
theorem dJ6_bitCount_0f7a4_33 : decode cJ6_bitCount_0f7a4 33 = .ok (.istore_n 0, 1) := by decide +kernel
theorem dJ6_bitCount_0f7a4_34 : decode cJ6_bitCount_0f7a4 34 = .ok (.iload_n 0, 1) := by decide +kernel
theorem dJ6_bitCount_0f7a4_35 : decode cJ6_bitCount_0f7a4 35 = .ok (.iload_n 0, 1) := by decide +kernel
theorem dJ6_bitCount_0f7a4_36 : decode cJ6_bitCount_0f7a4 36 = .ok (.bipush 8, 2) := by decide +kernel
theorem dJ6_bitCount_0f7a4_38 : decode cJ6_bitCount_0f7a4 38 = .ok (.iushr, 1) := by decide +kernel
theorem dJ6_bitCount_0f7a4_39 : decode cJ6_bitCount_0f7a4 39 = .ok (.iadd, 1) := by decide +kernel
theorem dJ6_bitCount_0f7a4_40 : decode cJ6_bitCount_0f7a4 40 = .ok (.istore_n 0, 1) := by decide +kernel
theorem dJ6_bitCount_0f7a4_41 : decode cJ6_bitCount_0f7a4 41 = .ok (.iload_n 0, 1) := by decide +kernel
theorem dJ6_bitCount_0f7a4_42 : decode cJ6_bitCount_0f7a4 42 = .ok (.iload_n 0, 1) := by decide +kernel
theorem dJ6_bitCount_0f7a4_43 : decode cJ6_bitCount_0f7a4 43 = .ok (.bipush 16, 2) := by decide +kernel
theorem dJ6_bitCount_0f7a4_45 : decode cJ6_bitCount_0f7a4 45 = .ok (.iushr, 1) := by decide +kernel
theorem dJ6_bitCount_0f7a4_46 : decode cJ6_bitCount_0f7a4 46 = .ok (.iadd, 1) := by decide +kernel
theorem dJ6_bitCount_0f7a4_47 : decode cJ6_bitCount_0f7a4 47 = .ok (.istore_n 0, 1) := by decide +kernel
theorem dJ6_bitCount_0f7a4_48 : decode cJ6_bitCount_0f7a4 48 = .ok (.iload_n 0, 1) := by decide +kernel
theorem dJ6_bitCount_0f7a4_49 : decode cJ6_bitCount_0f7a4 49 = .ok (.bipush 63, 2) := by decide +kernel
theorem dJ6_bitCount_0f7a4_51 : decode cJ6_bitCount_0f7a4 51 = .ok (.iand, 1) := by decide +kernel
theorem dJ6_bitCount_0f7a4_52 : decode cJ6_bitCount_0f7a4 52 = .ok (.ireturn, 1) := by decide +kernel
theorem dJ9_floorDiv_f86c9_0 : decode cJ9_floorDiv_f86c9 0 = .ok (.lload_n 0, 1) := by decide +kernel
theorem dJ9_floorDiv_f86c9_1 : decode cJ9_floorDiv_f86c9 1 = .ok (.lload_n 2, 1) := by decide +kernel
theorem dJ9_floorDiv_f86c9_2 : decode cJ9_floorDiv_f86c9 2 = .ok (.ldiv, 1) := by decide +kernel
theorem dJ9_floorDiv_f86c9_3 : decode cJ9_floorDiv_f86c9 3 = .ok (.lstore 4, 2) := by decide +kernel
theorem dJ9_floorDiv_f86c9_5 : decode cJ9_floorDiv_f86c9 5 = .ok (.lload_n 0, 1) := by decide +kernel
theorem dJ9_floorDiv_f86c9_6 : decode cJ9_floorDiv_f86c9 6 = .ok (.lload_n 2, 1) := by decide +kernel
theorem dJ9_floorDiv_f86c9_7 : decode cJ9_floorDiv_f86c9 7 = .ok (.lxor, 1) := by decide +kernel
theorem dJ9_floorDiv_f86c9_8 : decode cJ9_floorDiv_f86c9 8 = .ok (.lconst 0, 1) := by decide +kernel
theorem dJ9_floorDiv_f86c9_9 : decode cJ9_floorDiv_f86c9 9 = .ok (.lcmp, 1) := by decide +kernel
theorem dJ9_floorDiv_f86c9_10 : decode cJ9_floorDiv_f86c9 10 = .ok (.ifCond .ge 17, 3) := by decide +kernel
theorem dJ9_floorDiv_f86c9_27 : decode cJ9_floorDiv_f86c9 27 = .ok (.lload 4, 2) := by decide +kernel
theorem dJ9_floorDiv_f86c9_29 : decode cJ9_floorDiv_f86c9 29 = .ok (.lreturn, 1) := by decide +kernel
theorem dJ9_floorMod_7cf53_0 : decode cJ9_floorMod_7cf53 0 = .ok (.iload_n 0, 1) := by decide +kernel
theorem dJ9_floorMod_7cf53_1 : decode cJ9_floorMod_7cf53 1 = .ok (.iload_n 1, 1) := by decide +kernel
theorem dJ9_floorMod_7cf53_2 : decode cJ9_floorMod_7cf53 2 = .ok (.irem, 1) := by decide +kernel
theorem dJ9_floorMod_7cf53_3 : decode cJ9_floorMod_7cf53 3 = .ok (.istore_n 2, 1) := by decide +kernel
theorem dJ9_floorMod_7cf53_4 : decode cJ9_floorMod_7cf53 4 = .ok (.iload_n 0, 1) := by decide +kernel
theorem dJ9_floorMod_7cf53_5 : decode cJ9_floorMod_7cf53 5 = .ok (.iload_n 1, 1) := by decide +kernel
theorem dJ9_floorMod_7cf53_6 : decode cJ9_floorMod_7cf53 6 = .ok (.ixor, 1) := by decide +kernel
theorem dJ9_floorMod_7cf53_7 : decode cJ9_floorMod_7cf53 7 = .ok (.ifCond .ge 11, 3) := by decide +kernel
theorem dJ9_floorMod_7cf53_18 : decode cJ9_floorMod_7cf53 18 = .ok (.iload_n 2, 1) := by decide +kernel
theorem dJ9_floorMod_7cf53_19 : decode cJ9_floorMod_7cf53 19 = .ok (.ireturn, 1) := by decide +kernel
theorem dL_begin_0 : decode cL_begin 0 = .ok (.aload 5, 2) := by decide +kernel
theorem dL_begin_2 : decode cL_begin 2 = .ok (.iconst 0, 1) := by decide +kernel
theorem dL_begin_3 : decode cL_begin 3 = .ok (.aload_n 0, 1) := by decide +kernel
theorem dL_begin_4 : decode cL_begin 4 = .ok (.iload_n 1, 1) := by decide +kernel
theorem dL_begin_5 : decode cL_begin 5 = .ok (.iload_n 2, 1) := by decide +kernel
theorem dL_begin_6 : decode cL_begin 6 = .ok (.iload_n 3, 1) := by decide +kernel
theorem dL_begin_7 : decode cL_begin 7 = .ok (.iload 4, 2) := by decide +kernel
theorem dL_begin_9 : decode cL_begin 9 = .ok (.invokevirtual 7, 3) := by decide +kernel
theorem dL_begin_12 : decode cL_begin 12 = .ok (.i2l, 1) := by decide +kernel
theorem dL_begin_13 : decode cL_begin 13 = .ok (.lastore, 1) := by decide +kernel
theorem dL_begin_14 : decode cL_begin 14 = .ok (.goto 7, 3) := by decide +kernel
theorem dL_begin_17 : decode cL_begin 17 = .ok (.astore 6, 2) := by decide +kernel
theorem dL_begin_19 : decode cL_begin 19 = .ok (.iconst 1, 1) := by decide +kernel
theorem dL_begin_20 : decode cL_begin 20 = .ok (.ireturn, 1) := by decide +kernel
theorem dL_begin_21 : decode cL_begin 21 = .ok (.iconst 0, 1) := by decide +kernel
theorem dL_begin_22 : decode cL_begin 22 = .ok (.ireturn, 1) := by decide +kernel
theorem dL_pass_0 : decode cL_pass 0 = .ok (.aload_n 2, 1) := by decide +kernel
theorem dL_pass_1 : decode cL_pass 1 = .ok (.iconst 0, 1) := by decide +kernel
theorem dL_pass_2 : decode cL_pass 2 = .ok (.aload_n 0, 1) := by decide +kernel
theorem dL_pass_3 : decode cL_pass 3 = .ok (.iload_n 1, 1) := by decide +kernel
theorem dL_pass_4 : decode cL_pass 4 = .ok (.invokevirtual 15, 3) := by decide +kernel
theorem dL_pass_7 : decode cL_pass 7 = .ok (.i2l, 1) := by decide +kernel
theorem dL_pass_8 : decode cL_pass 8 = .ok (.lastore, 1) := by decide +kernel
theorem dL_pass_9 : decode cL_pass 9 = .ok (.goto 9, 3) := by decide +kernel
theorem dL_pass_12 : decode cL_pass 12 = .ok (.astore_n 3, 1) := by decide +kernel
theorem dL_pass_13 : decode cL_pass 13 = .ok (.iconst 1, 1) := by decide +kernel
theorem dL_pass_14 : decode cL_pass 14 = .ok (.ireturn, 1) := by decide +kernel
theorem dL_pass_18 : decode cL_pass 18 = .ok (.iconst 0, 1) := by decide +kernel
theorem dL_pass_19 : decode cL_pass 19 = .ok (.ireturn, 1) := by decide +kernel
theorem dL_date_0 : decode cL_date 0 = .ok (.aload_n 2, 1) := by decide +kernel
theorem dL_date_1 : decode cL_date 1 = .ok (.iconst 0, 1) := by decide +kernel
theorem dL_date_2 : decode cL_date 2 = .ok (.aload_n 0, 1) := by decide +kernel
theorem dL_date_3 : decode cL_date 3 = .ok (.iload_n 1, 1) := by decide +kernel
theorem dL_date_4 : decode cL_date 4 = .ok (.invokevirtual 21, 3) := by decide +kernel
theorem dL_date_7 : decode cL_date 7 = .ok (.i2l, 1) := by decide +kernel
theorem dL_date_8 : decode cL_date 8 = .ok (.lastore, 1) := by decide +kernel
theorem dL_date_9 : decode cL_date 9 = .ok (.goto 6, 3) := by decide +kernel
theorem dL_date_12 : decode cL_date 12 = .ok (.astore_n 3, 1) := by decide +kernel
theorem dL_date_13 : decode cL_date 13 = .ok (.iconst 1, 1) := by decide +kernel
theorem dL_date_14 : decode cL_date 14 = .ok (.ireturn, 1) := by decide +kernel
theorem dL_date_15 : decode cL_date 15 = .ok (.iconst 0, 1) := by decide +kernel
theorem dL_date_16 : decode cL_date 16 = .ok (.ireturn, 1) := by decide +kernel
theorem dL_countedDays_0 : decode cL_countedDays 0 = .ok (.aload 4, 2) := by decide +kernel
theorem dL_countedDays_2 : decode cL_countedDays 2 = .ok (.iconst 0, 1) := by decide +kernel
theorem dL_countedDays_3 : decode cL_countedDays 3 = .ok (.aload_n 0, 1) := by decide +kernel
theorem dL_countedDays_4 : decode cL_countedDays 4 = .ok (.iload_n 1, 1) := by decide +kernel
theorem dL_countedDays_5 : decode cL_countedDays 5 = .ok (.iload_n 2, 1) := by decide +kernel
theorem dL_countedDays_6 : decode cL_countedDays 6 = .ok (.iload_n 3, 1) := by decide +kernel
theorem dL_countedDays_7 : decode cL_countedDays 7 = .ok (.invokevirtual 24, 3) := by decide +kernel
theorem dL_countedDays_10 : decode cL_countedDays 10 = .ok (.i2l, 1) := by decide +kernel
theorem dL_countedDays_11 : decode cL_countedDays 11 = .ok (.lastore, 1) := by decide +kernel
theorem dL_countedDays_12 : decode cL_countedDays 12 = .ok (.goto 7, 3) := by decide +kernel
theorem dL_countedDays_15 : decode cL_countedDays 15 = .ok (.astore 5, 2) := by decide +kernel
theorem dL_countedDays_17 : decode cL_countedDays 17 = .ok (.iconst 1, 1) := by decide +kernel
theorem dL_countedDays_18 : decode cL_countedDays 18 = .ok (.ireturn, 1) := by decide +kernel
theorem dL_countedDays_19 : decode cL_countedDays 19 = .ok (.iconst 0, 1) := by decide +kernel
theorem dL_countedDays_20 : decode cL_countedDays 20 = .ok (.ireturn, 1) := by decide +kernel
theorem dL_set_0 : decode cL_set 0 = .ok (.aload_n 3, 1) := by decide +kernel
theorem dL_set_1 : decode cL_set 1 = .ok (.iconst 0, 1) := by decide +kernel
theorem dL_set_2 : decode cL_set 2 = .ok (.aload_n 0, 1) := by decide +kernel
theorem dL_set_3 : decode cL_set 3 = .ok (.iload_n 1, 1) := by decide +kernel
theorem dL_set_4 : decode cL_set 4 = .ok (.iload_n 2, 1) := by decide +kernel
theorem dL_set_5 : decode cL_set 5 = .ok (.invokevirtual 28, 3) := by decide +kernel
theorem dL_set_8 : decode cL_set 8 = .ok (.i2l, 1) := by decide +kernel
theorem dL_set_9 : decode cL_set 9 = .ok (.lastore, 1) := by decide +kernel
theorem dL_set_10 : decode cL_set 10 = .ok (.goto 11, 3) := by decide +kernel
theorem dL_set_13 : decode cL_set 13 = .ok (.astore 4, 2) := by decide +kernel
theorem dL_set_15 : decode cL_set 15 = .ok (.iconst 1, 1) := by decide +kernel
theorem dL_set_16 : decode cL_set 16 = .ok (.ireturn, 1) := by decide +kernel
theorem dL_set_17 : decode cL_set 17 = .ok (.astore 4, 2) := by decide +kernel
theorem dL_set_19 : decode cL_set 19 = .ok (.iconst 2, 1) := by decide +kernel
theorem dL_set_20 : decode cL_set 20 = .ok (.ireturn, 1) := by decide +kernel
theorem dL_set_21 : decode cL_set 21 = .ok (.iconst 0, 1) := by decide +kernel
theorem dL_set_22 : decode cL_set 22 = .ok (.ireturn, 1) := by decide +kernel
theorem dL_setRate_0 : decode cL_setRate 0 = .ok (.aload_n 2, 1) := by decide +kernel
theorem dL_setRate_1 : decode cL_setRate 1 = .ok (.iconst 0, 1) := by decide +kernel
theorem dL_setRate_2 : decode cL_setRate 2 = .ok (.aload_n 0, 1) := by decide +kernel
theorem dL_setRate_3 : decode cL_setRate 3 = .ok (.iload_n 1, 1) := by decide +kernel
theorem dL_setRate_4 : decode cL_setRate 4 = .ok (.invokevirtual 34, 3) := by decide +kernel
theorem dL_setRate_12 : decode cL_setRate 12 = .ok (.astore_n 3, 1) := by decide +kernel
theorem dL_setRate_13 : decode cL_setRate 13 = .ok (.iconst 1, 1) := by decide +kernel
theorem dL_setRate_14 : decode cL_setRate 14 = .ok (.ireturn, 1) := by decide +kernel
theorem dL_setRate_15 : decode cL_setRate 15 = .ok (.astore_n 3, 1) := by decide +kernel
theorem dL_setRate_16 : decode cL_setRate 16 = .ok (.iconst 2, 1) := by decide +kernel
theorem dL_setRate_17 : decode cL_setRate 17 = .ok (.ireturn, 1) := by decide +kernel
theorem dL_setHoliday_0 : decode cL_setHoliday 0 = .ok (.aload_n 3, 1) := by decide +kernel
theorem dL_setHoliday_1 : decode cL_setHoliday 1 = .ok (.iconst 0, 1) := by decide +kernel
theorem dL_setHoliday_2 : decode cL_setHoliday 2 = .ok (.aload_n 0, 1) := by decide +kernel
theorem dL_setHoliday_3 : decode cL_setHoliday 3 = .ok (.iload_n 1, 1) := by decide +kernel
theorem dL_setHoliday_4 : decode cL_setHoliday 4 = .ok (.iload_n 2, 1) := by decide +kernel
theorem dL_setHoliday_5 : decode cL_setHoliday 5 = .ok (.invokevirtual 37, 3) := by decide +kernel
theorem dL_setHoliday_20 : decode cL_setHoliday 20 = .ok (.astore 4, 2) := by decide +kernel
theorem dL_setHoliday_22 : decode cL_setHoliday 22 = .ok (.iconst 1, 1) := by decide +kernel
theorem dL_setHoliday_23 : decode cL_setHoliday 23 = .ok (.ireturn, 1) := by decide +kernel
theorem dL_setHoliday_24 : decode cL_setHoliday 24 = .ok (.astore 4, 2) := by decide +kernel
theorem dL_setHoliday_26 : decode cL_setHoliday 26 = .ok (.iconst 2, 1) := by decide +kernel
theorem dL_setHoliday_27 : decode cL_setHoliday 27 = .ok (.ireturn, 1) := by decide +kernel
theorem dL_pay_0 : decode cL_pay 0 = .ok (.aload_n 2, 1) := by decide +kernel
theorem dL_pay_1 : decode cL_pay 1 = .ok (.iconst 0, 1) := by decide +kernel
theorem dL_pay_2 : decode cL_pay 2 = .ok (.aload_n 0, 1) := by decide +kernel
theorem dL_pay_3 : decode cL_pay 3 = .ok (.iload_n 1, 1) := by decide +kernel
theorem dL_pay_4 : decode cL_pay 4 = .ok (.invokevirtual 41, 3) := by decide +kernel
theorem dL_pay_12 : decode cL_pay 12 = .ok (.astore_n 3, 1) := by decide +kernel
theorem dL_pay_13 : decode cL_pay 13 = .ok (.iconst 1, 1) := by decide +kernel
theorem dL_pay_14 : decode cL_pay 14 = .ok (.ireturn, 1) := by decide +kernel
theorem dL_pay_15 : decode cL_pay 15 = .ok (.astore_n 3, 1) := by decide +kernel
theorem dL_pay_16 : decode cL_pay 16 = .ok (.iconst 2, 1) := by decide +kernel
theorem dL_pay_17 : decode cL_pay 17 = .ok (.ireturn, 1) := by decide +kernel
theorem dL_waive_0 : decode cL_waive 0 = .ok (.aload_n 2, 1) := by decide +kernel
theorem dL_waive_1 : decode cL_waive 1 = .ok (.iconst 0, 1) := by decide +kernel
theorem dL_waive_2 : decode cL_waive 2 = .ok (.aload_n 0, 1) := by decide +kernel
theorem dL_waive_3 : decode cL_waive 3 = .ok (.iload_n 1, 1) := by decide +kernel
theorem dL_waive_4 : decode cL_waive 4 = .ok (.invokevirtual 46, 3) := by decide +kernel
theorem dL_waive_12 : decode cL_waive 12 = .ok (.astore_n 3, 1) := by decide +kernel
theorem dL_waive_13 : decode cL_waive 13 = .ok (.iconst 1, 1) := by decide +kernel
theorem dL_waive_14 : decode cL_waive 14 = .ok (.ireturn, 1) := by decide +kernel
theorem dL_waive_15 : decode cL_waive 15 = .ok (.astore_n 3, 1) := by decide +kernel
theorem dL_waive_16 : decode cL_waive 16 = .ok (.iconst 2, 1) := by decide +kernel
theorem dL_waive_17 : decode cL_waive 17 = .ok (.ireturn, 1) := by decide +kernel
theorem dL_explain_0 : decode cL_explain 0 = .ok (.aload_n 3, 1) := by decide +kernel
theorem dL_explain_1 : decode cL_explain 1 = .ok (.iconst 0, 1) := by decide +kernel
theorem dL_explain_2 : decode cL_explain 2 = .ok (.aload_n 0, 1) := by decide +kernel
theorem dL_explain_3 : decode cL_explain 3 = .ok (.iload_n 1, 1) := by decide +kernel
theorem dL_explain_4 : decode cL_explain 4 = .ok (.iload_n 2, 1) := by decide +kernel
theorem dL_explain_5 : decode cL_explain 5 = .ok (.invokevirtual 49, 3) := by decide +kernel
theorem dL_explain_13 : decode cL_explain 13 = .ok (.astore 4, 2) := by decide +kernel
theorem dL_explain_15 : decode cL_explain 15 = .ok (.iconst 1, 1) := by decide +kernel
theorem dL_explain_16 : decode cL_explain 16 = .ok (.ireturn, 1) := by decide +kernel
theorem dL_explain_17 : decode cL_explain 17 = .ok (.astore 4, 2) := by decide +kernel
theorem dL_explain_19 : decode cL_explain 19 = .ok (.iconst 2, 1) := by decide +kernel
theorem dL_explain_20 : decode cL_explain 20 = .ok (.ireturn, 1) := by decide +kernel
theorem dL_number_0 : decode cL_number 0 = .ok (.aload_n 2, 1) := by decide +kernel
theorem dL_number_1 : decode cL_number 1 = .ok (.iconst 0, 1) := by decide +kernel
theorem dL_number_2 : decode cL_number 2 = .ok (.aload_n 0, 1) := by decide +kernel
theorem dL_number_3 : decode cL_number 3 = .ok (.iload_n 1, 1) := by decide +kernel
theorem dL_number_4 : decode cL_number 4 = .ok (.invokevirtual 52, 3) := by decide +kernel
theorem dL_number_7 : decode cL_number 7 = .ok (.i2l, 1) := by decide +kernel
theorem dL_number_8 : decode cL_number 8 = .ok (.lastore, 1) := by decide +kernel
theorem dL_number_9 : decode cL_number 9 = .ok (.goto 6, 3) := by decide +kernel
theorem dL_number_12 : decode cL_number 12 = .ok (.astore_n 3, 1) := by decide +kernel
theorem dL_number_13 : decode cL_number 13 = .ok (.iconst 1, 1) := by decide +kernel
theorem dL_number_14 : decode cL_number 14 = .ok (.ireturn, 1) := by decide +kernel
theorem dL_number_15 : decode cL_number 15 = .ok (.iconst 0, 1) := by decide +kernel
theorem dL_number_16 : decode cL_number 16 = .ok (.ireturn, 1) := by decide +kernel
theorem dL_total_0 : decode cL_total 0 = .ok (.aload_n 2, 1) := by decide +kernel
theorem dL_total_1 : decode cL_total 1 = .ok (.iconst 0, 1) := by decide +kernel
theorem dL_total_2 : decode cL_total 2 = .ok (.aload_n 0, 1) := by decide +kernel
theorem dL_total_3 : decode cL_total 3 = .ok (.iload_n 1, 1) := by decide +kernel
theorem dL_total_4 : decode cL_total 4 = .ok (.invokevirtual 55, 3) := by decide +kernel
theorem dL_total_7 : decode cL_total 7 = .ok (.i2l, 1) := by decide +kernel
theorem dL_total_8 : decode cL_total 8 = .ok (.lastore, 1) := by decide +kernel
theorem dL_total_9 : decode cL_total 9 = .ok (.goto 6, 3) := by decide +kernel
theorem dL_total_12 : decode cL_total 12 = .ok (.astore_n 3, 1) := by decide +kernel
theorem dL_total_13 : decode cL_total 13 = .ok (.iconst 1, 1) := by decide +kernel
theorem dL_total_14 : decode cL_total 14 = .ok (.ireturn, 1) := by decide +kernel
theorem dL_total_15 : decode cL_total 15 = .ok (.iconst 0, 1) := by decide +kernel
theorem dL_total_16 : decode cL_total 16 = .ok (.ireturn, 1) := by decide +kernel
theorem dL_interestShare_0 : decode cL_interestShare 0 = .ok (.aload_n 1, 1) := by decide +kernel
theorem dL_interestShare_1 : decode cL_interestShare 1 = .ok (.iconst 0, 1) := by decide +kernel
theorem dL_interestShare_2 : decode cL_interestShare 2 = .ok (.aload_n 0, 1) := by decide +kernel
theorem dL_interestShare_3 : decode cL_interestShare 3 = .ok (.invokevirtual 58, 3) := by decide +kernel
theorem dL_interestShare_10 : decode cL_interestShare 10 = .ok (.astore_n 2, 1) := by decide +kernel
theorem dL_interestShare_11 : decode cL_interestShare 11 = .ok (.iconst 1, 1) := by decide +kernel
theorem dL_interestShare_12 : decode cL_interestShare 12 = .ok (.ireturn, 1) := by decide +kernel
theorem dL_progress_0 : decode cL_progress 0 = .ok (.aload_n 1, 1) := by decide +kernel
theorem dL_progress_1 : decode cL_progress 1 = .ok (.iconst 0, 1) := by decide +kernel
theorem dL_progress_2 : decode cL_progress 2 = .ok (.aload_n 0, 1) := by decide +kernel
theorem dL_progress_3 : decode cL_progress 3 = .ok (.invokevirtual 64, 3) := by decide +kernel
theorem dL_progress_11 : decode cL_progress 11 = .ok (.astore_n 2, 1) := by decide +kernel
theorem dL_progress_12 : decode cL_progress 12 = .ok (.iconst 1, 1) := by decide +kernel
theorem dL_progress_13 : decode cL_progress 13 = .ok (.ireturn, 1) := by decide +kernel
theorem dL_schedule_0 : decode cL_schedule 0 = .ok (.aload_n 3, 1) := by decide +kernel
theorem dL_schedule_1 : decode cL_schedule 1 = .ok (.iconst 0, 1) := by decide +kernel
theorem dL_schedule_2 : decode cL_schedule 2 = .ok (.aload_n 0, 1) := by decide +kernel
theorem dL_schedule_3 : decode cL_schedule 3 = .ok (.iload_n 1, 1) := by decide +kernel
theorem dL_schedule_4 : decode cL_schedule 4 = .ok (.iload_n 2, 1) := by decide +kernel
theorem dL_schedule_5 : decode cL_schedule 5 = .ok (.invokevirtual 68, 3) := by decide +kernel
theorem dL_schedule_13 : decode cL_schedule 13 = .ok (.astore 4, 2) := by decide +kernel
theorem dL_schedule_15 : decode cL_schedule 15 = .ok (.iconst 1, 1) := by decide +kernel
theorem dL_schedule_16 : decode cL_schedule 16 = .ok (.ireturn, 1) := by decide +kernel
theorem dL_installmentFor_0 : decode cL_installmentFor 0 = .ok (.aload_n 2, 1) := by decide +kernel
theorem dL_installmentFor_1 : decode cL_installmentFor 1 = .ok (.iconst 0, 1) := by decide +kernel
theorem dL_installmentFor_2 : decode cL_installmentFor 2 = .ok (.aload_n 0, 1) := by decide +kernel
theorem dL_installmentFor_3 : decode cL_installmentFor 3 = .ok (.iload_n 1, 1) := by decide +kernel
theorem dL_installmentFor_4 : decode cL_installmentFor 4 = .ok (.invokevirtual 71, 3) := by decide +kernel
theorem dL_installmentFor_12 : decode cL_installmentFor 12 = .ok (.astore_n 3, 1) := by decide +kernel
theorem dL_installmentFor_13 : decode cL_installmentFor 13 = .ok (.iconst 1, 1) := by decide +kernel
theorem dL_installmentFor_14 : decode cL_installmentFor 14 = .ok (.ireturn, 1) := by decide +kernel
theorem dL_installmentFor_15 : decode cL_installmentFor 15 = .ok (.astore_n 3, 1) := by decide +kernel
theorem dL_installmentFor_16 : decode cL_installmentFor 16 = .ok (.iconst 2, 1) := by decide +kernel
theorem dL_installmentFor_17 : decode cL_installmentFor 17 = .ok (.ireturn, 1) := by decide +kernel
theorem dL_append_0 : decode cL_append 0 = .ok (.aload_n 2, 1) := by decide +kernel
theorem dL_append_1 : decode cL_append 1 = .ok (.iconst 0, 1) := by decide +kernel
theorem dL_append_2 : decode cL_append 2 = .ok (.aload_n 0, 1) := by decide +kernel
theorem dL_append_3 : decode cL_append 3 = .ok (.iload_n 1, 1) := by decide +kernel
theorem dL_append_4 : decode cL_append 4 = .ok (.invokevirtual 74, 3) := by decide +kernel
theorem dL_append_7 : decode cL_append 7 = .ok (.i2l, 1) := by decide +kernel
theorem dL_append_8 : decode cL_append 8 = .ok (.lastore, 1) := by decide +kernel
theorem dL_append_9 : decode cL_append 9 = .ok (.goto 9, 3) := by decide +kernel
theorem dL_append_12 : decode cL_append 12 = .ok (.astore_n 3, 1) := by decide +kernel
theorem dL_append_13 : decode cL_append 13 = .ok (.iconst 1, 1) := by decide +kernel
theorem dL_append_14 : decode cL_append 14 = .ok (.ireturn, 1) := by decide +kernel
theorem dL_append_18 : decode cL_append 18 = .ok (.iconst 0, 1) := by decide +kernel
theorem dL_append_19 : decode cL_append 19 = .ok (.ireturn, 1) := by decide +kernel
theorem dL_execute_0 : decode cL_execute 0 = .ok (.aload_n 1, 1) := by decide +kernel
theorem dL_execute_1 : decode cL_execute 1 = .ok (.iconst 0, 1) := by decide +kernel
theorem dL_execute_2 : decode cL_execute 2 = .ok (.aload_n 0, 1) := by decide +kernel
theorem dL_execute_3 : decode cL_execute 3 = .ok (.invokevirtual 78, 3) := by decide +kernel
theorem dL_execute_11 : decode cL_execute 11 = .ok (.astore_n 2, 1) := by decide +kernel
theorem dL_execute_12 : decode cL_execute 12 = .ok (.iconst 1, 1) := by decide +kernel
theorem dL_execute_13 : decode cL_execute 13 = .ok (.ireturn, 1) := by decide +kernel
theorem dL_errorPosition_0 : decode cL_errorPosition 0 = .ok (.aload_n 1, 1) := by decide +kernel
theorem dL_errorPosition_1 : decode cL_errorPosition 1 = .ok (.iconst 0, 1) := by decide +kernel
theorem dL_errorPosition_2 : decode cL_errorPosition 2 = .ok (.aload_n 0, 1) := by decide +kernel
theorem dL_errorPosition_3 : decode cL_errorPosition 3 = .ok (.invokevirtual 82, 3) := by decide +kernel
theorem dL_errorPosition_11 : decode cL_errorPosition 11 = .ok (.astore_n 2, 1) := by decide +kernel
theorem dL_errorPosition_12 : decode cL_errorPosition 12 = .ok (.iconst 1, 1) := by decide +kernel
theorem dL_errorPosition_13 : decode cL_errorPosition 13 = .ok (.ireturn, 1) := by decide +kernel
theorem dL_refusedCommand_0 : decode cL_refusedCommand 0 = .ok (.aload_n 2, 1) := by decide +kernel
theorem dL_refusedCommand_1 : decode cL_refusedCommand 1 = .ok (.iconst 0, 1) := by decide +kernel
theorem dL_refusedCommand_2 : decode cL_refusedCommand 2 = .ok (.aload_n 0, 1) := by decide +kernel
theorem dL_refusedCommand_3 : decode cL_refusedCommand 3 = .ok (.iload_n 1, 1) := by decide +kernel
theorem dL_refusedCommand_4 : decode cL_refusedCommand 4 = .ok (.invokevirtual 87, 3) := by decide +kernel
theorem dL_refusedCommand_12 : decode cL_refusedCommand 12 = .ok (.astore_n 3, 1) := by decide +kernel
theorem dL_refusedCommand_13 : decode cL_refusedCommand 13 = .ok (.iconst 1, 1) := by decide +kernel
theorem dL_refusedCommand_14 : decode cL_refusedCommand 14 = .ok (.ireturn, 1) := by decide +kernel
theorem dL_ledger_0 : decode cL_ledger 0 = .ok (.aload_n 3, 1) := by decide +kernel
theorem dL_ledger_1 : decode cL_ledger 1 = .ok (.iconst 0, 1) := by decide +kernel
theorem dL_ledger_2 : decode cL_ledger 2 = .ok (.aload_n 0, 1) := by decide +kernel
theorem dL_ledger_3 : decode cL_ledger 3 = .ok (.iload_n 1, 1) := by decide +kernel
theorem dL_ledger_4 : decode cL_ledger 4 = .ok (.iload_n 2, 1) := by decide +kernel
theorem dL_ledger_5 : decode cL_ledger 5 = .ok (.invokevirtual 91, 3) := by decide +kernel
theorem dL_ledger_13 : decode cL_ledger 13 = .ok (.astore 4, 2) := by decide +kernel
theorem dL_ledger_15 : decode cL_ledger 15 = .ok (.iconst 1, 1) := by decide +kernel
theorem dL_ledger_16 : decode cL_ledger 16 = .ok (.ireturn, 1) := by decide +kernel
theorem dL_undo_0 : decode cL_undo 0 = .ok (.aload_n 1, 1) := by decide +kernel
theorem dL_undo_1 : decode cL_undo 1 = .ok (.iconst 0, 1) := by decide +kernel
theorem dL_undo_2 : decode cL_undo 2 = .ok (.aload_n 0, 1) := by decide +kernel
theorem dL_undo_3 : decode cL_undo 3 = .ok (.invokevirtual 94, 3) := by decide +kernel
theorem dL_undo_11 : decode cL_undo 11 = .ok (.astore_n 2, 1) := by decide +kernel
theorem dL_undo_12 : decode cL_undo 12 = .ok (.iconst 1, 1) := by decide +kernel
theorem dL_undo_13 : decode cL_undo 13 = .ok (.ireturn, 1) := by decide +kernel
theorem dL_storeSchedule_0 : decode cL_storeSchedule 0 = .ok (.aload_n 3, 1) := by decide +kernel
theorem dL_storeSchedule_1 : decode cL_storeSchedule 1 = .ok (.iconst 0, 1) := by decide +kernel
theorem dL_storeSchedule_2 : decode cL_storeSchedule 2 = .ok (.aload_n 0, 1) := by decide +kernel
theorem dL_storeSchedule_3 : decode cL_storeSchedule 3 = .ok (.iload_n 1, 1) := by decide +kernel
theorem dL_storeSchedule_4 : decode cL_storeSchedule 4 = .ok (.iload_n 2, 1) := by decide +kernel
theorem dL_storeSchedule_5 : decode cL_storeSchedule 5 = .ok (.invokevirtual 97, 3) := by decide +kernel
theorem dL_storeSchedule_8 : decode cL_storeSchedule 8 = .ok (.i2l, 1) := by decide +kernel
theorem dL_storeSchedule_9 : decode cL_storeSchedule 9 = .ok (.lastore, 1) := by decide +kernel
theorem dL_storeSchedule_10 : decode cL_storeSchedule 10 = .ok (.goto 7, 3) := by decide +kernel
theorem dL_storeSchedule_13 : decode cL_storeSchedule 13 = .ok (.astore 4, 2) := by decide +kernel
theorem dL_storeSchedule_15 : decode cL_storeSchedule 15 = .ok (.iconst 1, 1) := by decide +kernel
theorem dL_storeSchedule_16 : decode cL_storeSchedule 16 = .ok (.ireturn, 1) := by decide +kernel
theorem dL_storeSchedule_17 : decode cL_storeSchedule 17 = .ok (.iconst 0, 1) := by decide +kernel
theorem dL_storeSchedule_18 : decode cL_storeSchedule 18 = .ok (.ireturn, 1) := by decide +kernel
theorem dL_copyRow_0 : decode cL_copyRow 0 = .ok (.aload_n 3, 1) := by decide +kernel
theorem dL_copyRow_1 : decode cL_copyRow 1 = .ok (.iconst 0, 1) := by decide +kernel
theorem dL_copyRow_2 : decode cL_copyRow 2 = .ok (.aload_n 0, 1) := by decide +kernel
theorem dL_copyRow_3 : decode cL_copyRow 3 = .ok (.iload_n 1, 1) := by decide +kernel
theorem dL_copyRow_4 : decode cL_copyRow 4 = .ok (.iload_n 2, 1) := by decide +kernel
theorem dL_copyRow_5 : decode cL_copyRow 5 = .ok (.invokevirtual 101, 3) := by decide +kernel
theorem dL_copyRow_20 : decode cL_copyRow 20 = .ok (.astore 4, 2) := by decide +kernel
theorem dL_copyRow_22 : decode cL_copyRow 22 = .ok (.iconst 1, 1) := by decide +kernel
theorem dL_copyRow_23 : decode cL_copyRow 23 = .ok (.ireturn, 1) := by decide +kernel
theorem dL_copyRow_24 : decode cL_copyRow 24 = .ok (.astore 4, 2) := by decide +kernel
theorem dL_copyRow_26 : decode cL_copyRow 26 = .ok (.iconst 2, 1) := by decide +kernel
theorem dL_copyRow_27 : decode cL_copyRow 27 = .ok (.ireturn, 1) := by decide +kernel
theorem dL_stored_0 : decode cL_stored 0 = .ok (.aload_n 3, 1) := by decide +kernel
theorem dL_stored_1 : decode cL_stored 1 = .ok (.iconst 0, 1) := by decide +kernel
theorem dL_stored_2 : decode cL_stored 2 = .ok (.aload_n 0, 1) := by decide +kernel
theorem dL_stored_3 : decode cL_stored 3 = .ok (.iload_n 1, 1) := by decide +kernel
theorem dL_stored_4 : decode cL_stored 4 = .ok (.iload_n 2, 1) := by decide +kernel
theorem dL_stored_5 : decode cL_stored 5 = .ok (.invokevirtual 105, 3) := by decide +kernel
theorem dL_stored_12 : decode cL_stored 12 = .ok (.astore 4, 2) := by decide +kernel
theorem dL_stored_14 : decode cL_stored 14 = .ok (.iconst 1, 1) := by decide +kernel
theorem dL_stored_15 : decode cL_stored 15 = .ok (.ireturn, 1) := by decide +kernel
theorem dL_stored_16 : decode cL_stored 16 = .ok (.astore 4, 2) := by decide +kernel
theorem dL_stored_18 : decode cL_stored 18 = .ok (.iconst 2, 1) := by decide +kernel
theorem dL_stored_19 : decode cL_stored 19 = .ok (.ireturn, 1) := by decide +kernel
theorem dL_restore_0 : decode cL_restore 0 = .ok (.aload_n 1, 1) := by decide +kernel
theorem dL_restore_1 : decode cL_restore 1 = .ok (.iconst 0, 1) := by decide +kernel
theorem dL_restore_2 : decode cL_restore 2 = .ok (.aload_n 0, 1) := by decide +kernel
theorem dL_restore_3 : decode cL_restore 3 = .ok (.invokevirtual 109, 3) := by decide +kernel
theorem dL_restore_11 : decode cL_restore 11 = .ok (.astore_n 2, 1) := by decide +kernel
theorem dL_restore_12 : decode cL_restore 12 = .ok (.iconst 1, 1) := by decide +kernel
theorem dL_restore_13 : decode cL_restore 13 = .ok (.ireturn, 1) := by decide +kernel
