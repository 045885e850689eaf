theorem dX10_copyRow_112 : decode cX10_copyRow 112 = .ok (.ifCond .ne 11, 3) := by decide +kernel
theorem dX10_copyRow_115 : decode cX10_copyRow 115 = .ok (.new 69, 3) := by decide +kernel
theorem dX10_copyRow_118 : decode cX10_copyRow 118 = .ok (.dup, 1) := by decide +kernel
theorem dX10_copyRow_119 : decode cX10_copyRow 119 = .ok (.invokespecial 71, 3) := by decide +kernel
theorem dX10_copyRow_122 : decode cX10_copyRow 122 = .ok (.athrow, 1) := by decide +kernel
theorem dX10_copyRow_123 : decode cX10_copyRow 123 = .ok (.aload 4, 2) := by decide +kernel
theorem dX10_copyRow_125 : decode cX10_copyRow 125 = .ok (.aload_n 3, 1) := by decide +kernel
theorem dX10_copyRow_126 : decode cX10_copyRow 126 = .ok (.iload_n 2, 1) := by decide +kernel
theorem dX10_copyRow_127 : decode cX10_copyRow 127 = .ok (.invokevirtual 329, 3) := by decide +kernel
theorem dX10_copyRow_130 : decode cX10_copyRow 130 = .ok (.ireturn, 1) := by decide +kernel
theorem dX10_stored_0 : decode cX10_stored 0 = .ok (.iload_n 1, 1) := by decide +kernel
theorem dX10_stored_1 : decode cX10_stored 1 = .ok (.ifCond .lt 12, 3) := by decide +kernel
theorem dX10_stored_4 : decode cX10_stored 4 = .ok (.iload_n 1, 1) := by decide +kernel
theorem dX10_stored_5 : decode cX10_stored 5 = .ok (.aload_n 0, 1) := by decide +kernel
theorem dX10_stored_6 : decode cX10_stored 6 = .ok (.getfield 52, 3) := by decide +kernel
theorem dX10_stored_9 : decode cX10_stored 9 = .ok (.arraylength, 1) := by decide +kernel
theorem dX10_stored_10 : decode cX10_stored 10 = .ok (.if_icmp .lt 11, 3) := by decide +kernel
theorem dX10_stored_13 : decode cX10_stored 13 = .ok (.new 118, 3) := by decide +kernel
theorem dX10_stored_16 : decode cX10_stored 16 = .ok (.dup, 1) := by decide +kernel
theorem dX10_stored_17 : decode cX10_stored 17 = .ok (.invokespecial 120, 3) := by decide +kernel
theorem dX10_stored_20 : decode cX10_stored 20 = .ok (.athrow, 1) := by decide +kernel
theorem dX10_stored_21 : decode cX10_stored 21 = .ok (.aload_n 0, 1) := by decide +kernel
theorem dX10_stored_22 : decode cX10_stored 22 = .ok (.getfield 52, 3) := by decide +kernel
theorem dX10_stored_25 : decode cX10_stored 25 = .ok (.iload_n 1, 1) := by decide +kernel
theorem dX10_stored_26 : decode cX10_stored 26 = .ok (.aaload, 1) := by decide +kernel
theorem dX10_stored_27 : decode cX10_stored 27 = .ok (.astore_n 3, 1) := by decide +kernel
theorem dX10_stored_28 : decode cX10_stored 28 = .ok (.aload_n 3, 1) := by decide +kernel
theorem dX10_stored_29 : decode cX10_stored 29 = .ok (.ifnull 18, 3) := by decide +kernel
theorem dX10_stored_32 : decode cX10_stored 32 = .ok (.aload_n 3, 1) := by decide +kernel
theorem dX10_stored_33 : decode cX10_stored 33 = .ok (.getfield 319, 3) := by decide +kernel
theorem dX10_stored_36 : decode cX10_stored 36 = .ok (.ifCond .eq 11, 3) := by decide +kernel
theorem dX10_stored_39 : decode cX10_stored 39 = .ok (.aload_n 3, 1) := by decide +kernel
theorem dX10_stored_40 : decode cX10_stored 40 = .ok (.iload_n 2, 1) := by decide +kernel
theorem dX10_stored_41 : decode cX10_stored 41 = .ok (.invokevirtual 333, 3) := by decide +kernel
theorem dX10_stored_44 : decode cX10_stored 44 = .ok (.ifCond .ne 11, 3) := by decide +kernel
theorem dX10_stored_47 : decode cX10_stored 47 = .ok (.new 261, 3) := by decide +kernel
theorem dX10_stored_50 : decode cX10_stored 50 = .ok (.dup, 1) := by decide +kernel
theorem dX10_stored_51 : decode cX10_stored 51 = .ok (.invokespecial 263, 3) := by decide +kernel
theorem dX10_stored_54 : decode cX10_stored 54 = .ok (.athrow, 1) := by decide +kernel
theorem dX10_stored_55 : decode cX10_stored 55 = .ok (.aload_n 3, 1) := by decide +kernel
theorem dX10_stored_56 : decode cX10_stored 56 = .ok (.iload_n 2, 1) := by decide +kernel
theorem dX10_stored_57 : decode cX10_stored 57 = .ok (.invokevirtual 334, 3) := by decide +kernel
theorem dX10_stored_60 : decode cX10_stored 60 = .ok (.dreturn, 1) := by decide +kernel
theorem dX10_snapshot_0 : decode cX10_snapshot 0 = .ok (.aload_n 0, 1) := by decide +kernel
theorem dX10_snapshot_1 : decode cX10_snapshot 1 = .ok (.getfield 19, 3) := by decide +kernel
theorem dX10_snapshot_4 : decode cX10_snapshot 4 = .ok (.aload_n 0, 1) := by decide +kernel
theorem dX10_snapshot_5 : decode cX10_snapshot 5 = .ok (.getfield 10, 3) := by decide +kernel
theorem dX10_snapshot_8 : decode cX10_snapshot 8 = .ok (.invokevirtual 128, 3) := by decide +kernel
theorem dX10_snapshot_11 : decode cX10_snapshot 11 = .ok (.aload_n 0, 1) := by decide +kernel
theorem dX10_snapshot_12 : decode cX10_snapshot 12 = .ok (.getfield 33, 3) := by decide +kernel
theorem dX10_snapshot_15 : decode cX10_snapshot 15 = .ok (.aload_n 0, 1) := by decide +kernel
theorem dX10_snapshot_16 : decode cX10_snapshot 16 = .ok (.getfield 29, 3) := by decide +kernel
theorem dX10_snapshot_19 : decode cX10_snapshot 19 = .ok (.invokevirtual 338, 3) := by decide +kernel
theorem dX10_snapshot_22 : decode cX10_snapshot 22 = .ok (.aload_n 0, 1) := by decide +kernel
theorem dX10_snapshot_23 : decode cX10_snapshot 23 = .ok (.iconst 1, 1) := by decide +kernel
theorem dX10_snapshot_24 : decode cX10_snapshot 24 = .ok (.putfield 341, 3) := by decide +kernel
theorem dX10_snapshot_27 : decode cX10_snapshot 27 = .ok (.aload_n 0, 1) := by decide +kernel
theorem dX10_snapshot_28 : decode cX10_snapshot 28 = .ok (.getfield 10, 3) := by decide +kernel
theorem dX10_snapshot_31 : decode cX10_snapshot 31 = .ok (.getfield 99, 3) := by decide +kernel
theorem dX10_snapshot_34 : decode cX10_snapshot 34 = .ok (.ireturn, 1) := by decide +kernel
theorem dX10_restore_0 : decode cX10_restore 0 = .ok (.aload_n 0, 1) := by decide +kernel
theorem dX10_restore_1 : decode cX10_restore 1 = .ok (.getfield 341, 3) := by decide +kernel
theorem dX10_restore_4 : decode cX10_restore 4 = .ok (.ifCond .ne 11, 3) := by decide +kernel
theorem dX10_restore_7 : decode cX10_restore 7 = .ok (.new 201, 3) := by decide +kernel
theorem dX10_restore_10 : decode cX10_restore 10 = .ok (.dup, 1) := by decide +kernel
theorem dX10_restore_11 : decode cX10_restore 11 = .ok (.invokespecial 203, 3) := by decide +kernel
theorem dX10_restore_14 : decode cX10_restore 14 = .ok (.athrow, 1) := by decide +kernel
theorem dX10_restore_15 : decode cX10_restore 15 = .ok (.aload_n 0, 1) := by decide +kernel
theorem dX10_restore_16 : decode cX10_restore 16 = .ok (.getfield 10, 3) := by decide +kernel
theorem dX10_restore_19 : decode cX10_restore 19 = .ok (.aload_n 0, 1) := by decide +kernel
theorem dX10_restore_20 : decode cX10_restore 20 = .ok (.getfield 19, 3) := by decide +kernel
theorem dX10_restore_23 : decode cX10_restore 23 = .ok (.invokevirtual 128, 3) := by decide +kernel
theorem dX10_restore_26 : decode cX10_restore 26 = .ok (.aload_n 0, 1) := by decide +kernel
theorem dX10_restore_27 : decode cX10_restore 27 = .ok (.getfield 29, 3) := by decide +kernel
theorem dX10_restore_30 : decode cX10_restore 30 = .ok (.aload_n 0, 1) := by decide +kernel
theorem dX10_restore_31 : decode cX10_restore 31 = .ok (.getfield 33, 3) := by decide +kernel
theorem dX10_restore_34 : decode cX10_restore 34 = .ok (.invokevirtual 338, 3) := by decide +kernel
theorem dX10_restore_37 : decode cX10_restore 37 = .ok (.aload_n 0, 1) := by decide +kernel
theorem dX10_restore_38 : decode cX10_restore 38 = .ok (.iconst 0, 1) := by decide +kernel
theorem dX10_restore_39 : decode cX10_restore 39 = .ok (.putfield 276, 3) := by decide +kernel
theorem dX10_restore_42 : decode cX10_restore 42 = .ok (.aload_n 0, 1) := by decide +kernel
theorem dX10_restore_43 : decode cX10_restore 43 = .ok (.getfield 10, 3) := by decide +kernel
theorem dX10_restore_46 : decode cX10_restore 46 = .ok (.getfield 99, 3) := by decide +kernel
theorem dX10_restore_49 : decode cX10_restore 49 = .ok (.ireturn, 1) := by decide +kernel
theorem dX10_isWithin_0 : decode cX10_isWithin 0 = .ok (.iload_n 0, 1) := by decide +kernel
theorem dX10_isWithin_1 : decode cX10_isWithin 1 = .ok (.iload_n 1, 1) := by decide +kernel
theorem dX10_isWithin_2 : decode cX10_isWithin 2 = .ok (.if_icmp .lt 12, 3) := by decide +kernel
theorem dX10_isWithin_5 : decode cX10_isWithin 5 = .ok (.iload_n 0, 1) := by decide +kernel
theorem dX10_isWithin_6 : decode cX10_isWithin 6 = .ok (.iload_n 2, 1) := by decide +kernel
theorem dX10_isWithin_7 : decode cX10_isWithin 7 = .ok (.if_icmp .gt 7, 3) := by decide +kernel
theorem dX10_isWithin_10 : decode cX10_isWithin 10 = .ok (.iconst 1, 1) := by decide +kernel
theorem dX10_isWithin_11 : decode cX10_isWithin 11 = .ok (.goto 4, 3) := by decide +kernel
theorem dX10_isWithin_14 : decode cX10_isWithin 14 = .ok (.iconst 0, 1) := by decide +kernel
theorem dX10_isWithin_15 : decode cX10_isWithin 15 = .ok (.ireturn, 1) := by decide +kernel
theorem dX10_refuse_0 : decode cX10_refuse 0 = .ok (.iload_n 0, 1) := by decide +kernel
theorem dX10_refuse_1 : decode cX10_refuse 1 = .ok (.iconst 1, 1) := by decide +kernel
theorem dX10_refuse_2 : decode cX10_refuse 2 = .ok (.if_icmp .ne 11, 3) := by decide +kernel
theorem dX10_refuse_5 : decode cX10_refuse 5 = .ok (.new 69, 3) := by decide +kernel
theorem dX10_refuse_8 : decode cX10_refuse 8 = .ok (.dup, 1) := by decide +kernel
theorem dX10_refuse_9 : decode cX10_refuse 9 = .ok (.invokespecial 71, 3) := by decide +kernel
theorem dX10_refuse_12 : decode cX10_refuse 12 = .ok (.athrow, 1) := by decide +kernel
theorem dX10_refuse_13 : decode cX10_refuse 13 = .ok (.iload_n 0, 1) := by decide +kernel
theorem dX10_refuse_14 : decode cX10_refuse 14 = .ok (.iconst 2, 1) := by decide +kernel
theorem dX10_refuse_15 : decode cX10_refuse 15 = .ok (.if_icmp .ne 11, 3) := by decide +kernel
theorem dX10_refuse_18 : decode cX10_refuse 18 = .ok (.new 201, 3) := by decide +kernel
theorem dX10_refuse_21 : decode cX10_refuse 21 = .ok (.dup, 1) := by decide +kernel
theorem dX10_refuse_22 : decode cX10_refuse 22 = .ok (.invokespecial 203, 3) := by decide +kernel
theorem dX10_refuse_25 : decode cX10_refuse 25 = .ok (.athrow, 1) := by decide +kernel
theorem dX10_refuse_26 : decode cX10_refuse 26 = .ok (.iload_n 0, 1) := by decide +kernel
theorem dX10_refuse_27 : decode cX10_refuse 27 = .ok (.iconst 3, 1) := by decide +kernel
theorem dX10_refuse_28 : decode cX10_refuse 28 = .ok (.if_icmp .ne 11, 3) := by decide +kernel
theorem dX10_refuse_31 : decode cX10_refuse 31 = .ok (.new 254, 3) := by decide +kernel
theorem dX10_refuse_34 : decode cX10_refuse 34 = .ok (.dup, 1) := by decide +kernel
theorem dX10_refuse_35 : decode cX10_refuse 35 = .ok (.invokespecial 256, 3) := by decide +kernel
theorem dX10_refuse_38 : decode cX10_refuse 38 = .ok (.athrow, 1) := by decide +kernel
theorem dX10_refuse_39 : decode cX10_refuse 39 = .ok (.return_, 1) := by decide +kernel
theorem dX10_command_0 : decode cX10_command 0 = .ok (.aload_n 0, 1) := by decide +kernel
theorem dX10_command_1 : decode cX10_command 1 = .ok (.getfield 10, 3) := by decide +kernel
theorem dX10_command_4 : decode cX10_command 4 = .ok (.iload_n 1, 1) := by decide +kernel
theorem dX10_command_5 : decode cX10_command 5 = .ok (.iload_n 2, 1) := by decide +kernel
theorem dX10_command_6 : decode cX10_command 6 = .ok (.invokevirtual 121, 3) := by decide +kernel
theorem dX10_command_9 : decode cX10_command 9 = .ok (.invokestatic 124, 3) := by decide +kernel
theorem dX10_command_12 : decode cX10_command 12 = .ok (.aload_n 0, 1) := by decide +kernel
theorem dX10_command_13 : decode cX10_command 13 = .ok (.invokevirtual 72, 3) := by decide +kernel
theorem dX10_command_16 : decode cX10_command 16 = .ok (.aload_n 0, 1) := by decide +kernel
theorem dX10_command_17 : decode cX10_command 17 = .ok (.getfield 29, 3) := by decide +kernel
theorem dX10_command_20 : decode cX10_command 20 = .ok (.aload_n 0, 1) := by decide +kernel
theorem dX10_command_21 : decode cX10_command 21 = .ok (.getfield 10, 3) := by decide +kernel
theorem dX10_command_24 : decode cX10_command 24 = .ok (.iload_n 1, 1) := by decide +kernel
theorem dX10_command_25 : decode cX10_command 25 = .ok (.iload_n 2, 1) := by decide +kernel
theorem dX10_command_26 : decode cX10_command 26 = .ok (.invokevirtual 257, 3) := by decide +kernel
theorem dX10_command_29 : decode cX10_command 29 = .ok (.aload_n 0, 1) := by decide +kernel
theorem dX10_command_30 : decode cX10_command 30 = .ok (.getfield 10, 3) := by decide +kernel
theorem dX10_command_33 : decode cX10_command 33 = .ok (.iload_n 1, 1) := by decide +kernel
theorem dX10_command_34 : decode cX10_command 34 = .ok (.iload_n 2, 1) := by decide +kernel
theorem dX10_command_35 : decode cX10_command 35 = .ok (.aload_n 0, 1) := by decide +kernel
theorem dX10_command_36 : decode cX10_command 36 = .ok (.getfield 39, 3) := by decide +kernel
theorem dX10_command_39 : decode cX10_command 39 = .ok (.iconst 0, 1) := by decide +kernel
theorem dX10_command_40 : decode cX10_command 40 = .ok (.invokevirtual 132, 3) := by decide +kernel
theorem dX10_command_43 : decode cX10_command 43 = .ok (.ireturn, 1) := by decide +kernel
theorem dX10_remember_0 : decode cX10_remember 0 = .ok (.aload_n 0, 1) := by decide +kernel
theorem dX10_remember_1 : decode cX10_remember 1 = .ok (.getfield 22, 3) := by decide +kernel
theorem dX10_remember_4 : decode cX10_remember 4 = .ok (.aload_n 0, 1) := by decide +kernel
theorem dX10_remember_5 : decode cX10_remember 5 = .ok (.getfield 279, 3) := by decide +kernel
theorem dX10_remember_8 : decode cX10_remember 8 = .ok (.bipush 8, 2) := by decide +kernel
theorem dX10_remember_10 : decode cX10_remember 10 = .ok (.invokestatic 282, 3) := by decide +kernel
theorem dX10_remember_13 : decode cX10_remember 13 = .ok (.aaload, 1) := by decide +kernel
theorem dX10_remember_14 : decode cX10_remember 14 = .ok (.astore_n 1, 1) := by decide +kernel
theorem dX10_remember_15 : decode cX10_remember 15 = .ok (.aload_n 1, 1) := by decide +kernel
theorem dX10_remember_16 : decode cX10_remember 16 = .ok (.ifnull 11, 3) := by decide +kernel
theorem dX10_remember_19 : decode cX10_remember 19 = .ok (.aload_n 1, 1) := by decide +kernel
theorem dX10_remember_20 : decode cX10_remember 20 = .ok (.aload_n 0, 1) := by decide +kernel
theorem dX10_remember_21 : decode cX10_remember 21 = .ok (.getfield 10, 3) := by decide +kernel
theorem dX10_remember_24 : decode cX10_remember 24 = .ok (.invokevirtual 128, 3) := by decide +kernel
theorem dX10_remember_27 : decode cX10_remember 27 = .ok (.aload_n 0, 1) := by decide +kernel
theorem dX10_remember_28 : decode cX10_remember 28 = .ok (.dup, 1) := by decide +kernel
theorem dX10_remember_29 : decode cX10_remember 29 = .ok (.getfield 279, 3) := by decide +kernel
theorem dX10_remember_32 : decode cX10_remember 32 = .ok (.iconst 1, 1) := by decide +kernel
theorem dX10_remember_33 : decode cX10_remember 33 = .ok (.iadd, 1) := by decide +kernel
theorem dX10_remember_34 : decode cX10_remember 34 = .ok (.putfield 279, 3) := by decide +kernel
theorem dX10_remember_37 : decode cX10_remember 37 = .ok (.aload_n 0, 1) := by decide +kernel
theorem dX10_remember_38 : decode cX10_remember 38 = .ok (.aload_n 0, 1) := by decide +kernel
theorem dX10_remember_39 : decode cX10_remember 39 = .ok (.getfield 276, 3) := by decide +kernel
theorem dX10_remember_42 : decode cX10_remember 42 = .ok (.iconst 1, 1) := by decide +kernel
theorem dX10_remember_43 : decode cX10_remember 43 = .ok (.iadd, 1) := by decide +kernel
theorem dX10_remember_44 : decode cX10_remember 44 = .ok (.bipush 8, 2) := by decide +kernel
theorem dX10_remember_46 : decode cX10_remember 46 = .ok (.invokestatic 326, 3) := by decide +kernel
theorem dX10_remember_49 : decode cX10_remember 49 = .ok (.putfield 276, 3) := by decide +kernel
theorem dX10_remember_52 : decode cX10_remember 52 = .ok (.return_, 1) := by decide +kernel
theorem dX10_projectNow_0 : decode cX10_projectNow 0 = .ok (.aload_n 0, 1) := by decide +kernel
theorem dX10_projectNow_1 : decode cX10_projectNow 1 = .ok (.getfield 39, 3) := by decide +kernel
theorem dX10_projectNow_4 : decode cX10_projectNow 4 = .ok (.aload_n 0, 1) := by decide +kernel
theorem dX10_projectNow_5 : decode cX10_projectNow 5 = .ok (.getfield 10, 3) := by decide +kernel
theorem dX10_projectNow_8 : decode cX10_projectNow 8 = .ok (.aload_n 0, 1) := by decide +kernel
theorem dX10_projectNow_9 : decode cX10_projectNow 9 = .ok (.getfield 10, 3) := by decide +kernel
theorem dX10_projectNow_12 : decode cX10_projectNow 12 = .ok (.getfield 85, 3) := by decide +kernel
theorem dX10_projectNow_15 : decode cX10_projectNow 15 = .ok (.getfield 156, 3) := by decide +kernel
theorem dX10_projectNow_18 : decode cX10_projectNow 18 = .ok (.invokevirtual 218, 3) := by decide +kernel
theorem dX10_projectNow_21 : decode cX10_projectNow 21 = .ok (.aload_n 0, 1) := by decide +kernel
theorem dX10_projectNow_22 : decode cX10_projectNow 22 = .ok (.getfield 39, 3) := by decide +kernel
theorem dX10_projectNow_25 : decode cX10_projectNow 25 = .ok (.aload_n 0, 1) := by decide +kernel
theorem dX10_projectNow_26 : decode cX10_projectNow 26 = .ok (.getfield 10, 3) := by decide +kernel
theorem dX10_projectNow_29 : decode cX10_projectNow 29 = .ok (.getfield 85, 3) := by decide +kernel
theorem dX10_projectNow_32 : decode cX10_projectNow 32 = .ok (.getfield 89, 3) := by decide +kernel
theorem dX10_projectNow_35 : decode cX10_projectNow 35 = .ok (.aload_n 0, 1) := by decide +kernel
theorem dX10_projectNow_36 : decode cX10_projectNow 36 = .ok (.getfield 10, 3) := by decide +kernel
theorem dX10_projectNow_39 : decode cX10_projectNow 39 = .ok (.getfield 85, 3) := by decide +kernel
theorem dX10_projectNow_42 : decode cX10_projectNow 42 = .ok (.getfield 156, 3) := by decide +kernel
theorem dX10_projectNow_45 : decode cX10_projectNow 45 = .ok (.invokevirtual 344, 3) := by decide +kernel
theorem dX10_projectNow_48 : decode cX10_projectNow 48 = .ok (.return_, 1) := by decide +kernel
theorem dX11_init_0 : decode cX11_init 0 = .ok (.aload_n 0, 1) := by decide +kernel
theorem dX11_init_1 : decode cX11_init 1 = .ok (.invokespecial 1, 3) := by decide +kernel
theorem dX11_init_4 : decode cX11_init 4 = .ok (.aload_n 0, 1) := by decide +kernel
theorem dX11_init_5 : decode cX11_init 5 = .ok (.sipush 1460, 3) := by decide +kernel
theorem dX11_init_8 : decode cX11_init 8 = .ok (.newarray .int, 2) := by decide +kernel
theorem dX11_init_10 : decode cX11_init 10 = .ok (.putfield 7, 3) := by decide +kernel
theorem dX11_init_13 : decode cX11_init 13 = .ok (.aload_n 0, 1) := by decide +kernel
theorem dX11_init_14 : decode cX11_init 14 = .ok (.sipush 1460, 3) := by decide +kernel
theorem dX11_init_17 : decode cX11_init 17 = .ok (.newarray .int, 2) := by decide +kernel
theorem dX11_init_19 : decode cX11_init 19 = .ok (.putfield 13, 3) := by decide +kernel
theorem dX11_init_22 : decode cX11_init 22 = .ok (.aload_n 0, 1) := by decide +kernel
theorem dX11_init_23 : decode cX11_init 23 = .ok (.sipush 11680, 3) := by decide +kernel
theorem dX11_init_26 : decode cX11_init 26 = .ok (.newarray .int, 2) := by decide +kernel
theorem dX11_init_28 : decode cX11_init 28 = .ok (.putfield 16, 3) := by decide +kernel
theorem dX11_init_31 : decode cX11_init 31 = .ok (.aload_n 0, 1) := by decide +kernel
theorem dX11_init_32 : decode cX11_init 32 = .ok (.bipush 8, 2) := by decide +kernel
theorem dX11_init_34 : decode cX11_init 34 = .ok (.newarray .long, 2) := by decide +kernel
theorem dX11_init_36 : decode cX11_init 36 = .ok (.putfield 19, 3) := by decide +kernel
theorem dX11_init_39 : decode cX11_init 39 = .ok (.aload_n 0, 1) := by decide +kernel
theorem dX11_init_40 : decode cX11_init 40 = .ok (.sipush 1460, 3) := by decide +kernel
theorem dX11_init_43 : decode cX11_init 43 = .ok (.newarray .int, 2) := by decide +kernel
theorem dX11_init_45 : decode cX11_init 45 = .ok (.putfield 23, 3) := by decide +kernel
theorem dX11_init_48 : decode cX11_init 48 = .ok (.aload_n 0, 1) := by decide +kernel
theorem dX11_init_49 : decode cX11_init 49 = .ok (.sipush 300, 3) := by decide +kernel
theorem dX11_init_52 : decode cX11_init 52 = .ok (.newarray .int, 2) := by decide +kernel
theorem dX11_init_54 : decode cX11_init 54 = .ok (.putfield 26, 3) := by decide +kernel
theorem dX11_init_57 : decode cX11_init 57 = .ok (.aload_n 0, 1) := by decide +kernel
theorem dX11_init_58 : decode cX11_init 58 = .ok (.iconst 4, 1) := by decide +kernel
theorem dX11_init_59 : decode cX11_init 59 = .ok (.newarray .int, 2) := by decide +kernel
theorem dX11_init_61 : decode cX11_init 61 = .ok (.putfield 29, 3) := by decide +kernel
theorem dX11_init_64 : decode cX11_init 64 = .ok (.aload_n 0, 1) := by decide +kernel
theorem dX11_init_65 : decode cX11_init 65 = .ok (.bipush 60, 2) := by decide +kernel
theorem dX11_init_67 : decode cX11_init 67 = .ok (.newarray .int, 2) := by decide +kernel
theorem dX11_init_69 : decode cX11_init 69 = .ok (.putfield 32, 3) := by decide +kernel
theorem dX11_init_72 : decode cX11_init 72 = .ok (.aload_n 0, 1) := by decide +kernel
theorem dX11_init_73 : decode cX11_init 73 = .ok (.iconst (-1), 1) := by decide +kernel
theorem dX11_init_74 : decode cX11_init 74 = .ok (.putfield 35, 3) := by decide +kernel
theorem dX11_init_77 : decode cX11_init 77 = .ok (.aload_n 0, 1) := by decide +kernel
theorem dX11_init_78 : decode cX11_init 78 = .ok (.iconst (-1), 1) := by decide +kernel
theorem dX11_init_79 : decode cX11_init 79 = .ok (.putfield 39, 3) := by decide +kernel
theorem dX11_init_82 : decode cX11_init 82 = .ok (.aload_n 0, 1) := by decide +kernel
theorem dX11_init_83 : decode cX11_init 83 = .ok (.bipush 60, 2) := by decide +kernel
theorem dX11_init_85 : decode cX11_init 85 = .ok (.newarray .int, 2) := by decide +kernel
theorem dX11_init_87 : decode cX11_init 87 = .ok (.putfield 42, 3) := by decide +kernel
theorem dX11_init_90 : decode cX11_init 90 = .ok (.aload_n 0, 1) := by decide +kernel
theorem dX11_init_91 : decode cX11_init 91 = .ok (.bipush 120, 2) := by decide +kernel
theorem dX11_init_93 : decode cX11_init 93 = .ok (.newarray .double, 2) := by decide +kernel
theorem dX11_init_95 : decode cX11_init 95 = .ok (.putfield 45, 3) := by decide +kernel
theorem dX11_init_98 : decode cX11_init 98 = .ok (.aload_n 0, 1) := by decide +kernel
theorem dX11_init_99 : decode cX11_init 99 = .ok (.iconst 2, 1) := by decide +kernel
theorem dX11_init_100 : decode cX11_init 100 = .ok (.newarray .int, 2) := by decide +kernel
theorem dX11_init_102 : decode cX11_init 102 = .ok (.dup, 1) := by decide +kernel
theorem dX11_init_103 : decode cX11_init 103 = .ok (.iconst 0, 1) := by decide +kernel
theorem dX11_init_104 : decode cX11_init 104 = .ok (.iconst (-1), 1) := by decide +kernel
theorem dX11_init_105 : decode cX11_init 105 = .ok (.iastore, 1) := by decide +kernel
theorem dX11_init_106 : decode cX11_init 106 = .ok (.dup, 1) := by decide +kernel
theorem dX11_init_107 : decode cX11_init 107 = .ok (.iconst 1, 1) := by decide +kernel
theorem dX11_init_108 : decode cX11_init 108 = .ok (.iconst (-1), 1) := by decide +kernel
theorem dX11_init_109 : decode cX11_init 109 = .ok (.iastore, 1) := by decide +kernel
theorem dX11_init_110 : decode cX11_init 110 = .ok (.putfield 49, 3) := by decide +kernel
theorem dX11_init_113 : decode cX11_init 113 = .ok (.aload_n 0, 1) := by decide +kernel
theorem dX11_init_114 : decode cX11_init 114 = .ok (.iconst 2, 1) := by decide +kernel
theorem dX11_init_115 : decode cX11_init 115 = .ok (.newarray .boolean, 2) := by decide +kernel
theorem dX11_init_117 : decode cX11_init 117 = .ok (.putfield 52, 3) := by decide +kernel
theorem dX11_init_120 : decode cX11_init 120 = .ok (.aload_n 0, 1) := by decide +kernel
theorem dX11_init_121 : decode cX11_init 121 = .ok (.getfield 7, 3) := by decide +kernel
theorem dX11_init_124 : decode cX11_init 124 = .ok (.iconst 4, 1) := by decide +kernel
theorem dX11_init_125 : decode cX11_init 125 = .ok (.bipush 10, 2) := by decide +kernel
theorem dX11_init_127 : decode cX11_init 127 = .ok (.iastore, 1) := by decide +kernel
theorem dX11_init_128 : decode cX11_init 128 = .ok (.aload_n 0, 1) := by decide +kernel
theorem dX11_init_129 : decode cX11_init 129 = .ok (.getfield 7, 3) := by decide +kernel
theorem dX11_init_132 : decode cX11_init 132 = .ok (.iconst 5, 1) := by decide +kernel
theorem dX11_init_133 : decode cX11_init 133 = .ok (.sipush 500, 3) := by decide +kernel
theorem dX11_init_136 : decode cX11_init 136 = .ok (.iastore, 1) := by decide +kernel
theorem dX11_init_137 : decode cX11_init 137 = .ok (.return_, 1) := by decide +kernel
theorem dX11_thrown_0 : decode cX11_thrown 0 = .ok (.aload_n 0, 1) := by decide +kernel
theorem dX11_thrown_1 : decode cX11_thrown 1 = .ok (.getfield 56, 3) := by decide +kernel
theorem dX11_thrown_4 : decode cX11_thrown 4 = .ok (.ireturn, 1) := by decide +kernel
theorem dX11_fails_0 : decode cX11_fails 0 = .ok (.aload_n 0, 1) := by decide +kernel
theorem dX11_fails_1 : decode cX11_fails 1 = .ok (.iload_n 1, 1) := by decide +kernel
theorem dX11_fails_2 : decode cX11_fails 2 = .ok (.putfield 56, 3) := by decide +kernel
theorem dX11_fails_5 : decode cX11_fails 5 = .ok (.iconst 0, 1) := by decide +kernel
theorem dX11_fails_6 : decode cX11_fails 6 = .ok (.ireturn, 1) := by decide +kernel
theorem dX11_in_0 : decode cX11_in 0 = .ok (.iload_n 0, 1) := by decide +kernel
theorem dX11_in_1 : decode cX11_in 1 = .ok (.iload_n 1, 1) := by decide +kernel
theorem dX11_in_2 : decode cX11_in 2 = .ok (.if_icmp .lt 12, 3) := by decide +kernel
theorem dX11_in_5 : decode cX11_in 5 = .ok (.iload_n 0, 1) := by decide +kernel
theorem dX11_in_6 : decode cX11_in 6 = .ok (.iload_n 2, 1) := by decide +kernel
theorem dX11_in_7 : decode cX11_in 7 = .ok (.if_icmp .gt 7, 3) := by decide +kernel
theorem dX11_in_10 : decode cX11_in 10 = .ok (.iconst 1, 1) := by decide +kernel
theorem dX11_in_11 : decode cX11_in 11 = .ok (.goto 4, 3) := by decide +kernel
theorem dX11_in_14 : decode cX11_in 14 = .ok (.iconst 0, 1) := by decide +kernel
theorem dX11_in_15 : decode cX11_in 15 = .ok (.ireturn, 1) := by decide +kernel
theorem dX11_begins_0 : decode cX11_begins 0 = .ok (.aload_n 0, 1) := by decide +kernel
theorem dX11_begins_1 : decode cX11_begins 1 = .ok (.getfield 66, 3) := by decide +kernel
theorem dX11_begins_4 : decode cX11_begins 4 = .ok (.ifCond .eq 4, 3) := by decide +kernel
theorem dX11_begins_7 : decode cX11_begins 7 = .ok (.return_, 1) := by decide +kernel
theorem dX11_begins_8 : decode cX11_begins 8 = .ok (.aload_n 0, 1) := by decide +kernel
theorem dX11_begins_9 : decode cX11_begins 9 = .ok (.getfield 70, 3) := by decide +kernel
theorem dX11_begins_12 : decode cX11_begins 12 = .ok (.bipush 8, 2) := by decide +kernel
theorem dX11_begins_14 : decode cX11_begins 14 = .ok (.if_icmp .ne 72, 3) := by decide +kernel
theorem dX11_begins_17 : decode cX11_begins 17 = .ok (.iconst 0, 1) := by decide +kernel
theorem dX11_begins_18 : decode cX11_begins 18 = .ok (.istore_n 1, 1) := by decide +kernel
theorem dX11_begins_19 : decode cX11_begins 19 = .ok (.iload_n 1, 1) := by decide +kernel
theorem dX11_begins_20 : decode cX11_begins 20 = .ok (.sipush 10220, 3) := by decide +kernel
theorem dX11_begins_23 : decode cX11_begins 23 = .ok (.if_icmp .ge 25, 3) := by decide +kernel
theorem dX11_begins_26 : decode cX11_begins 26 = .ok (.aload_n 0, 1) := by decide +kernel
theorem dX11_begins_27 : decode cX11_begins 27 = .ok (.getfield 16, 3) := by decide +kernel
theorem dX11_begins_30 : decode cX11_begins 30 = .ok (.iload_n 1, 1) := by decide +kernel
theorem dX11_begins_31 : decode cX11_begins 31 = .ok (.aload_n 0, 1) := by decide +kernel
theorem dX11_begins_32 : decode cX11_begins 32 = .ok (.getfield 16, 3) := by decide +kernel
theorem dX11_begins_35 : decode cX11_begins 35 = .ok (.iload_n 1, 1) := by decide +kernel
theorem dX11_begins_36 : decode cX11_begins 36 = .ok (.sipush 1460, 3) := by decide +kernel
theorem dX11_begins_39 : decode cX11_begins 39 = .ok (.iadd, 1) := by decide +kernel
theorem dX11_begins_40 : decode cX11_begins 40 = .ok (.iaload, 1) := by decide +kernel
theorem dX11_begins_41 : decode cX11_begins 41 = .ok (.iastore, 1) := by decide +kernel
theorem dX11_begins_42 : decode cX11_begins 42 = .ok (.iinc 1 1, 3) := by decide +kernel
theorem dX11_begins_45 : decode cX11_begins 45 = .ok (.goto (-26), 3) := by decide +kernel
theorem dX11_begins_48 : decode cX11_begins 48 = .ok (.iconst 1, 1) := by decide +kernel
theorem dX11_begins_49 : decode cX11_begins 49 = .ok (.istore_n 1, 1) := by decide +kernel
theorem dX11_begins_50 : decode cX11_begins 50 = .ok (.iload_n 1, 1) := by decide +kernel
theorem dX11_begins_51 : decode cX11_begins 51 = .ok (.bipush 8, 2) := by decide +kernel
theorem dX11_begins_53 : decode cX11_begins 53 = .ok (.if_icmp .ge 23, 3) := by decide +kernel
theorem dX11_begins_56 : decode cX11_begins 56 = .ok (.aload_n 0, 1) := by decide +kernel
theorem dX11_begins_57 : decode cX11_begins 57 = .ok (.getfield 19, 3) := by decide +kernel
theorem dX11_begins_60 : decode cX11_begins 60 = .ok (.iload_n 1, 1) := by decide +kernel
theorem dX11_begins_61 : decode cX11_begins 61 = .ok (.iconst 1, 1) := by decide +kernel
theorem dX11_begins_62 : decode cX11_begins 62 = .ok (.isub, 1) := by decide +kernel
theorem dX11_begins_63 : decode cX11_begins 63 = .ok (.aload_n 0, 1) := by decide +kernel
theorem dX11_begins_64 : decode cX11_begins 64 = .ok (.getfield 19, 3) := by decide +kernel
theorem dX11_begins_67 : decode cX11_begins 67 = .ok (.iload_n 1, 1) := by decide +kernel
theorem dX11_begins_68 : decode cX11_begins 68 = .ok (.laload, 1) := by decide +kernel
theorem dX11_begins_69 : decode cX11_begins 69 = .ok (.lastore, 1) := by decide +kernel
theorem dX11_begins_70 : decode cX11_begins 70 = .ok (.iinc 1 1, 3) := by decide +kernel
theorem dX11_begins_73 : decode cX11_begins 73 = .ok (.goto (-23), 3) := by decide +kernel
theorem dX11_begins_76 : decode cX11_begins 76 = .ok (.aload_n 0, 1) := by decide +kernel
theorem dX11_begins_77 : decode cX11_begins 77 = .ok (.dup, 1) := by decide +kernel
theorem dX11_begins_78 : decode cX11_begins 78 = .ok (.getfield 70, 3) := by decide +kernel
theorem dX11_begins_81 : decode cX11_begins 81 = .ok (.iconst 1, 1) := by decide +kernel
theorem dX11_begins_82 : decode cX11_begins 82 = .ok (.isub, 1) := by decide +kernel
theorem dX11_begins_83 : decode cX11_begins 83 = .ok (.putfield 70, 3) := by decide +kernel
theorem dX11_begins_86 : decode cX11_begins 86 = .ok (.iconst 0, 1) := by decide +kernel
theorem dX11_begins_87 : decode cX11_begins 87 = .ok (.istore_n 1, 1) := by decide +kernel
theorem dX11_begins_88 : decode cX11_begins 88 = .ok (.iload_n 1, 1) := by decide +kernel
theorem dX11_begins_89 : decode cX11_begins 89 = .ok (.sipush 1460, 3) := by decide +kernel
theorem dX11_begins_92 : decode cX11_begins 92 = .ok (.if_icmp .ge 30, 3) := by decide +kernel
theorem dX11_begins_95 : decode cX11_begins 95 = .ok (.aload_n 0, 1) := by decide +kernel
theorem dX11_begins_96 : decode cX11_begins 96 = .ok (.getfield 16, 3) := by decide +kernel
theorem dX11_begins_99 : decode cX11_begins 99 = .ok (.sipush 1460, 3) := by decide +kernel
theorem dX11_begins_102 : decode cX11_begins 102 = .ok (.aload_n 0, 1) := by decide +kernel
theorem dX11_begins_103 : decode cX11_begins 103 = .ok (.getfield 70, 3) := by decide +kernel
theorem dX11_begins_106 : decode cX11_begins 106 = .ok (.imul, 1) := by decide +kernel
theorem dX11_begins_107 : decode cX11_begins 107 = .ok (.iload_n 1, 1) := by decide +kernel
theorem dX11_begins_108 : decode cX11_begins 108 = .ok (.iadd, 1) := by decide +kernel
theorem dX11_begins_109 : decode cX11_begins 109 = .ok (.aload_n 0, 1) := by decide +kernel
theorem dX11_begins_110 : decode cX11_begins 110 = .ok (.getfield 7, 3) := by decide +kernel
theorem dX11_begins_113 : decode cX11_begins 113 = .ok (.iload_n 1, 1) := by decide +kernel
theorem dX11_begins_114 : decode cX11_begins 114 = .ok (.iaload, 1) := by decide +kernel
theorem dX11_begins_115 : decode cX11_begins 115 = .ok (.iastore, 1) := by decide +kernel
theorem dX11_begins_116 : decode cX11_begins 116 = .ok (.iinc 1 1, 3) := by decide +kernel
theorem dX11_begins_119 : decode cX11_begins 119 = .ok (.goto (-31), 3) := by decide +kernel
theorem dX11_begins_122 : decode cX11_begins 122 = .ok (.aload_n 0, 1) := by decide +kernel
theorem dX11_begins_123 : decode cX11_begins 123 = .ok (.getfield 19, 3) := by decide +kernel
theorem dX11_begins_126 : decode cX11_begins 126 = .ok (.aload_n 0, 1) := by decide +kernel
theorem dX11_begins_127 : decode cX11_begins 127 = .ok (.getfield 70, 3) := by decide +kernel
theorem dX11_begins_130 : decode cX11_begins 130 = .ok (.aload_n 0, 1) := by decide +kernel
theorem dX11_begins_131 : decode cX11_begins 131 = .ok (.getfield 59, 3) := by decide +kernel
theorem dX11_begins_134 : decode cX11_begins 134 = .ok (.lastore, 1) := by decide +kernel
theorem dX11_begins_135 : decode cX11_begins 135 = .ok (.aload_n 0, 1) := by decide +kernel
theorem dX11_begins_136 : decode cX11_begins 136 = .ok (.dup, 1) := by decide +kernel
theorem dX11_begins_137 : decode cX11_begins 137 = .ok (.getfield 70, 3) := by decide +kernel
theorem dX11_begins_140 : decode cX11_begins 140 = .ok (.iconst 1, 1) := by decide +kernel
theorem dX11_begins_141 : decode cX11_begins 141 = .ok (.iadd, 1) := by decide +kernel
theorem dX11_begins_142 : decode cX11_begins 142 = .ok (.putfield 70, 3) := by decide +kernel
theorem dX11_begins_145 : decode cX11_begins 145 = .ok (.return_, 1) := by decide +kernel
theorem dX11_undo_0 : decode cX11_undo 0 = .ok (.aload_n 0, 1) := by decide +kernel
theorem dX11_undo_1 : decode cX11_undo 1 = .ok (.iconst 0, 1) := by decide +kernel
theorem dX11_undo_2 : decode cX11_undo 2 = .ok (.putfield 56, 3) := by decide +kernel
theorem dX11_undo_5 : decode cX11_undo 5 = .ok (.aload_n 0, 1) := by decide +kernel
theorem dX11_undo_6 : decode cX11_undo 6 = .ok (.getfield 70, 3) := by decide +kernel
theorem dX11_undo_9 : decode cX11_undo 9 = .ok (.ifCond .ne 9, 3) := by decide +kernel
theorem dX11_undo_12 : decode cX11_undo 12 = .ok (.aload_n 0, 1) := by decide +kernel
theorem dX11_undo_13 : decode cX11_undo 13 = .ok (.iconst 1, 1) := by decide +kernel
theorem dX11_undo_14 : decode cX11_undo 14 = .ok (.invokevirtual 73, 3) := by decide +kernel
theorem dX11_undo_17 : decode cX11_undo 17 = .ok (.ireturn, 1) := by decide +kernel
theorem dX11_undo_18 : decode cX11_undo 18 = .ok (.aload_n 0, 1) := by decide +kernel
theorem dX11_undo_19 : decode cX11_undo 19 = .ok (.dup, 1) := by decide +kernel
theorem dX11_undo_20 : decode cX11_undo 20 = .ok (.getfield 70, 3) := by decide +kernel
theorem dX11_undo_23 : decode cX11_undo 23 = .ok (.iconst 1, 1) := by decide +kernel
theorem dX11_undo_24 : decode cX11_undo 24 = .ok (.isub, 1) := by decide +kernel
theorem dX11_undo_25 : decode cX11_undo 25 = .ok (.putfield 70, 3) := by decide +kernel
theorem dX11_undo_28 : decode cX11_undo 28 = .ok (.iconst 0, 1) := by decide +kernel
theorem dX11_undo_29 : decode cX11_undo 29 = .ok (.istore_n 1, 1) := by decide +kernel
theorem dX11_undo_30 : decode cX11_undo 30 = .ok (.iload_n 1, 1) := by decide +kernel
theorem dX11_undo_31 : decode cX11_undo 31 = .ok (.sipush 1460, 3) := by decide +kernel
theorem dX11_undo_34 : decode cX11_undo 34 = .ok (.if_icmp .ge 30, 3) := by decide +kernel
theorem dX11_undo_37 : decode cX11_undo 37 = .ok (.aload_n 0, 1) := by decide +kernel
theorem dX11_undo_38 : decode cX11_undo 38 = .ok (.getfield 7, 3) := by decide +kernel
theorem dX11_undo_41 : decode cX11_undo 41 = .ok (.iload_n 1, 1) := by decide +kernel
theorem dX11_undo_42 : decode cX11_undo 42 = .ok (.aload_n 0, 1) := by decide +kernel
theorem dX11_undo_43 : decode cX11_undo 43 = .ok (.getfield 16, 3) := by decide +kernel
theorem dX11_undo_46 : decode cX11_undo 46 = .ok (.sipush 1460, 3) := by decide +kernel
theorem dX11_undo_49 : decode cX11_undo 49 = .ok (.aload_n 0, 1) := by decide +kernel
theorem dX11_undo_50 : decode cX11_undo 50 = .ok (.getfield 70, 3) := by decide +kernel
theorem dX11_undo_53 : decode cX11_undo 53 = .ok (.imul, 1) := by decide +kernel
theorem dX11_undo_54 : decode cX11_undo 54 = .ok (.iload_n 1, 1) := by decide +kernel
theorem dX11_undo_55 : decode cX11_undo 55 = .ok (.iadd, 1) := by decide +kernel
theorem dX11_undo_56 : decode cX11_undo 56 = .ok (.iaload, 1) := by decide +kernel
theorem dX11_undo_57 : decode cX11_undo 57 = .ok (.iastore, 1) := by decide +kernel
theorem dX11_undo_58 : decode cX11_undo 58 = .ok (.iinc 1 1, 3) := by decide +kernel
theorem dX11_undo_61 : decode cX11_undo 61 = .ok (.goto (-31), 3) := by decide +kernel
theorem dX11_undo_64 : decode cX11_undo 64 = .ok (.aload_n 0, 1) := by decide +kernel
theorem dX11_undo_65 : decode cX11_undo 65 = .ok (.aload_n 0, 1) := by decide +kernel
theorem dX11_undo_66 : decode cX11_undo 66 = .ok (.getfield 19, 3) := by decide +kernel
theorem dX11_undo_69 : decode cX11_undo 69 = .ok (.aload_n 0, 1) := by decide +kernel
theorem dX11_undo_70 : decode cX11_undo 70 = .ok (.getfield 70, 3) := by decide +kernel
theorem dX11_undo_73 : decode cX11_undo 73 = .ok (.laload, 1) := by decide +kernel
theorem dX11_undo_74 : decode cX11_undo 74 = .ok (.putfield 59, 3) := by decide +kernel
theorem dX11_undo_77 : decode cX11_undo 77 = .ok (.aload_n 0, 1) := by decide +kernel
theorem dX11_undo_78 : decode cX11_undo 78 = .ok (.getfield 70, 3) := by decide +kernel
theorem dX11_undo_81 : decode cX11_undo 81 = .ok (.ireturn, 1) := by decide +kernel
theorem dX11_snapshot_0 : decode cX11_snapshot 0 = .ok (.aload_n 0, 1) := by decide +kernel
theorem dX11_snapshot_1 : decode cX11_snapshot 1 = .ok (.iconst 0, 1) := by decide +kernel
theorem dX11_snapshot_2 : decode cX11_snapshot 2 = .ok (.putfield 56, 3) := by decide +kernel
theorem dX11_snapshot_5 : decode cX11_snapshot 5 = .ok (.aload_n 0, 1) := by decide +kernel
theorem dX11_snapshot_6 : decode cX11_snapshot 6 = .ok (.iconst 1, 1) := by decide +kernel
theorem dX11_snapshot_7 : decode cX11_snapshot 7 = .ok (.putfield 77, 3) := by decide +kernel
theorem dX11_snapshot_10 : decode cX11_snapshot 10 = .ok (.iconst 0, 1) := by decide +kernel
theorem dX11_snapshot_11 : decode cX11_snapshot 11 = .ok (.istore_n 1, 1) := by decide +kernel
theorem dX11_snapshot_12 : decode cX11_snapshot 12 = .ok (.iload_n 1, 1) := by decide +kernel
theorem dX11_snapshot_13 : decode cX11_snapshot 13 = .ok (.sipush 1460, 3) := by decide +kernel
theorem dX11_snapshot_16 : decode cX11_snapshot 16 = .ok (.if_icmp .ge 21, 3) := by decide +kernel
theorem dX11_snapshot_19 : decode cX11_snapshot 19 = .ok (.aload_n 0, 1) := by decide +kernel
theorem dX11_snapshot_20 : decode cX11_snapshot 20 = .ok (.getfield 13, 3) := by decide +kernel
theorem dX11_snapshot_23 : decode cX11_snapshot 23 = .ok (.iload_n 1, 1) := by decide +kernel
theorem dX11_snapshot_24 : decode cX11_snapshot 24 = .ok (.aload_n 0, 1) := by decide +kernel
theorem dX11_snapshot_25 : decode cX11_snapshot 25 = .ok (.getfield 7, 3) := by decide +kernel
theorem dX11_snapshot_28 : decode cX11_snapshot 28 = .ok (.iload_n 1, 1) := by decide +kernel
theorem dX11_snapshot_29 : decode cX11_snapshot 29 = .ok (.iaload, 1) := by decide +kernel
theorem dX11_snapshot_30 : decode cX11_snapshot 30 = .ok (.iastore, 1) := by decide +kernel
theorem dX11_snapshot_31 : decode cX11_snapshot 31 = .ok (.iinc 1 1, 3) := by decide +kernel
theorem dX11_snapshot_34 : decode cX11_snapshot 34 = .ok (.goto (-22), 3) := by decide +kernel
theorem dX11_snapshot_37 : decode cX11_snapshot 37 = .ok (.aload_n 0, 1) := by decide +kernel
theorem dX11_snapshot_38 : decode cX11_snapshot 38 = .ok (.aload_n 0, 1) := by decide +kernel
theorem dX11_snapshot_39 : decode cX11_snapshot 39 = .ok (.getfield 59, 3) := by decide +kernel
theorem dX11_snapshot_42 : decode cX11_snapshot 42 = .ok (.putfield 80, 3) := by decide +kernel
theorem dX11_snapshot_45 : decode cX11_snapshot 45 = .ok (.aload_n 0, 1) := by decide +kernel
theorem dX11_snapshot_46 : decode cX11_snapshot 46 = .ok (.getfield 7, 3) := by decide +kernel
theorem dX11_snapshot_49 : decode cX11_snapshot 49 = .ok (.iconst 1, 1) := by decide +kernel
theorem dX11_snapshot_50 : decode cX11_snapshot 50 = .ok (.iaload, 1) := by decide +kernel
theorem dX11_snapshot_51 : decode cX11_snapshot 51 = .ok (.ireturn, 1) := by decide +kernel
theorem dX11_restore_0 : decode cX11_restore 0 = .ok (.aload_n 0, 1) := by decide +kernel
theorem dX11_restore_1 : decode cX11_restore 1 = .ok (.iconst 0, 1) := by decide +kernel
theorem dX11_restore_2 : decode cX11_restore 2 = .ok (.putfield 56, 3) := by decide +kernel
theorem dX11_restore_5 : decode cX11_restore 5 = .ok (.aload_n 0, 1) := by decide +kernel
theorem dX11_restore_6 : decode cX11_restore 6 = .ok (.getfield 77, 3) := by decide +kernel
theorem dX11_restore_9 : decode cX11_restore 9 = .ok (.ifCond .ne 9, 3) := by decide +kernel
theorem dX11_restore_12 : decode cX11_restore 12 = .ok (.aload_n 0, 1) := by decide +kernel
theorem dX11_restore_13 : decode cX11_restore 13 = .ok (.iconst 1, 1) := by decide +kernel
theorem dX11_restore_14 : decode cX11_restore 14 = .ok (.invokevirtual 73, 3) := by decide +kernel
theorem dX11_restore_17 : decode cX11_restore 17 = .ok (.ireturn, 1) := by decide +kernel
theorem dX11_restore_18 : decode cX11_restore 18 = .ok (.iconst 0, 1) := by decide +kernel
theorem dX11_restore_19 : decode cX11_restore 19 = .ok (.istore_n 1, 1) := by decide +kernel
theorem dX11_restore_20 : decode cX11_restore 20 = .ok (.iload_n 1, 1) := by decide +kernel
theorem dX11_restore_21 : decode cX11_restore 21 = .ok (.sipush 1460, 3) := by decide +kernel
theorem dX11_restore_24 : decode cX11_restore 24 = .ok (.if_icmp .ge 21, 3) := by decide +kernel
theorem dX11_restore_27 : decode cX11_restore 27 = .ok (.aload_n 0, 1) := by decide +kernel
theorem dX11_restore_28 : decode cX11_restore 28 = .ok (.getfield 7, 3) := by decide +kernel
theorem dX11_restore_31 : decode cX11_restore 31 = .ok (.iload_n 1, 1) := by decide +kernel
theorem dX11_restore_32 : decode cX11_restore 32 = .ok (.aload_n 0, 1) := by decide +kernel
theorem dX11_restore_33 : decode cX11_restore 33 = .ok (.getfield 13, 3) := by decide +kernel
theorem dX11_restore_36 : decode cX11_restore 36 = .ok (.iload_n 1, 1) := by decide +kernel
theorem dX11_restore_37 : decode cX11_restore 37 = .ok (.iaload, 1) := by decide +kernel
theorem dX11_restore_38 : decode cX11_restore 38 = .ok (.iastore, 1) := by decide +kernel
theorem dX11_restore_39 : decode cX11_restore 39 = .ok (.iinc 1 1, 3) := by decide +kernel
theorem dX11_restore_42 : decode cX11_restore 42 = .ok (.goto (-22), 3) := by decide +kernel
theorem dX11_restore_45 : decode cX11_restore 45 = .ok (.aload_n 0, 1) := by decide +kernel
theorem dX11_restore_46 : decode cX11_restore 46 = .ok (.aload_n 0, 1) := by decide +kernel
theorem dX11_restore_47 : decode cX11_restore 47 = .ok (.getfield 80, 3) := by decide +kernel
theorem dX11_restore_50 : decode cX11_restore 50 = .ok (.putfield 59, 3) := by decide +kernel
theorem dX11_restore_53 : decode cX11_restore 53 = .ok (.aload_n 0, 1) := by decide +kernel
theorem dX11_restore_54 : decode cX11_restore 54 = .ok (.iconst 0, 1) := by decide +kernel
theorem dX11_restore_55 : decode cX11_restore 55 = .ok (.putfield 70, 3) := by decide +kernel
theorem dX11_restore_58 : decode cX11_restore 58 = .ok (.aload_n 0, 1) := by decide +kernel
theorem dX11_restore_59 : decode cX11_restore 59 = .ok (.getfield 7, 3) := by decide +kernel
theorem dX11_restore_62 : decode cX11_restore 62 = .ok (.iconst 1, 1) := by decide +kernel
theorem dX11_restore_63 : decode cX11_restore 63 = .ok (.iaload, 1) := by decide +kernel
theorem dX11_restore_64 : decode cX11_restore 64 = .ok (.ireturn, 1) := by decide +kernel
theorem dX11_monthLength_0 : decode cX11_monthLength 0 = .ok (.iload_n 0, 1) := by decide +kernel
theorem dX11_monthLength_1 : decode cX11_monthLength 1 = .ok (.iconst 1, 1) := by decide +kernel
theorem dX11_monthLength_2 : decode cX11_monthLength 2 = .ok (.if_icmp .ne 8, 3) := by decide +kernel
theorem dX11_monthLength_5 : decode cX11_monthLength 5 = .ok (.bipush 28, 2) := by decide +kernel
theorem dX11_monthLength_7 : decode cX11_monthLength 7 = .ok (.goto 32, 3) := by decide +kernel
theorem dX11_monthLength_10 : decode cX11_monthLength 10 = .ok (.iload_n 0, 1) := by decide +kernel
theorem dX11_monthLength_11 : decode cX11_monthLength 11 = .ok (.iconst 3, 1) := by decide +kernel
theorem dX11_monthLength_12 : decode cX11_monthLength 12 = .ok (.if_icmp .eq 20, 3) := by decide +kernel
theorem dX11_monthLength_15 : decode cX11_monthLength 15 = .ok (.iload_n 0, 1) := by decide +kernel
theorem dX11_monthLength_16 : decode cX11_monthLength 16 = .ok (.iconst 5, 1) := by decide +kernel
theorem dX11_monthLength_17 : decode cX11_monthLength 17 = .ok (.if_icmp .eq 15, 3) := by decide +kernel
theorem dX11_monthLength_20 : decode cX11_monthLength 20 = .ok (.iload_n 0, 1) := by decide +kernel
theorem dX11_monthLength_21 : decode cX11_monthLength 21 = .ok (.bipush 8, 2) := by decide +kernel
theorem dX11_monthLength_23 : decode cX11_monthLength 23 = .ok (.if_icmp .eq 9, 3) := by decide +kernel
theorem dX11_monthLength_26 : decode cX11_monthLength 26 = .ok (.iload_n 0, 1) := by decide +kernel
theorem dX11_monthLength_27 : decode cX11_monthLength 27 = .ok (.bipush 10, 2) := by decide +kernel
theorem dX11_monthLength_29 : decode cX11_monthLength 29 = .ok (.if_icmp .ne 8, 3) := by decide +kernel
theorem dX11_monthLength_32 : decode cX11_monthLength 32 = .ok (.bipush 30, 2) := by decide +kernel
theorem dX11_monthLength_34 : decode cX11_monthLength 34 = .ok (.goto 5, 3) := by decide +kernel
theorem dX11_monthLength_37 : decode cX11_monthLength 37 = .ok (.bipush 31, 2) := by decide +kernel
theorem dX11_monthLength_39 : decode cX11_monthLength 39 = .ok (.ireturn, 1) := by decide +kernel
theorem dX11_monthStart_0 : decode cX11_monthStart 0 = .ok (.iconst 0, 1) := by decide +kernel
theorem dX11_monthStart_1 : decode cX11_monthStart 1 = .ok (.istore_n 1, 1) := by decide +kernel
theorem dX11_monthStart_2 : decode cX11_monthStart 2 = .ok (.iconst 0, 1) := by decide +kernel
theorem dX11_monthStart_3 : decode cX11_monthStart 3 = .ok (.istore_n 2, 1) := by decide +kernel
theorem dX11_monthStart_4 : decode cX11_monthStart 4 = .ok (.iload_n 2, 1) := by decide +kernel
theorem dX11_monthStart_5 : decode cX11_monthStart 5 = .ok (.iload_n 0, 1) := by decide +kernel
theorem dX11_monthStart_6 : decode cX11_monthStart 6 = .ok (.if_icmp .ge 16, 3) := by decide +kernel
theorem dX11_monthStart_9 : decode cX11_monthStart 9 = .ok (.iload_n 1, 1) := by decide +kernel
theorem dX11_monthStart_10 : decode cX11_monthStart 10 = .ok (.iload_n 2, 1) := by decide +kernel
theorem dX11_monthStart_11 : decode cX11_monthStart 11 = .ok (.invokestatic 83, 3) := by decide +kernel
theorem dX11_monthStart_14 : decode cX11_monthStart 14 = .ok (.iadd, 1) := by decide +kernel
theorem dX11_monthStart_15 : decode cX11_monthStart 15 = .ok (.istore_n 1, 1) := by decide +kernel
theorem dX11_monthStart_16 : decode cX11_monthStart 16 = .ok (.iinc 2 1, 3) := by decide +kernel
theorem dX11_monthStart_19 : decode cX11_monthStart 19 = .ok (.goto (-15), 3) := by decide +kernel
theorem dX11_monthStart_22 : decode cX11_monthStart 22 = .ok (.iload_n 1, 1) := by decide +kernel
theorem dX11_monthStart_23 : decode cX11_monthStart 23 = .ok (.ireturn, 1) := by decide +kernel
theorem dX11_monthOf_0 : decode cX11_monthOf 0 = .ok (.iconst 0, 1) := by decide +kernel
theorem dX11_monthOf_1 : decode cX11_monthOf 1 = .ok (.istore_n 1, 1) := by decide +kernel
theorem dX11_monthOf_2 : decode cX11_monthOf 2 = .ok (.iload_n 1, 1) := by decide +kernel
theorem dX11_monthOf_3 : decode cX11_monthOf 3 = .ok (.bipush 11, 2) := by decide +kernel
theorem dX11_monthOf_5 : decode cX11_monthOf 5 = .ok (.if_icmp .ge 23, 3) := by decide +kernel
theorem dX11_monthOf_8 : decode cX11_monthOf 8 = .ok (.iload_n 1, 1) := by decide +kernel
theorem dX11_monthOf_9 : decode cX11_monthOf 9 = .ok (.iconst 1, 1) := by decide +kernel
theorem dX11_monthOf_10 : decode cX11_monthOf 10 = .ok (.iadd, 1) := by decide +kernel
theorem dX11_monthOf_11 : decode cX11_monthOf 11 = .ok (.invokestatic 86, 3) := by decide +kernel
theorem dX11_monthOf_14 : decode cX11_monthOf 14 = .ok (.iload_n 0, 1) := by decide +kernel
theorem dX11_monthOf_15 : decode cX11_monthOf 15 = .ok (.sipush 365, 3) := by decide +kernel
theorem dX11_monthOf_18 : decode cX11_monthOf 18 = .ok (.irem, 1) := by decide +kernel
theorem dX11_monthOf_19 : decode cX11_monthOf 19 = .ok (.if_icmp .gt 9, 3) := by decide +kernel
theorem dX11_monthOf_22 : decode cX11_monthOf 22 = .ok (.iinc 1 1, 3) := by decide +kernel
theorem dX11_monthOf_25 : decode cX11_monthOf 25 = .ok (.goto (-23), 3) := by decide +kernel
theorem dX11_monthOf_28 : decode cX11_monthOf 28 = .ok (.iload_n 1, 1) := by decide +kernel
theorem dX11_monthOf_29 : decode cX11_monthOf 29 = .ok (.ireturn, 1) := by decide +kernel
theorem dX11_numberOf_0 : decode cX11_numberOf 0 = .ok (.iload_n 0, 1) := by decide +kernel
theorem dX11_numberOf_1 : decode cX11_numberOf 1 = .ok (.sipush 365, 3) := by decide +kernel
theorem dX11_numberOf_4 : decode cX11_numberOf 4 = .ok (.irem, 1) := by decide +kernel
theorem dX11_numberOf_5 : decode cX11_numberOf 5 = .ok (.iload_n 0, 1) := by decide +kernel
theorem dX11_numberOf_6 : decode cX11_numberOf 6 = .ok (.invokestatic 89, 3) := by decide +kernel
theorem dX11_numberOf_9 : decode cX11_numberOf 9 = .ok (.invokestatic 86, 3) := by decide +kernel
theorem dX11_numberOf_12 : decode cX11_numberOf 12 = .ok (.isub, 1) := by decide +kernel
theorem dX11_numberOf_13 : decode cX11_numberOf 13 = .ok (.iconst 1, 1) := by decide +kernel
theorem dX11_numberOf_14 : decode cX11_numberOf 14 = .ok (.iadd, 1) := by decide +kernel
theorem dX11_numberOf_15 : decode cX11_numberOf 15 = .ok (.ireturn, 1) := by decide +kernel
theorem dX11_monthsAfter_0 : decode cX11_monthsAfter 0 = .ok (.bipush 12, 2) := by decide +kernel
theorem dX11_monthsAfter_2 : decode cX11_monthsAfter 2 = .ok (.iload_n 0, 1) := by decide +kernel
theorem dX11_monthsAfter_3 : decode cX11_monthsAfter 3 = .ok (.sipush 365, 3) := by decide +kernel
theorem dX11_monthsAfter_6 : decode cX11_monthsAfter 6 = .ok (.idiv, 1) := by decide +kernel
theorem dX11_monthsAfter_7 : decode cX11_monthsAfter 7 = .ok (.imul, 1) := by decide +kernel
theorem dX11_monthsAfter_8 : decode cX11_monthsAfter 8 = .ok (.iload_n 0, 1) := by decide +kernel
theorem dX11_monthsAfter_9 : decode cX11_monthsAfter 9 = .ok (.invokestatic 89, 3) := by decide +kernel
theorem dX11_monthsAfter_12 : decode cX11_monthsAfter 12 = .ok (.iadd, 1) := by decide +kernel
theorem dX11_monthsAfter_13 : decode cX11_monthsAfter 13 = .ok (.iload_n 1, 1) := by decide +kernel
theorem dX11_monthsAfter_14 : decode cX11_monthsAfter 14 = .ok (.iadd, 1) := by decide +kernel
theorem dX11_monthsAfter_15 : decode cX11_monthsAfter 15 = .ok (.istore_n 2, 1) := by decide +kernel
theorem dX11_monthsAfter_16 : decode cX11_monthsAfter 16 = .ok (.iload_n 0, 1) := by decide +kernel
theorem dX11_monthsAfter_17 : decode cX11_monthsAfter 17 = .ok (.invokestatic 92, 3) := by decide +kernel
theorem dX11_monthsAfter_20 : decode cX11_monthsAfter 20 = .ok (.iload_n 2, 1) := by decide +kernel
theorem dX11_monthsAfter_21 : decode cX11_monthsAfter 21 = .ok (.bipush 12, 2) := by decide +kernel
theorem dX11_monthsAfter_23 : decode cX11_monthsAfter 23 = .ok (.irem, 1) := by decide +kernel
theorem dX11_monthsAfter_24 : decode cX11_monthsAfter 24 = .ok (.invokestatic 83, 3) := by decide +kernel
theorem dX11_monthsAfter_27 : decode cX11_monthsAfter 27 = .ok (.if_icmp .le 13, 3) := by decide +kernel
theorem dX11_monthsAfter_30 : decode cX11_monthsAfter 30 = .ok (.iload_n 2, 1) := by decide +kernel
theorem dX11_monthsAfter_31 : decode cX11_monthsAfter 31 = .ok (.bipush 12, 2) := by decide +kernel
theorem dX11_monthsAfter_33 : decode cX11_monthsAfter 33 = .ok (.irem, 1) := by decide +kernel
theorem dX11_monthsAfter_34 : decode cX11_monthsAfter 34 = .ok (.invokestatic 83, 3) := by decide +kernel
theorem dX11_monthsAfter_37 : decode cX11_monthsAfter 37 = .ok (.goto 7, 3) := by decide +kernel
theorem dX11_monthsAfter_40 : decode cX11_monthsAfter 40 = .ok (.iload_n 0, 1) := by decide +kernel
theorem dX11_monthsAfter_41 : decode cX11_monthsAfter 41 = .ok (.invokestatic 92, 3) := by decide +kernel
theorem dX11_monthsAfter_44 : decode cX11_monthsAfter 44 = .ok (.istore_n 3, 1) := by decide +kernel
theorem dX11_monthsAfter_45 : decode cX11_monthsAfter 45 = .ok (.sipush 365, 3) := by decide +kernel
theorem dX11_monthsAfter_48 : decode cX11_monthsAfter 48 = .ok (.iload_n 2, 1) := by decide +kernel
theorem dX11_monthsAfter_49 : decode cX11_monthsAfter 49 = .ok (.bipush 12, 2) := by decide +kernel
theorem dX11_monthsAfter_51 : decode cX11_monthsAfter 51 = .ok (.idiv, 1) := by decide +kernel
theorem dX11_monthsAfter_52 : decode cX11_monthsAfter 52 = .ok (.imul, 1) := by decide +kernel
theorem dX11_monthsAfter_53 : decode cX11_monthsAfter 53 = .ok (.iload_n 2, 1) := by decide +kernel
theorem dX11_monthsAfter_54 : decode cX11_monthsAfter 54 = .ok (.bipush 12, 2) := by decide +kernel
theorem dX11_monthsAfter_56 : decode cX11_monthsAfter 56 = .ok (.irem, 1) := by decide +kernel
theorem dX11_monthsAfter_57 : decode cX11_monthsAfter 57 = .ok (.invokestatic 86, 3) := by decide +kernel
theorem dX11_monthsAfter_60 : decode cX11_monthsAfter 60 = .ok (.iadd, 1) := by decide +kernel
theorem dX11_monthsAfter_61 : decode cX11_monthsAfter 61 = .ok (.iload_n 3, 1) := by decide +kernel
theorem dX11_monthsAfter_62 : decode cX11_monthsAfter 62 = .ok (.iadd, 1) := by decide +kernel
theorem dX11_monthsAfter_63 : decode cX11_monthsAfter 63 = .ok (.iconst 1, 1) := by decide +kernel
theorem dX11_monthsAfter_64 : decode cX11_monthsAfter 64 = .ok (.isub, 1) := by decide +kernel
theorem dX11_monthsAfter_65 : decode cX11_monthsAfter 65 = .ok (.ireturn, 1) := by decide +kernel
theorem dX11_counted_0 : decode cX11_counted 0 = .ok (.iload_n 1, 1) := by decide +kernel
theorem dX11_counted_1 : decode cX11_counted 1 = .ok (.iconst 2, 1) := by decide +kernel
theorem dX11_counted_2 : decode cX11_counted 2 = .ok (.if_icmp .ge 7, 3) := by decide +kernel
theorem dX11_counted_5 : decode cX11_counted 5 = .ok (.iload_n 0, 1) := by decide +kernel
theorem dX11_counted_6 : decode cX11_counted 6 = .ok (.goto 39, 3) := by decide +kernel
theorem dX11_counted_9 : decode cX11_counted 9 = .ok (.sipush 360, 3) := by decide +kernel
theorem dX11_counted_12 : decode cX11_counted 12 = .ok (.iload_n 0, 1) := by decide +kernel
theorem dX11_counted_13 : decode cX11_counted 13 = .ok (.sipush 365, 3) := by decide +kernel
theorem dX11_counted_16 : decode cX11_counted 16 = .ok (.idiv, 1) := by decide +kernel
theorem dX11_counted_17 : decode cX11_counted 17 = .ok (.imul, 1) := by decide +kernel
theorem dX11_counted_18 : decode cX11_counted 18 = .ok (.bipush 30, 2) := by decide +kernel
theorem dX11_counted_20 : decode cX11_counted 20 = .ok (.iload_n 0, 1) := by decide +kernel
theorem dX11_counted_21 : decode cX11_counted 21 = .ok (.invokestatic 89, 3) := by decide +kernel
theorem dX11_counted_24 : decode cX11_counted 24 = .ok (.imul, 1) := by decide +kernel
theorem dX11_counted_25 : decode cX11_counted 25 = .ok (.iadd, 1) := by decide +kernel
theorem dX11_counted_26 : decode cX11_counted 26 = .ok (.iload_n 0, 1) := by decide +kernel
theorem dX11_counted_27 : decode cX11_counted 27 = .ok (.invokestatic 92, 3) := by decide +kernel
theorem dX11_counted_30 : decode cX11_counted 30 = .ok (.bipush 30, 2) := by decide +kernel
theorem dX11_counted_32 : decode cX11_counted 32 = .ok (.if_icmp .le 8, 3) := by decide +kernel
theorem dX11_counted_35 : decode cX11_counted 35 = .ok (.bipush 30, 2) := by decide +kernel
theorem dX11_counted_37 : decode cX11_counted 37 = .ok (.goto 7, 3) := by decide +kernel
theorem dX11_counted_40 : decode cX11_counted 40 = .ok (.iload_n 0, 1) := by decide +kernel
theorem dX11_counted_41 : decode cX11_counted 41 = .ok (.invokestatic 92, 3) := by decide +kernel
theorem dX11_counted_44 : decode cX11_counted 44 = .ok (.iadd, 1) := by decide +kernel
theorem dX11_counted_45 : decode cX11_counted 45 = .ok (.ireturn, 1) := by decide +kernel
theorem dX11_partOf_0 : decode cX11_partOf 0 = .ok (.iload_n 1, 1) := by decide +kernel
theorem dX11_partOf_1 : decode cX11_partOf 1 = .ok (.ifCond .ne 7, 3) := by decide +kernel
theorem dX11_partOf_4 : decode cX11_partOf 4 = .ok (.iload_n 0, 1) := by decide +kernel
theorem dX11_partOf_5 : decode cX11_partOf 5 = .ok (.goto 32, 3) := by decide +kernel
theorem dX11_partOf_8 : decode cX11_partOf 8 = .ok (.iload_n 1, 1) := by decide +kernel
theorem dX11_partOf_9 : decode cX11_partOf 9 = .ok (.iconst 1, 1) := by decide +kernel
theorem dX11_partOf_10 : decode cX11_partOf 10 = .ok (.if_icmp .ne 11, 3) := by decide +kernel
theorem dX11_partOf_13 : decode cX11_partOf 13 = .ok (.iload_n 0, 1) := by decide +kernel
theorem dX11_partOf_14 : decode cX11_partOf 14 = .ok (.sipush 365, 3) := by decide +kernel
theorem dX11_partOf_17 : decode cX11_partOf 17 = .ok (.idiv, 1) := by decide +kernel
theorem dX11_partOf_18 : decode cX11_partOf 18 = .ok (.goto 19, 3) := by decide +kernel
theorem dX11_partOf_21 : decode cX11_partOf 21 = .ok (.iload_n 1, 1) := by decide +kernel
theorem dX11_partOf_22 : decode cX11_partOf 22 = .ok (.iconst 2, 1) := by decide +kernel
theorem dX11_partOf_23 : decode cX11_partOf 23 = .ok (.if_icmp .ne 10, 3) := by decide +kernel
theorem dX11_partOf_26 : decode cX11_partOf 26 = .ok (.iload_n 0, 1) := by decide +kernel
theorem dX11_partOf_27 : decode cX11_partOf 27 = .ok (.invokestatic 89, 3) := by decide +kernel
theorem dX11_partOf_30 : decode cX11_partOf 30 = .ok (.goto 7, 3) := by decide +kernel
theorem dX11_partOf_33 : decode cX11_partOf 33 = .ok (.iload_n 0, 1) := by decide +kernel
theorem dX11_partOf_34 : decode cX11_partOf 34 = .ok (.invokestatic 92, 3) := by decide +kernel
theorem dX11_partOf_37 : decode cX11_partOf 37 = .ok (.ireturn, 1) := by decide +kernel
theorem dX11_date_0 : decode cX11_date 0 = .ok (.aload_n 0, 1) := by decide +kernel
theorem dX11_date_1 : decode cX11_date 1 = .ok (.iload_n 1, 1) := by decide +kernel
theorem dX11_date_2 : decode cX11_date 2 = .ok (.iconst 0, 1) := by decide +kernel
theorem dX11_date_3 : decode cX11_date 3 = .ok (.iconst 3, 1) := by decide +kernel
theorem dX11_date_4 : decode cX11_date 4 = .ok (.invokestatic 95, 3) := by decide +kernel
theorem dX11_date_7 : decode cX11_date 7 = .ok (.ifCond .eq 7, 3) := by decide +kernel
theorem dX11_date_10 : decode cX11_date 10 = .ok (.iconst 0, 1) := by decide +kernel
theorem dX11_date_11 : decode cX11_date 11 = .ok (.goto 4, 3) := by decide +kernel
theorem dX11_date_14 : decode cX11_date 14 = .ok (.iconst 1, 1) := by decide +kernel
theorem dX11_date_15 : decode cX11_date 15 = .ok (.putfield 56, 3) := by decide +kernel
theorem dX11_date_18 : decode cX11_date 18 = .ok (.aload_n 0, 1) := by decide +kernel
theorem dX11_date_19 : decode cX11_date 19 = .ok (.getfield 56, 3) := by decide +kernel
theorem dX11_date_22 : decode cX11_date 22 = .ok (.ifCond .le 7, 3) := by decide +kernel
theorem dX11_date_25 : decode cX11_date 25 = .ok (.iconst 0, 1) := by decide +kernel
theorem dX11_date_26 : decode cX11_date 26 = .ok (.goto 13, 3) := by decide +kernel
theorem dX11_date_29 : decode cX11_date 29 = .ok (.aload_n 0, 1) := by decide +kernel
theorem dX11_date_30 : decode cX11_date 30 = .ok (.getfield 7, 3) := by decide +kernel
theorem dX11_date_33 : decode cX11_date 33 = .ok (.iconst 1, 1) := by decide +kernel
theorem dX11_date_34 : decode cX11_date 34 = .ok (.iaload, 1) := by decide +kernel
theorem dX11_date_35 : decode cX11_date 35 = .ok (.iload_n 1, 1) := by decide +kernel
theorem dX11_date_36 : decode cX11_date 36 = .ok (.invokestatic 99, 3) := by decide +kernel
theorem dX11_date_39 : decode cX11_date 39 = .ok (.ireturn, 1) := by decide +kernel
theorem dX11_countedDays_0 : decode cX11_countedDays 0 = .ok (.aload_n 0, 1) := by decide +kernel
theorem dX11_countedDays_1 : decode cX11_countedDays 1 = .ok (.iload_n 1, 1) := by decide +kernel
theorem dX11_countedDays_2 : decode cX11_countedDays 2 = .ok (.iconst 0, 1) := by decide +kernel
theorem dX11_countedDays_3 : decode cX11_countedDays 3 = .ok (.sipush 8000, 3) := by decide +kernel
theorem dX11_countedDays_6 : decode cX11_countedDays 6 = .ok (.invokestatic 95, 3) := by decide +kernel
theorem dX11_countedDays_9 : decode cX11_countedDays 9 = .ok (.ifCond .eq 27, 3) := by decide +kernel
theorem dX11_countedDays_12 : decode cX11_countedDays 12 = .ok (.iload_n 2, 1) := by decide +kernel
theorem dX11_countedDays_13 : decode cX11_countedDays 13 = .ok (.iload_n 1, 1) := by decide +kernel
theorem dX11_countedDays_14 : decode cX11_countedDays 14 = .ok (.sipush 8000, 3) := by decide +kernel
theorem dX11_countedDays_17 : decode cX11_countedDays 17 = .ok (.invokestatic 95, 3) := by decide +kernel
theorem dX11_countedDays_20 : decode cX11_countedDays 20 = .ok (.ifCond .eq 16, 3) := by decide +kernel
theorem dX11_countedDays_23 : decode cX11_countedDays 23 = .ok (.iload_n 3, 1) := by decide +kernel
theorem dX11_countedDays_24 : decode cX11_countedDays 24 = .ok (.iconst 0, 1) := by decide +kernel
theorem dX11_countedDays_25 : decode cX11_countedDays 25 = .ok (.iconst 2, 1) := by decide +kernel
theorem dX11_countedDays_26 : decode cX11_countedDays 26 = .ok (.invokestatic 95, 3) := by decide +kernel
theorem dX11_countedDays_29 : decode cX11_countedDays 29 = .ok (.ifCond .eq 7, 3) := by decide +kernel
theorem dX11_countedDays_32 : decode cX11_countedDays 32 = .ok (.iconst 0, 1) := by decide +kernel
theorem dX11_countedDays_33 : decode cX11_countedDays 33 = .ok (.goto 4, 3) := by decide +kernel
theorem dX11_countedDays_36 : decode cX11_countedDays 36 = .ok (.iconst 1, 1) := by decide +kernel
theorem dX11_countedDays_37 : decode cX11_countedDays 37 = .ok (.putfield 56, 3) := by decide +kernel
theorem dX11_countedDays_40 : decode cX11_countedDays 40 = .ok (.aload_n 0, 1) := by decide +kernel
theorem dX11_countedDays_41 : decode cX11_countedDays 41 = .ok (.getfield 56, 3) := by decide +kernel
theorem dX11_countedDays_44 : decode cX11_countedDays 44 = .ok (.ifCond .le 7, 3) := by decide +kernel
theorem dX11_countedDays_47 : decode cX11_countedDays 47 = .ok (.iconst 0, 1) := by decide +kernel
theorem dX11_countedDays_48 : decode cX11_countedDays 48 = .ok (.goto 14, 3) := by decide +kernel
theorem dX11_countedDays_51 : decode cX11_countedDays 51 = .ok (.iload_n 2, 1) := by decide +kernel
theorem dX11_countedDays_52 : decode cX11_countedDays 52 = .ok (.iload_n 3, 1) := by decide +kernel
theorem dX11_countedDays_53 : decode cX11_countedDays 53 = .ok (.invokestatic 103, 3) := by decide +kernel
theorem dX11_countedDays_56 : decode cX11_countedDays 56 = .ok (.iload_n 1, 1) := by decide +kernel
theorem dX11_countedDays_57 : decode cX11_countedDays 57 = .ok (.iload_n 3, 1) := by decide +kernel
theorem dX11_countedDays_58 : decode cX11_countedDays 58 = .ok (.invokestatic 103, 3) := by decide +kernel
theorem dX11_countedDays_61 : decode cX11_countedDays 61 = .ok (.isub, 1) := by decide +kernel
theorem dX11_countedDays_62 : decode cX11_countedDays 62 = .ok (.ireturn, 1) := by decide +kernel
theorem dX11_cent_0 : decode cX11_cent 0 = .ok (.ldc2_w 106, 3) := by decide +kernel
theorem dX11_cent_3 : decode cX11_cent 3 = .ok (.aload_n 0, 1) := by decide +kernel
theorem dX11_cent_4 : decode cX11_cent 4 = .ok (.getfield 7, 3) := by decide +kernel
theorem dX11_cent_7 : decode cX11_cent 7 = .ok (.bipush 11, 2) := by decide +kernel
theorem dX11_cent_9 : decode cX11_cent 9 = .ok (.iaload, 1) := by decide +kernel
theorem dX11_cent_10 : decode cX11_cent 10 = .ok (.ifCond .ne 9, 3) := by decide +kernel
theorem dX11_cent_13 : decode cX11_cent 13 = .ok (.sipush 365, 3) := by decide +kernel
theorem dX11_cent_16 : decode cX11_cent 16 = .ok (.goto 6, 3) := by decide +kernel
theorem dX11_cent_19 : decode cX11_cent 19 = .ok (.sipush 360, 3) := by decide +kernel
theorem dX11_cent_22 : decode cX11_cent 22 = .ok (.i2l, 1) := by decide +kernel
theorem dX11_cent_23 : decode cX11_cent 23 = .ok (.lmul, 1) := by decide +kernel
theorem dX11_cent_24 : decode cX11_cent 24 = .ok (.lreturn, 1) := by decide +kernel
theorem dX11_cents_0 : decode cX11_cents 0 = .ok (.ldc2_w 108, 3) := by decide +kernel
theorem dX11_cents_3 : decode cX11_cents 3 = .ok (.lload_n 1, 1) := by decide +kernel
theorem dX11_cents_4 : decode cX11_cents 4 = .ok (.lmul, 1) := by decide +kernel
theorem dX11_cents_5 : decode cX11_cents 5 = .ok (.aload_n 0, 1) := by decide +kernel
theorem dX11_cents_6 : decode cX11_cents 6 = .ok (.invokevirtual 110, 3) := by decide +kernel
theorem dX11_cents_9 : decode cX11_cents 9 = .ok (.ladd, 1) := by decide +kernel
theorem dX11_cents_10 : decode cX11_cents 10 = .ok (.lstore_n 3, 1) := by decide +kernel
theorem dX11_cents_11 : decode cX11_cents 11 = .ok (.lload_n 3, 1) := by decide +kernel
theorem dX11_cents_12 : decode cX11_cents 12 = .ok (.ldc2_w 108, 3) := by decide +kernel
theorem dX11_cents_15 : decode cX11_cents 15 = .ok (.aload_n 0, 1) := by decide +kernel
theorem dX11_cents_16 : decode cX11_cents 16 = .ok (.invokevirtual 110, 3) := by decide +kernel
theorem dX11_cents_19 : decode cX11_cents 19 = .ok (.lmul, 1) := by decide +kernel
theorem dX11_cents_20 : decode cX11_cents 20 = .ok (.ldiv, 1) := by decide +kernel
theorem dX11_cents_21 : decode cX11_cents 21 = .ok (.lstore 5, 2) := by decide +kernel
theorem dX11_cents_23 : decode cX11_cents 23 = .ok (.lload_n 3, 1) := by decide +kernel
theorem dX11_cents_24 : decode cX11_cents 24 = .ok (.lconst 0, 1) := by decide +kernel
theorem dX11_cents_25 : decode cX11_cents 25 = .ok (.lcmp, 1) := by decide +kernel
theorem dX11_cents_26 : decode cX11_cents 26 = .ok (.ifCond .ge 26, 3) := by decide +kernel
theorem dX11_cents_29 : decode cX11_cents 29 = .ok (.lload 5, 2) := by decide +kernel
theorem dX11_cents_31 : decode cX11_cents 31 = .ok (.ldc2_w 108, 3) := by decide +kernel
theorem dX11_cents_34 : decode cX11_cents 34 = .ok (.lmul, 1) := by decide +kernel
theorem dX11_cents_35 : decode cX11_cents 35 = .ok (.aload_n 0, 1) := by decide +kernel
theorem dX11_cents_36 : decode cX11_cents 36 = .ok (.invokevirtual 110, 3) := by decide +kernel
theorem dX11_cents_39 : decode cX11_cents 39 = .ok (.lmul, 1) := by decide +kernel
theorem dX11_cents_40 : decode cX11_cents 40 = .ok (.lload_n 3, 1) := by decide +kernel
theorem dX11_cents_41 : decode cX11_cents 41 = .ok (.lcmp, 1) := by decide +kernel
theorem dX11_cents_42 : decode cX11_cents 42 = .ok (.ifCond .eq 10, 3) := by decide +kernel
theorem dX11_cents_45 : decode cX11_cents 45 = .ok (.lload 5, 2) := by decide +kernel
theorem dX11_cents_47 : decode cX11_cents 47 = .ok (.lconst 1, 1) := by decide +kernel
theorem dX11_cents_48 : decode cX11_cents 48 = .ok (.lsub, 1) := by decide +kernel
theorem dX11_cents_49 : decode cX11_cents 49 = .ok (.goto 5, 3) := by decide +kernel
theorem dX11_cents_52 : decode cX11_cents 52 = .ok (.lload 5, 2) := by decide +kernel
theorem dX11_cents_54 : decode cX11_cents 54 = .ok (.lreturn, 1) := by decide +kernel
theorem dX11_debt_0 : decode cX11_debt 0 = .ok (.aload_n 0, 1) := by decide +kernel
theorem dX11_debt_1 : decode cX11_debt 1 = .ok (.getfield 7, 3) := by decide +kernel
theorem dX11_debt_4 : decode cX11_debt 4 = .ok (.bipush 7, 2) := by decide +kernel
theorem dX11_debt_6 : decode cX11_debt 6 = .ok (.iaload, 1) := by decide +kernel
theorem dX11_debt_7 : decode cX11_debt 7 = .ok (.aload_n 0, 1) := by decide +kernel
theorem dX11_debt_8 : decode cX11_debt 8 = .ok (.getfield 7, 3) := by decide +kernel
theorem dX11_debt_11 : decode cX11_debt 11 = .ok (.bipush 8, 2) := by decide +kernel
theorem dX11_debt_13 : decode cX11_debt 13 = .ok (.iaload, 1) := by decide +kernel
theorem dX11_debt_14 : decode cX11_debt 14 = .ok (.iadd, 1) := by decide +kernel
theorem dX11_debt_15 : decode cX11_debt 15 = .ok (.aload_n 0, 1) := by decide +kernel
theorem dX11_debt_16 : decode cX11_debt 16 = .ok (.getfield 7, 3) := by decide +kernel
theorem dX11_debt_19 : decode cX11_debt 19 = .ok (.bipush 9, 2) := by decide +kernel
theorem dX11_debt_21 : decode cX11_debt 21 = .ok (.iaload, 1) := by decide +kernel
theorem dX11_debt_22 : decode cX11_debt 22 = .ok (.iadd, 1) := by decide +kernel
theorem dX11_debt_23 : decode cX11_debt 23 = .ok (.ireturn, 1) := by decide +kernel
theorem dX11_dueDay_0 : decode cX11_dueDay 0 = .ok (.aload_n 0, 1) := by decide +kernel
theorem dX11_dueDay_1 : decode cX11_dueDay 1 = .ok (.getfield 7, 3) := by decide +kernel
theorem dX11_dueDay_4 : decode cX11_dueDay 4 = .ok (.bipush 15, 2) := by decide +kernel
theorem dX11_dueDay_6 : decode cX11_dueDay 6 = .ok (.iaload, 1) := by decide +kernel
theorem dX11_dueDay_7 : decode cX11_dueDay 7 = .ok (.iload_n 1, 1) := by decide +kernel
theorem dX11_dueDay_8 : decode cX11_dueDay 8 = .ok (.invokestatic 122, 3) := by decide +kernel
theorem dX11_dueDay_11 : decode cX11_dueDay 11 = .ok (.ireturn, 1) := by decide +kernel
theorem dX11_passes_0 : decode cX11_passes 0 = .ok (.iconst 0, 1) := by decide +kernel
theorem dX11_passes_1 : decode cX11_passes 1 = .ok (.istore_n 2, 1) := by decide +kernel
theorem dX11_passes_2 : decode cX11_passes 2 = .ok (.iconst 0, 1) := by decide +kernel
theorem dX11_passes_3 : decode cX11_passes 3 = .ok (.istore_n 3, 1) := by decide +kernel
theorem dX11_passes_4 : decode cX11_passes 4 = .ok (.iload_n 3, 1) := by decide +kernel
theorem dX11_passes_5 : decode cX11_passes 5 = .ok (.iload_n 1, 1) := by decide +kernel
theorem dX11_passes_6 : decode cX11_passes 6 = .ok (.if_icmp .ge 144, 3) := by decide +kernel
theorem dX11_passes_9 : decode cX11_passes 9 = .ok (.aload_n 0, 1) := by decide +kernel
theorem dX11_passes_10 : decode cX11_passes 10 = .ok (.getfield 7, 3) := by decide +kernel
theorem dX11_passes_13 : decode cX11_passes 13 = .ok (.iconst 1, 1) := by decide +kernel
theorem dX11_passes_14 : decode cX11_passes 14 = .ok (.iaload, 1) := by decide +kernel
theorem dX11_passes_15 : decode cX11_passes 15 = .ok (.istore 4, 2) := by decide +kernel
theorem dX11_passes_17 : decode cX11_passes 17 = .ok (.aload_n 0, 1) := by decide +kernel
theorem dX11_passes_18 : decode cX11_passes 18 = .ok (.getfield 7, 3) := by decide +kernel
theorem dX11_passes_21 : decode cX11_passes 21 = .ok (.iconst 1, 1) := by decide +kernel
theorem dX11_passes_22 : decode cX11_passes 22 = .ok (.dup2, 1) := by decide +kernel
theorem dX11_passes_23 : decode cX11_passes 23 = .ok (.iaload, 1) := by decide +kernel
theorem dX11_passes_24 : decode cX11_passes 24 = .ok (.iconst 1, 1) := by decide +kernel
theorem dX11_passes_25 : decode cX11_passes 25 = .ok (.iadd, 1) := by decide +kernel
theorem dX11_passes_26 : decode cX11_passes 26 = .ok (.iastore, 1) := by decide +kernel
theorem dX11_passes_27 : decode cX11_passes 27 = .ok (.aload_n 0, 1) := by decide +kernel
theorem dX11_passes_28 : decode cX11_passes 28 = .ok (.getfield 7, 3) := by decide +kernel
theorem dX11_passes_31 : decode cX11_passes 31 = .ok (.iconst 0, 1) := by decide +kernel
theorem dX11_passes_32 : decode cX11_passes 32 = .ok (.iaload, 1) := by decide +kernel
theorem dX11_passes_33 : decode cX11_passes 33 = .ok (.ifCond .ne 6, 3) := by decide +kernel
theorem dX11_passes_36 : decode cX11_passes 36 = .ok (.goto 108, 3) := by decide +kernel
theorem dX11_passes_39 : decode cX11_passes 39 = .ok (.aload_n 0, 1) := by decide +kernel
theorem dX11_passes_40 : decode cX11_passes 40 = .ok (.dup, 1) := by decide +kernel
theorem dX11_passes_41 : decode cX11_passes 41 = .ok (.getfield 59, 3) := by decide +kernel
theorem dX11_passes_44 : decode cX11_passes 44 = .ok (.aload_n 0, 1) := by decide +kernel
theorem dX11_passes_45 : decode cX11_passes 45 = .ok (.getfield 7, 3) := by decide +kernel
theorem dX11_passes_48 : decode cX11_passes 48 = .ok (.bipush 7, 2) := by decide +kernel
theorem dX11_passes_50 : decode cX11_passes 50 = .ok (.iaload, 1) := by decide +kernel
theorem dX11_passes_51 : decode cX11_passes 51 = .ok (.i2l, 1) := by decide +kernel
theorem dX11_passes_52 : decode cX11_passes 52 = .ok (.aload_n 0, 1) := by decide +kernel
theorem dX11_passes_53 : decode cX11_passes 53 = .ok (.getfield 7, 3) := by decide +kernel
theorem dX11_passes_56 : decode cX11_passes 56 = .ok (.bipush 10, 2) := by decide +kernel
theorem dX11_passes_58 : decode cX11_passes 58 = .ok (.iaload, 1) := by decide +kernel
theorem dX11_passes_59 : decode cX11_passes 59 = .ok (.i2l, 1) := by decide +kernel
theorem dX11_passes_60 : decode cX11_passes 60 = .ok (.lmul, 1) := by decide +kernel
theorem dX11_passes_61 : decode cX11_passes 61 = .ok (.aload_n 0, 1) := by decide +kernel
theorem dX11_passes_62 : decode cX11_passes 62 = .ok (.getfield 7, 3) := by decide +kernel
theorem dX11_passes_65 : decode cX11_passes 65 = .ok (.iconst 1, 1) := by decide +kernel
theorem dX11_passes_66 : decode cX11_passes 66 = .ok (.iaload, 1) := by decide +kernel
theorem dX11_passes_67 : decode cX11_passes 67 = .ok (.aload_n 0, 1) := by decide +kernel
theorem dX11_passes_68 : decode cX11_passes 68 = .ok (.getfield 7, 3) := by decide +kernel
theorem dX11_passes_71 : decode cX11_passes 71 = .ok (.bipush 11, 2) := by decide +kernel
theorem dX11_passes_73 : decode cX11_passes 73 = .ok (.iaload, 1) := by decide +kernel
theorem dX11_passes_74 : decode cX11_passes 74 = .ok (.invokestatic 103, 3) := by decide +kernel
theorem dX11_passes_77 : decode cX11_passes 77 = .ok (.iload 4, 2) := by decide +kernel
theorem dX11_passes_79 : decode cX11_passes 79 = .ok (.aload_n 0, 1) := by decide +kernel
theorem dX11_passes_80 : decode cX11_passes 80 = .ok (.getfield 7, 3) := by decide +kernel
theorem dX11_passes_83 : decode cX11_passes 83 = .ok (.bipush 11, 2) := by decide +kernel
theorem dX11_passes_85 : decode cX11_passes 85 = .ok (.iaload, 1) := by decide +kernel
theorem dX11_passes_86 : decode cX11_passes 86 = .ok (.invokestatic 103, 3) := by decide +kernel
theorem dX11_passes_89 : decode cX11_passes 89 = .ok (.isub, 1) := by decide +kernel
theorem dX11_passes_90 : decode cX11_passes 90 = .ok (.i2l, 1) := by decide +kernel
theorem dX11_passes_91 : decode cX11_passes 91 = .ok (.lmul, 1) := by decide +kernel
theorem dX11_passes_92 : decode cX11_passes 92 = .ok (.ladd, 1) := by decide +kernel
theorem dX11_passes_93 : decode cX11_passes 93 = .ok (.putfield 59, 3) := by decide +kernel
theorem dX11_passes_96 : decode cX11_passes 96 = .ok (.iload_n 2, 1) := by decide +kernel
theorem dX11_passes_97 : decode cX11_passes 97 = .ok (.aload_n 0, 1) := by decide +kernel
theorem dX11_passes_98 : decode cX11_passes 98 = .ok (.invokevirtual 135, 3) := by decide +kernel
theorem dX11_passes_101 : decode cX11_passes 101 = .ok (.iadd, 1) := by decide +kernel
theorem dX11_passes_102 : decode cX11_passes 102 = .ok (.istore_n 2, 1) := by decide +kernel
theorem dX11_passes_103 : decode cX11_passes 103 = .ok (.iload_n 2, 1) := by decide +kernel
theorem dX11_passes_104 : decode cX11_passes 104 = .ok (.aload_n 0, 1) := by decide +kernel
theorem dX11_passes_105 : decode cX11_passes 105 = .ok (.getfield 7, 3) := by decide +kernel
theorem dX11_passes_108 : decode cX11_passes 108 = .ok (.bipush 13, 2) := by decide +kernel
theorem dX11_passes_110 : decode cX11_passes 110 = .ok (.iaload, 1) := by decide +kernel
theorem dX11_passes_111 : decode cX11_passes 111 = .ok (.ifCond .le 30, 3) := by decide +kernel
theorem dX11_passes_114 : decode cX11_passes 114 = .ok (.aload_n 0, 1) := by decide +kernel
theorem dX11_passes_115 : decode cX11_passes 115 = .ok (.getfield 7, 3) := by decide +kernel
theorem dX11_passes_118 : decode cX11_passes 118 = .ok (.iconst 1, 1) := by decide +kernel
theorem dX11_passes_119 : decode cX11_passes 119 = .ok (.iaload, 1) := by decide +kernel
theorem dX11_passes_120 : decode cX11_passes 120 = .ok (.aload_n 0, 1) := by decide +kernel
theorem dX11_passes_121 : decode cX11_passes 121 = .ok (.aload_n 0, 1) := by decide +kernel
theorem dX11_passes_122 : decode cX11_passes 122 = .ok (.getfield 7, 3) := by decide +kernel
theorem dX11_passes_125 : decode cX11_passes 125 = .ok (.bipush 14, 2) := by decide +kernel
theorem dX11_passes_127 : decode cX11_passes 127 = .ok (.iaload, 1) := by decide +kernel
theorem dX11_passes_128 : decode cX11_passes 128 = .ok (.invokevirtual 139, 3) := by decide +kernel
theorem dX11_passes_131 : decode cX11_passes 131 = .ok (.if_icmp .ne 10, 3) := by decide +kernel
theorem dX11_passes_134 : decode cX11_passes 134 = .ok (.aload_n 0, 1) := by decide +kernel
theorem dX11_passes_135 : decode cX11_passes 135 = .ok (.invokevirtual 142, 3) := by decide +kernel
theorem dX11_passes_138 : decode cX11_passes 138 = .ok (.goto 4, 3) := by decide +kernel
theorem dX11_passes_141 : decode cX11_passes 141 = .ok (.iconst 0, 1) := by decide +kernel
theorem dX11_passes_142 : decode cX11_passes 142 = .ok (.iadd, 1) := by decide +kernel
theorem dX11_passes_143 : decode cX11_passes 143 = .ok (.istore_n 2, 1) := by decide +kernel
theorem dX11_passes_144 : decode cX11_passes 144 = .ok (.iinc 3 1, 3) := by decide +kernel
theorem dX11_passes_147 : decode cX11_passes 147 = .ok (.goto (-143), 3) := by decide +kernel
theorem dX11_passes_150 : decode cX11_passes 150 = .ok (.iload_n 2, 1) := by decide +kernel
theorem dX11_passes_151 : decode cX11_passes 151 = .ok (.ireturn, 1) := by decide +kernel
theorem dX11_pass_0 : decode cX11_pass 0 = .ok (.aload_n 0, 1) := by decide +kernel
theorem dX11_pass_1 : decode cX11_pass 1 = .ok (.iload_n 1, 1) := by decide +kernel
theorem dX11_pass_2 : decode cX11_pass 2 = .ok (.iconst 1, 1) := by decide +kernel
theorem dX11_pass_3 : decode cX11_pass 3 = .ok (.sipush 1000, 3) := by decide +kernel
theorem dX11_pass_6 : decode cX11_pass 6 = .ok (.invokestatic 95, 3) := by decide +kernel
theorem dX11_pass_9 : decode cX11_pass 9 = .ok (.ifCond .eq 25, 3) := by decide +kernel
theorem dX11_pass_12 : decode cX11_pass 12 = .ok (.aload_n 0, 1) := by decide +kernel
theorem dX11_pass_13 : decode cX11_pass 13 = .ok (.getfield 7, 3) := by decide +kernel
theorem dX11_pass_16 : decode cX11_pass 16 = .ok (.iconst 1, 1) := by decide +kernel
theorem dX11_pass_17 : decode cX11_pass 17 = .ok (.iaload, 1) := by decide +kernel
theorem dX11_pass_18 : decode cX11_pass 18 = .ok (.iload_n 1, 1) := by decide +kernel
theorem dX11_pass_19 : decode cX11_pass 19 = .ok (.iadd, 1) := by decide +kernel
theorem dX11_pass_20 : decode cX11_pass 20 = .ok (.sipush 8000, 3) := by decide +kernel
theorem dX11_pass_23 : decode cX11_pass 23 = .ok (.if_icmp .le 7, 3) := by decide +kernel
theorem dX11_pass_26 : decode cX11_pass 26 = .ok (.iconst 2, 1) := by decide +kernel
theorem dX11_pass_27 : decode cX11_pass 27 = .ok (.goto 8, 3) := by decide +kernel
theorem dX11_pass_30 : decode cX11_pass 30 = .ok (.iconst 0, 1) := by decide +kernel
theorem dX11_pass_31 : decode cX11_pass 31 = .ok (.goto 4, 3) := by decide +kernel
theorem dX11_pass_34 : decode cX11_pass 34 = .ok (.iconst 1, 1) := by decide +kernel
theorem dX11_pass_35 : decode cX11_pass 35 = .ok (.putfield 56, 3) := by decide +kernel
theorem dX11_pass_38 : decode cX11_pass 38 = .ok (.aload_n 0, 1) := by decide +kernel
theorem dX11_pass_39 : decode cX11_pass 39 = .ok (.getfield 56, 3) := by decide +kernel
theorem dX11_pass_42 : decode cX11_pass 42 = .ok (.ifCond .le 5, 3) := by decide +kernel
theorem dX11_pass_45 : decode cX11_pass 45 = .ok (.iconst 0, 1) := by decide +kernel
theorem dX11_pass_46 : decode cX11_pass 46 = .ok (.ireturn, 1) := by decide +kernel
theorem dX11_pass_47 : decode cX11_pass 47 = .ok (.aload_n 0, 1) := by decide +kernel
theorem dX11_pass_48 : decode cX11_pass 48 = .ok (.invokevirtual 145, 3) := by decide +kernel
theorem dX11_pass_51 : decode cX11_pass 51 = .ok (.aload_n 0, 1) := by decide +kernel
theorem dX11_pass_52 : decode cX11_pass 52 = .ok (.iload_n 1, 1) := by decide +kernel
theorem dX11_pass_53 : decode cX11_pass 53 = .ok (.invokevirtual 148, 3) := by decide +kernel
theorem dX11_pass_56 : decode cX11_pass 56 = .ok (.ireturn, 1) := by decide +kernel
theorem dX11_plans_0 : decode cX11_plans 0 = .ok (.aload_n 0, 1) := by decide +kernel
theorem dX11_plans_1 : decode cX11_plans 1 = .ok (.aload_n 0, 1) := by decide +kernel
theorem dX11_plans_2 : decode cX11_plans 2 = .ok (.getfield 7, 3) := by decide +kernel
theorem dX11_plans_5 : decode cX11_plans 5 = .ok (.bipush 7, 2) := by decide +kernel
theorem dX11_plans_7 : decode cX11_plans 7 = .ok (.iaload, 1) := by decide +kernel
theorem dX11_plans_8 : decode cX11_plans 8 = .ok (.putfield 151, 3) := by decide +kernel
theorem dX11_plans_11 : decode cX11_plans 11 = .ok (.aload_n 0, 1) := by decide +kernel
theorem dX11_plans_12 : decode cX11_plans 12 = .ok (.aload_n 0, 1) := by decide +kernel
theorem dX11_plans_13 : decode cX11_plans 13 = .ok (.getfield 7, 3) := by decide +kernel
theorem dX11_plans_16 : decode cX11_plans 16 = .ok (.bipush 8, 2) := by decide +kernel
theorem dX11_plans_18 : decode cX11_plans 18 = .ok (.iaload, 1) := by decide +kernel
theorem dX11_plans_19 : decode cX11_plans 19 = .ok (.putfield 154, 3) := by decide +kernel
theorem dX11_plans_22 : decode cX11_plans 22 = .ok (.aload_n 0, 1) := by decide +kernel
theorem dX11_plans_23 : decode cX11_plans 23 = .ok (.aload_n 0, 1) := by decide +kernel
theorem dX11_plans_24 : decode cX11_plans 24 = .ok (.getfield 59, 3) := by decide +kernel
theorem dX11_plans_27 : decode cX11_plans 27 = .ok (.putfield 157, 3) := by decide +kernel
theorem dX11_plans_30 : decode cX11_plans 30 = .ok (.aload_n 0, 1) := by decide +kernel
theorem dX11_plans_31 : decode cX11_plans 31 = .ok (.aload_n 0, 1) := by decide +kernel
theorem dX11_plans_32 : decode cX11_plans 32 = .ok (.getfield 7, 3) := by decide +kernel
theorem dX11_plans_35 : decode cX11_plans 35 = .ok (.iconst 1, 1) := by decide +kernel
theorem dX11_plans_36 : decode cX11_plans 36 = .ok (.iaload, 1) := by decide +kernel
theorem dX11_plans_37 : decode cX11_plans 37 = .ok (.putfield 160, 3) := by decide +kernel
theorem dX11_plans_40 : decode cX11_plans 40 = .ok (.aload_n 0, 1) := by decide +kernel
theorem dX11_plans_41 : decode cX11_plans 41 = .ok (.iconst 0, 1) := by decide +kernel
theorem dX11_plans_42 : decode cX11_plans 42 = .ok (.putfield 163, 3) := by decide +kernel
theorem dX11_plans_45 : decode cX11_plans 45 = .ok (.aload_n 0, 1) := by decide +kernel
theorem dX11_plans_46 : decode cX11_plans 46 = .ok (.getfield 7, 3) := by decide +kernel
theorem dX11_plans_49 : decode cX11_plans 49 = .ok (.bipush 14, 2) := by decide +kernel
theorem dX11_plans_51 : decode cX11_plans 51 = .ok (.iaload, 1) := by decide +kernel
theorem dX11_plans_52 : decode cX11_plans 52 = .ok (.istore_n 3, 1) := by decide +kernel
theorem dX11_plans_53 : decode cX11_plans 53 = .ok (.iconst 0, 1) := by decide +kernel
theorem dX11_plans_54 : decode cX11_plans 54 = .ok (.istore 4, 2) := by decide +kernel
theorem dX11_plans_56 : decode cX11_plans 56 = .ok (.aload_n 0, 1) := by decide +kernel
theorem dX11_plans_57 : decode cX11_plans 57 = .ok (.getfield 163, 3) := by decide +kernel
theorem dX11_plans_60 : decode cX11_plans 60 = .ok (.iload_n 2, 1) := by decide +kernel
theorem dX11_plans_61 : decode cX11_plans 61 = .ok (.if_icmp .ge 246, 3) := by decide +kernel
theorem dX11_plans_64 : decode cX11_plans 64 = .ok (.aload_n 0, 1) := by decide +kernel
theorem dX11_plans_65 : decode cX11_plans 65 = .ok (.getfield 163, 3) := by decide +kernel
theorem dX11_plans_68 : decode cX11_plans 68 = .ok (.ifCond .eq 15, 3) := by decide +kernel
theorem dX11_plans_71 : decode cX11_plans 71 = .ok (.aload_n 0, 1) := by decide +kernel
theorem dX11_plans_72 : decode cX11_plans 72 = .ok (.getfield 151, 3) := by decide +kernel
theorem dX11_plans_75 : decode cX11_plans 75 = .ok (.aload_n 0, 1) := by decide +kernel
theorem dX11_plans_76 : decode cX11_plans 76 = .ok (.getfield 154, 3) := by decide +kernel
theorem dX11_plans_79 : decode cX11_plans 79 = .ok (.iadd, 1) := by decide +kernel
theorem dX11_plans_80 : decode cX11_plans 80 = .ok (.ifCond .le 227, 3) := by decide +kernel
theorem dX11_plans_83 : decode cX11_plans 83 = .ok (.aload_n 0, 1) := by decide +kernel
theorem dX11_plans_84 : decode cX11_plans 84 = .ok (.iload_n 3, 1) := by decide +kernel
theorem dX11_plans_85 : decode cX11_plans 85 = .ok (.invokevirtual 139, 3) := by decide +kernel
theorem dX11_plans_88 : decode cX11_plans 88 = .ok (.istore 5, 2) := by decide +kernel
theorem dX11_plans_90 : decode cX11_plans 90 = .ok (.aload_n 0, 1) := by decide +kernel
theorem dX11_plans_91 : decode cX11_plans 91 = .ok (.dup, 1) := by decide +kernel
theorem dX11_plans_92 : decode cX11_plans 92 = .ok (.getfield 157, 3) := by decide +kernel
theorem dX11_plans_95 : decode cX11_plans 95 = .ok (.aload_n 0, 1) := by decide +kernel
theorem dX11_plans_96 : decode cX11_plans 96 = .ok (.getfield 151, 3) := by decide +kernel
theorem dX11_plans_99 : decode cX11_plans 99 = .ok (.i2l, 1) := by decide +kernel
theorem dX11_plans_100 : decode cX11_plans 100 = .ok (.aload_n 0, 1) := by decide +kernel
theorem dX11_plans_101 : decode cX11_plans 101 = .ok (.getfield 7, 3) := by decide +kernel
theorem dX11_plans_104 : decode cX11_plans 104 = .ok (.bipush 10, 2) := by decide +kernel
theorem dX11_plans_106 : decode cX11_plans 106 = .ok (.iaload, 1) := by decide +kernel
theorem dX11_plans_107 : decode cX11_plans 107 = .ok (.i2l, 1) := by decide +kernel
theorem dX11_plans_108 : decode cX11_plans 108 = .ok (.lmul, 1) := by decide +kernel
theorem dX11_plans_109 : decode cX11_plans 109 = .ok (.iload 5, 2) := by decide +kernel
theorem dX11_plans_111 : decode cX11_plans 111 = .ok (.aload_n 0, 1) := by decide +kernel
theorem dX11_plans_112 : decode cX11_plans 112 = .ok (.getfield 7, 3) := by decide +kernel
theorem dX11_plans_115 : decode cX11_plans 115 = .ok (.bipush 11, 2) := by decide +kernel
theorem dX11_plans_117 : decode cX11_plans 117 = .ok (.iaload, 1) := by decide +kernel
theorem dX11_plans_118 : decode cX11_plans 118 = .ok (.invokestatic 103, 3) := by decide +kernel
theorem dX11_plans_121 : decode cX11_plans 121 = .ok (.aload_n 0, 1) := by decide +kernel
theorem dX11_plans_122 : decode cX11_plans 122 = .ok (.getfield 160, 3) := by decide +kernel
theorem dX11_plans_125 : decode cX11_plans 125 = .ok (.aload_n 0, 1) := by decide +kernel
theorem dX11_plans_126 : decode cX11_plans 126 = .ok (.getfield 7, 3) := by decide +kernel
theorem dX11_plans_129 : decode cX11_plans 129 = .ok (.bipush 11, 2) := by decide +kernel
theorem dX11_plans_131 : decode cX11_plans 131 = .ok (.iaload, 1) := by decide +kernel
theorem dX11_plans_132 : decode cX11_plans 132 = .ok (.invokestatic 103, 3) := by decide +kernel
theorem dX11_plans_135 : decode cX11_plans 135 = .ok (.isub, 1) := by decide +kernel
theorem dX11_plans_136 : decode cX11_plans 136 = .ok (.i2l, 1) := by decide +kernel
theorem dX11_plans_137 : decode cX11_plans 137 = .ok (.lmul, 1) := by decide +kernel
theorem dX11_plans_138 : decode cX11_plans 138 = .ok (.ladd, 1) := by decide +kernel
theorem dX11_plans_139 : decode cX11_plans 139 = .ok (.putfield 157, 3) := by decide +kernel
theorem dX11_plans_142 : decode cX11_plans 142 = .ok (.aload_n 0, 1) := by decide +kernel
theorem dX11_plans_143 : decode cX11_plans 143 = .ok (.iload 5, 2) := by decide +kernel
theorem dX11_plans_145 : decode cX11_plans 145 = .ok (.putfield 160, 3) := by decide +kernel
theorem dX11_plans_148 : decode cX11_plans 148 = .ok (.aload_n 0, 1) := by decide +kernel
theorem dX11_plans_149 : decode cX11_plans 149 = .ok (.aload_n 0, 1) := by decide +kernel
theorem dX11_plans_150 : decode cX11_plans 150 = .ok (.getfield 157, 3) := by decide +kernel
theorem dX11_plans_153 : decode cX11_plans 153 = .ok (.invokevirtual 114, 3) := by decide +kernel
theorem dX11_plans_156 : decode cX11_plans 156 = .ok (.l2i, 1) := by decide +kernel
theorem dX11_plans_157 : decode cX11_plans 157 = .ok (.istore 6, 2) := by decide +kernel
theorem dX11_plans_159 : decode cX11_plans 159 = .ok (.aload_n 0, 1) := by decide +kernel
theorem dX11_plans_160 : decode cX11_plans 160 = .ok (.dup, 1) := by decide +kernel
theorem dX11_plans_161 : decode cX11_plans 161 = .ok (.getfield 154, 3) := by decide +kernel
theorem dX11_plans_164 : decode cX11_plans 164 = .ok (.iload 6, 2) := by decide +kernel
theorem dX11_plans_166 : decode cX11_plans 166 = .ok (.iadd, 1) := by decide +kernel
theorem dX11_plans_167 : decode cX11_plans 167 = .ok (.putfield 154, 3) := by decide +kernel
theorem dX11_plans_170 : decode cX11_plans 170 = .ok (.aload_n 0, 1) := by decide +kernel
theorem dX11_plans_171 : decode cX11_plans 171 = .ok (.dup, 1) := by decide +kernel
theorem dX11_plans_172 : decode cX11_plans 172 = .ok (.getfield 157, 3) := by decide +kernel
theorem dX11_plans_175 : decode cX11_plans 175 = .ok (.aload_n 0, 1) := by decide +kernel
theorem dX11_plans_176 : decode cX11_plans 176 = .ok (.invokevirtual 110, 3) := by decide +kernel
theorem dX11_plans_179 : decode cX11_plans 179 = .ok (.iload 6, 2) := by decide +kernel
theorem dX11_plans_181 : decode cX11_plans 181 = .ok (.i2l, 1) := by decide +kernel
theorem dX11_plans_182 : decode cX11_plans 182 = .ok (.lmul, 1) := by decide +kernel
theorem dX11_plans_183 : decode cX11_plans 183 = .ok (.lsub, 1) := by decide +kernel
theorem dX11_plans_184 : decode cX11_plans 184 = .ok (.putfield 157, 3) := by decide +kernel
theorem dX11_plans_187 : decode cX11_plans 187 = .ok (.aload_n 0, 1) := by decide +kernel
theorem dX11_plans_188 : decode cX11_plans 188 = .ok (.getfield 7, 3) := by decide +kernel
theorem dX11_plans_191 : decode cX11_plans 191 = .ok (.sipush 1110, 3) := by decide +kernel
theorem dX11_plans_194 : decode cX11_plans 194 = .ok (.iload_n 3, 1) := by decide +kernel
theorem dX11_plans_195 : decode cX11_plans 195 = .ok (.iadd, 1) := by decide +kernel
theorem dX11_plans_196 : decode cX11_plans 196 = .ok (.iaload, 1) := by decide +kernel
theorem dX11_plans_197 : decode cX11_plans 197 = .ok (.iconst 1, 1) := by decide +kernel
theorem dX11_plans_198 : decode cX11_plans 198 = .ok (.if_icmp .ne 57, 3) := by decide +kernel
theorem dX11_plans_201 : decode cX11_plans 201 = .ok (.aload_n 0, 1) := by decide +kernel
theorem dX11_plans_202 : decode cX11_plans 202 = .ok (.dup, 1) := by decide +kernel
theorem dX11_plans_203 : decode cX11_plans 203 = .ok (.getfield 151, 3) := by decide +kernel
theorem dX11_plans_206 : decode cX11_plans 206 = .ok (.aload_n 0, 1) := by decide +kernel
theorem dX11_plans_207 : decode cX11_plans 207 = .ok (.getfield 7, 3) := by decide +kernel
theorem dX11_plans_210 : decode cX11_plans 210 = .ok (.bipush 6, 2) := by decide +kernel
theorem dX11_plans_212 : decode cX11_plans 212 = .ok (.iaload, 1) := by decide +kernel
theorem dX11_plans_213 : decode cX11_plans 213 = .ok (.iconst 1, 1) := by decide +kernel
theorem dX11_plans_214 : decode cX11_plans 214 = .ok (.if_icmp .ne 10, 3) := by decide +kernel
theorem dX11_plans_217 : decode cX11_plans 217 = .ok (.aload_n 0, 1) := by decide +kernel
theorem dX11_plans_218 : decode cX11_plans 218 = .ok (.getfield 154, 3) := by decide +kernel
theorem dX11_plans_221 : decode cX11_plans 221 = .ok (.goto 4, 3) := by decide +kernel
theorem dX11_plans_224 : decode cX11_plans 224 = .ok (.iconst 0, 1) := by decide +kernel
theorem dX11_plans_225 : decode cX11_plans 225 = .ok (.iadd, 1) := by decide +kernel
theorem dX11_plans_226 : decode cX11_plans 226 = .ok (.putfield 151, 3) := by decide +kernel
theorem dX11_plans_229 : decode cX11_plans 229 = .ok (.aload_n 0, 1) := by decide +kernel
theorem dX11_plans_230 : decode cX11_plans 230 = .ok (.aload_n 0, 1) := by decide +kernel
theorem dX11_plans_231 : decode cX11_plans 231 = .ok (.getfield 7, 3) := by decide +kernel
theorem dX11_plans_234 : decode cX11_plans 234 = .ok (.bipush 6, 2) := by decide +kernel
theorem dX11_plans_236 : decode cX11_plans 236 = .ok (.iaload, 1) := by decide +kernel
theorem dX11_plans_237 : decode cX11_plans 237 = .ok (.iconst 1, 1) := by decide +kernel
theorem dX11_plans_238 : decode cX11_plans 238 = .ok (.if_icmp .ne 7, 3) := by decide +kernel
theorem dX11_plans_241 : decode cX11_plans 241 = .ok (.iconst 0, 1) := by decide +kernel
theorem dX11_plans_242 : decode cX11_plans 242 = .ok (.goto 7, 3) := by decide +kernel
theorem dX11_plans_245 : decode cX11_plans 245 = .ok (.aload_n 0, 1) := by decide +kernel
theorem dX11_plans_246 : decode cX11_plans 246 = .ok (.getfield 154, 3) := by decide +kernel
theorem dX11_plans_249 : decode cX11_plans 249 = .ok (.putfield 154, 3) := by decide +kernel
theorem dX11_plans_252 : decode cX11_plans 252 = .ok (.goto 49, 3) := by decide +kernel
theorem dX11_plans_255 : decode cX11_plans 255 = .ok (.aload_n 0, 1) := by decide +kernel
theorem dX11_plans_256 : decode cX11_plans 256 = .ok (.getfield 163, 3) := by decide +kernel
theorem dX11_plans_259 : decode cX11_plans 259 = .ok (.iconst 1, 1) := by decide +kernel
theorem dX11_plans_260 : decode cX11_plans 260 = .ok (.iadd, 1) := by decide +kernel
theorem dX11_plans_261 : decode cX11_plans 261 = .ok (.iload_n 2, 1) := by decide +kernel
theorem dX11_plans_262 : decode cX11_plans 262 = .ok (.if_icmp .eq 16, 3) := by decide +kernel
theorem dX11_plans_265 : decode cX11_plans 265 = .ok (.iload_n 1, 1) := by decide +kernel
theorem dX11_plans_266 : decode cX11_plans 266 = .ok (.aload_n 0, 1) := by decide +kernel
theorem dX11_plans_267 : decode cX11_plans 267 = .ok (.getfield 151, 3) := by decide +kernel
theorem dX11_plans_270 : decode cX11_plans 270 = .ok (.aload_n 0, 1) := by decide +kernel
theorem dX11_plans_271 : decode cX11_plans 271 = .ok (.getfield 154, 3) := by decide +kernel
theorem dX11_plans_274 : decode cX11_plans 274 = .ok (.iadd, 1) := by decide +kernel
theorem dX11_plans_275 : decode cX11_plans 275 = .ok (.if_icmp .lt 15, 3) := by decide +kernel
theorem dX11_plans_278 : decode cX11_plans 278 = .ok (.aload_n 0, 1) := by decide +kernel
theorem dX11_plans_279 : decode cX11_plans 279 = .ok (.getfield 151, 3) := by decide +kernel
theorem dX11_plans_282 : decode cX11_plans 282 = .ok (.aload_n 0, 1) := by decide +kernel
theorem dX11_plans_283 : decode cX11_plans 283 = .ok (.getfield 154, 3) := by decide +kernel
theorem dX11_plans_286 : decode cX11_plans 286 = .ok (.iadd, 1) := by decide +kernel
theorem dX11_plans_287 : decode cX11_plans 287 = .ok (.goto 4, 3) := by decide +kernel
theorem dX11_plans_290 : decode cX11_plans 290 = .ok (.iload_n 1, 1) := by decide +kernel
theorem dX11_plans_291 : decode cX11_plans 291 = .ok (.istore 4, 2) := by decide +kernel
theorem dX11_plans_293 : decode cX11_plans 293 = .ok (.aload_n 0, 1) := by decide +kernel
theorem dX11_plans_294 : decode cX11_plans 294 = .ok (.iload 5, 2) := by decide +kernel
theorem dX11_plans_296 : decode cX11_plans 296 = .ok (.iload 4, 2) := by decide +kernel
theorem dX11_plans_298 : decode cX11_plans 298 = .ok (.invokevirtual 166, 3) := by decide +kernel
theorem dX11_plans_301 : decode cX11_plans 301 = .ok (.iinc 3 1, 3) := by decide +kernel
theorem dX11_plans_304 : decode cX11_plans 304 = .ok (.goto (-248), 3) := by decide +kernel
theorem dX11_plans_307 : decode cX11_plans 307 = .ok (.iload 4, 2) := by decide +kernel
theorem dX11_plans_309 : decode cX11_plans 309 = .ok (.ireturn, 1) := by decide +kernel
theorem dX11_pays_0 : decode cX11_pays 0 = .ok (.iload_n 2, 1) := by decide +kernel
theorem dX11_pays_1 : decode cX11_pays 1 = .ok (.aload_n 0, 1) := by decide +kernel
theorem dX11_pays_2 : decode cX11_pays 2 = .ok (.getfield 154, 3) := by decide +kernel
theorem dX11_pays_5 : decode cX11_pays 5 = .ok (.if_icmp .ge 7, 3) := by decide +kernel
theorem dX11_pays_8 : decode cX11_pays 8 = .ok (.iload_n 2, 1) := by decide +kernel
theorem dX11_pays_9 : decode cX11_pays 9 = .ok (.goto 7, 3) := by decide +kernel
theorem dX11_pays_12 : decode cX11_pays 12 = .ok (.aload_n 0, 1) := by decide +kernel
theorem dX11_pays_13 : decode cX11_pays 13 = .ok (.getfield 154, 3) := by decide +kernel
theorem dX11_pays_16 : decode cX11_pays 16 = .ok (.istore_n 3, 1) := by decide +kernel
theorem dX11_pays_17 : decode cX11_pays 17 = .ok (.aload_n 0, 1) := by decide +kernel
theorem dX11_pays_18 : decode cX11_pays 18 = .ok (.dup, 1) := by decide +kernel
theorem dX11_pays_19 : decode cX11_pays 19 = .ok (.getfield 154, 3) := by decide +kernel
theorem dX11_pays_22 : decode cX11_pays 22 = .ok (.iload_n 3, 1) := by decide +kernel
theorem dX11_pays_23 : decode cX11_pays 23 = .ok (.isub, 1) := by decide +kernel
theorem dX11_pays_24 : decode cX11_pays 24 = .ok (.putfield 154, 3) := by decide +kernel
theorem dX11_pays_27 : decode cX11_pays 27 = .ok (.aload_n 0, 1) := by decide +kernel
theorem dX11_pays_28 : decode cX11_pays 28 = .ok (.dup, 1) := by decide +kernel
theorem dX11_pays_29 : decode cX11_pays 29 = .ok (.getfield 151, 3) := by decide +kernel
theorem dX11_pays_32 : decode cX11_pays 32 = .ok (.iload_n 2, 1) := by decide +kernel
theorem dX11_pays_33 : decode cX11_pays 33 = .ok (.iload_n 3, 1) := by decide +kernel
theorem dX11_pays_34 : decode cX11_pays 34 = .ok (.isub, 1) := by decide +kernel
theorem dX11_pays_35 : decode cX11_pays 35 = .ok (.isub, 1) := by decide +kernel
theorem dX11_pays_36 : decode cX11_pays 36 = .ok (.putfield 151, 3) := by decide +kernel
theorem dX11_pays_39 : decode cX11_pays 39 = .ok (.aload_n 0, 1) := by decide +kernel
theorem dX11_pays_40 : decode cX11_pays 40 = .ok (.getfield 26, 3) := by decide +kernel
theorem dX11_pays_43 : decode cX11_pays 43 = .ok (.iconst 5, 1) := by decide +kernel
theorem dX11_pays_44 : decode cX11_pays 44 = .ok (.aload_n 0, 1) := by decide +kernel
theorem dX11_pays_45 : decode cX11_pays 45 = .ok (.getfield 163, 3) := by decide +kernel
theorem dX11_pays_48 : decode cX11_pays 48 = .ok (.imul, 1) := by decide +kernel
theorem dX11_pays_49 : decode cX11_pays 49 = .ok (.iload_n 1, 1) := by decide +kernel
theorem dX11_pays_50 : decode cX11_pays 50 = .ok (.iastore, 1) := by decide +kernel
theorem dX11_pays_51 : decode cX11_pays 51 = .ok (.aload_n 0, 1) := by decide +kernel
theorem dX11_pays_52 : decode cX11_pays 52 = .ok (.getfield 26, 3) := by decide +kernel
theorem dX11_pays_55 : decode cX11_pays 55 = .ok (.iconst 5, 1) := by decide +kernel
theorem dX11_pays_56 : decode cX11_pays 56 = .ok (.aload_n 0, 1) := by decide +kernel
theorem dX11_pays_57 : decode cX11_pays 57 = .ok (.getfield 163, 3) := by decide +kernel
theorem dX11_pays_60 : decode cX11_pays 60 = .ok (.imul, 1) := by decide +kernel
theorem dX11_pays_61 : decode cX11_pays 61 = .ok (.iconst 1, 1) := by decide +kernel
theorem dX11_pays_62 : decode cX11_pays 62 = .ok (.iadd, 1) := by decide +kernel
theorem dX11_pays_63 : decode cX11_pays 63 = .ok (.iload_n 2, 1) := by decide +kernel
theorem dX11_pays_64 : decode cX11_pays 64 = .ok (.iastore, 1) := by decide +kernel
theorem dX11_pays_65 : decode cX11_pays 65 = .ok (.aload_n 0, 1) := by decide +kernel
theorem dX11_pays_66 : decode cX11_pays 66 = .ok (.getfield 26, 3) := by decide +kernel
theorem dX11_pays_69 : decode cX11_pays 69 = .ok (.iconst 5, 1) := by decide +kernel
theorem dX11_pays_70 : decode cX11_pays 70 = .ok (.aload_n 0, 1) := by decide +kernel
theorem dX11_pays_71 : decode cX11_pays 71 = .ok (.getfield 163, 3) := by decide +kernel
theorem dX11_pays_74 : decode cX11_pays 74 = .ok (.imul, 1) := by decide +kernel
theorem dX11_pays_75 : decode cX11_pays 75 = .ok (.iconst 2, 1) := by decide +kernel
theorem dX11_pays_76 : decode cX11_pays 76 = .ok (.iadd, 1) := by decide +kernel
theorem dX11_pays_77 : decode cX11_pays 77 = .ok (.iload_n 3, 1) := by decide +kernel
theorem dX11_pays_78 : decode cX11_pays 78 = .ok (.iastore, 1) := by decide +kernel
theorem dX11_pays_79 : decode cX11_pays 79 = .ok (.aload_n 0, 1) := by decide +kernel
theorem dX11_pays_80 : decode cX11_pays 80 = .ok (.getfield 26, 3) := by decide +kernel
theorem dX11_pays_83 : decode cX11_pays 83 = .ok (.iconst 5, 1) := by decide +kernel
theorem dX11_pays_84 : decode cX11_pays 84 = .ok (.aload_n 0, 1) := by decide +kernel
theorem dX11_pays_85 : decode cX11_pays 85 = .ok (.getfield 163, 3) := by decide +kernel
theorem dX11_pays_88 : decode cX11_pays 88 = .ok (.imul, 1) := by decide +kernel
theorem dX11_pays_89 : decode cX11_pays 89 = .ok (.iconst 3, 1) := by decide +kernel
theorem dX11_pays_90 : decode cX11_pays 90 = .ok (.iadd, 1) := by decide +kernel
theorem dX11_pays_91 : decode cX11_pays 91 = .ok (.iload_n 2, 1) := by decide +kernel
theorem dX11_pays_92 : decode cX11_pays 92 = .ok (.iload_n 3, 1) := by decide +kernel
theorem dX11_pays_93 : decode cX11_pays 93 = .ok (.isub, 1) := by decide +kernel
theorem dX11_pays_94 : decode cX11_pays 94 = .ok (.iastore, 1) := by decide +kernel
theorem dX11_pays_95 : decode cX11_pays 95 = .ok (.aload_n 0, 1) := by decide +kernel
theorem dX11_pays_96 : decode cX11_pays 96 = .ok (.getfield 26, 3) := by decide +kernel
theorem dX11_pays_99 : decode cX11_pays 99 = .ok (.iconst 5, 1) := by decide +kernel
theorem dX11_pays_100 : decode cX11_pays 100 = .ok (.aload_n 0, 1) := by decide +kernel
theorem dX11_pays_101 : decode cX11_pays 101 = .ok (.getfield 163, 3) := by decide +kernel
theorem dX11_pays_104 : decode cX11_pays 104 = .ok (.imul, 1) := by decide +kernel
theorem dX11_pays_105 : decode cX11_pays 105 = .ok (.iconst 4, 1) := by decide +kernel
theorem dX11_pays_106 : decode cX11_pays 106 = .ok (.iadd, 1) := by decide +kernel
theorem dX11_pays_107 : decode cX11_pays 107 = .ok (.aload_n 0, 1) := by decide +kernel
theorem dX11_pays_108 : decode cX11_pays 108 = .ok (.getfield 151, 3) := by decide +kernel
theorem dX11_pays_111 : decode cX11_pays 111 = .ok (.aload_n 0, 1) := by decide +kernel
theorem dX11_pays_112 : decode cX11_pays 112 = .ok (.getfield 154, 3) := by decide +kernel
theorem dX11_pays_115 : decode cX11_pays 115 = .ok (.iadd, 1) := by decide +kernel
theorem dX11_pays_116 : decode cX11_pays 116 = .ok (.iastore, 1) := by decide +kernel
theorem dX11_pays_117 : decode cX11_pays 117 = .ok (.aload_n 0, 1) := by decide +kernel
theorem dX11_pays_118 : decode cX11_pays 118 = .ok (.dup, 1) := by decide +kernel
theorem dX11_pays_119 : decode cX11_pays 119 = .ok (.getfield 163, 3) := by decide +kernel
theorem dX11_pays_122 : decode cX11_pays 122 = .ok (.iconst 1, 1) := by decide +kernel
theorem dX11_pays_123 : decode cX11_pays 123 = .ok (.iadd, 1) := by decide +kernel
theorem dX11_pays_124 : decode cX11_pays 124 = .ok (.putfield 163, 3) := by decide +kernel
theorem dX11_pays_127 : decode cX11_pays 127 = .ok (.return_, 1) := by decide +kernel
theorem dX11_least_0 : decode cX11_least 0 = .ok (.iconst 1, 1) := by decide +kernel
theorem dX11_least_1 : decode cX11_least 1 = .ok (.istore_n 2, 1) := by decide +kernel
theorem dX11_least_2 : decode cX11_least 2 = .ok (.aload_n 0, 1) := by decide +kernel
theorem dX11_least_3 : decode cX11_least 3 = .ok (.iload_n 2, 1) := by decide +kernel
theorem dX11_least_4 : decode cX11_least 4 = .ok (.iload_n 1, 1) := by decide +kernel
theorem dX11_least_5 : decode cX11_least 5 = .ok (.invokevirtual 169, 3) := by decide +kernel
theorem dX11_least_8 : decode cX11_least 8 = .ok (.iload_n 2, 1) := by decide +kernel
theorem dX11_least_9 : decode cX11_least 9 = .ok (.if_icmp .le 10, 3) := by decide +kernel
theorem dX11_least_12 : decode cX11_least 12 = .ok (.iload_n 2, 1) := by decide +kernel
theorem dX11_least_13 : decode cX11_least 13 = .ok (.iconst 2, 1) := by decide +kernel
theorem dX11_least_14 : decode cX11_least 14 = .ok (.imul, 1) := by decide +kernel
theorem dX11_least_15 : decode cX11_least 15 = .ok (.istore_n 2, 1) := by decide +kernel
theorem dX11_least_16 : decode cX11_least 16 = .ok (.goto (-14), 3) := by decide +kernel
theorem dX11_least_19 : decode cX11_least 19 = .ok (.iload_n 2, 1) := by decide +kernel
theorem dX11_least_20 : decode cX11_least 20 = .ok (.iconst 2, 1) := by decide +kernel
theorem dX11_least_21 : decode cX11_least 21 = .ok (.idiv, 1) := by decide +kernel
theorem dX11_least_22 : decode cX11_least 22 = .ok (.iconst 1, 1) := by decide +kernel
theorem dX11_least_23 : decode cX11_least 23 = .ok (.iadd, 1) := by decide +kernel
theorem dX11_least_24 : decode cX11_least 24 = .ok (.istore_n 3, 1) := by decide +kernel
theorem dX11_least_25 : decode cX11_least 25 = .ok (.iload_n 3, 1) := by decide +kernel
theorem dX11_least_26 : decode cX11_least 26 = .ok (.iload_n 2, 1) := by decide +kernel
theorem dX11_least_27 : decode cX11_least 27 = .ok (.if_icmp .ge 38, 3) := by decide +kernel
theorem dX11_least_30 : decode cX11_least 30 = .ok (.iload_n 3, 1) := by decide +kernel
theorem dX11_least_31 : decode cX11_least 31 = .ok (.iload_n 2, 1) := by decide +kernel
theorem dX11_least_32 : decode cX11_least 32 = .ok (.iload_n 3, 1) := by decide +kernel
theorem dX11_least_33 : decode cX11_least 33 = .ok (.isub, 1) := by decide +kernel
theorem dX11_least_34 : decode cX11_least 34 = .ok (.iconst 2, 1) := by decide +kernel
theorem dX11_least_35 : decode cX11_least 35 = .ok (.idiv, 1) := by decide +kernel
theorem dX11_least_36 : decode cX11_least 36 = .ok (.iadd, 1) := by decide +kernel
theorem dX11_least_37 : decode cX11_least 37 = .ok (.istore 4, 2) := by decide +kernel
theorem dX11_least_39 : decode cX11_least 39 = .ok (.aload_n 0, 1) := by decide +kernel
theorem dX11_least_40 : decode cX11_least 40 = .ok (.iload 4, 2) := by decide +kernel
theorem dX11_least_42 : decode cX11_least 42 = .ok (.iload_n 1, 1) := by decide +kernel
theorem dX11_least_43 : decode cX11_least 43 = .ok (.invokevirtual 169, 3) := by decide +kernel
theorem dX11_least_46 : decode cX11_least 46 = .ok (.iload 4, 2) := by decide +kernel
theorem dX11_least_48 : decode cX11_least 48 = .ok (.if_icmp .gt 9, 3) := by decide +kernel
theorem dX11_least_51 : decode cX11_least 51 = .ok (.iload 4, 2) := by decide +kernel
theorem dX11_least_53 : decode cX11_least 53 = .ok (.istore_n 2, 1) := by decide +kernel
theorem dX11_least_54 : decode cX11_least 54 = .ok (.goto 8, 3) := by decide +kernel
theorem dX11_least_57 : decode cX11_least 57 = .ok (.iload 4, 2) := by decide +kernel
theorem dX11_least_59 : decode cX11_least 59 = .ok (.iconst 1, 1) := by decide +kernel
theorem dX11_least_60 : decode cX11_least 60 = .ok (.iadd, 1) := by decide +kernel
theorem dX11_least_61 : decode cX11_least 61 = .ok (.istore_n 3, 1) := by decide +kernel
theorem dX11_least_62 : decode cX11_least 62 = .ok (.goto (-37), 3) := by decide +kernel
theorem dX11_least_65 : decode cX11_least 65 = .ok (.iload_n 2, 1) := by decide +kernel
theorem dX11_least_66 : decode cX11_least 66 = .ok (.ireturn, 1) := by decide +kernel
theorem dX11_plansNow_0 : decode cX11_plansNow 0 = .ok (.aload_n 0, 1) := by decide +kernel
theorem dX11_plansNow_1 : decode cX11_plansNow 1 = .ok (.iconst 0, 1) := by decide +kernel
theorem dX11_plansNow_2 : decode cX11_plansNow 2 = .ok (.putfield 163, 3) := by decide +kernel
theorem dX11_plansNow_5 : decode cX11_plansNow 5 = .ok (.aload_n 0, 1) := by decide +kernel
theorem dX11_plansNow_6 : decode cX11_plansNow 6 = .ok (.getfield 7, 3) := by decide +kernel
theorem dX11_plansNow_9 : decode cX11_plansNow 9 = .ok (.bipush 13, 2) := by decide +kernel
theorem dX11_plansNow_11 : decode cX11_plansNow 11 = .ok (.iaload, 1) := by decide +kernel
theorem dX11_plansNow_12 : decode cX11_plansNow 12 = .ok (.ifCond .le 24, 3) := by decide +kernel
theorem dX11_plansNow_15 : decode cX11_plansNow 15 = .ok (.aload_n 0, 1) := by decide +kernel
theorem dX11_plansNow_16 : decode cX11_plansNow 16 = .ok (.aload_n 0, 1) := by decide +kernel
theorem dX11_plansNow_17 : decode cX11_plansNow 17 = .ok (.getfield 7, 3) := by decide +kernel
theorem dX11_plansNow_20 : decode cX11_plansNow 20 = .ok (.bipush 12, 2) := by decide +kernel
theorem dX11_plansNow_22 : decode cX11_plansNow 22 = .ok (.iaload, 1) := by decide +kernel
theorem dX11_plansNow_23 : decode cX11_plansNow 23 = .ok (.aload_n 0, 1) := by decide +kernel
theorem dX11_plansNow_24 : decode cX11_plansNow 24 = .ok (.getfield 7, 3) := by decide +kernel
theorem dX11_plansNow_27 : decode cX11_plansNow 27 = .ok (.bipush 13, 2) := by decide +kernel
theorem dX11_plansNow_29 : decode cX11_plansNow 29 = .ok (.iaload, 1) := by decide +kernel
theorem dX11_plansNow_30 : decode cX11_plansNow 30 = .ok (.invokevirtual 169, 3) := by decide +kernel
theorem dX11_plansNow_33 : decode cX11_plansNow 33 = .ok (.goto 4, 3) := by decide +kernel
theorem dX11_plansNow_36 : decode cX11_plansNow 36 = .ok (.iconst 0, 1) := by decide +kernel
theorem dX11_plansNow_37 : decode cX11_plansNow 37 = .ok (.ireturn, 1) := by decide +kernel
theorem dX11_scheduleLength_0 : decode cX11_scheduleLength 0 = .ok (.aload_n 0, 1) := by decide +kernel
theorem dX11_scheduleLength_1 : decode cX11_scheduleLength 1 = .ok (.iconst 0, 1) := by decide +kernel
theorem dX11_scheduleLength_2 : decode cX11_scheduleLength 2 = .ok (.putfield 56, 3) := by decide +kernel
theorem dX11_scheduleLength_5 : decode cX11_scheduleLength 5 = .ok (.aload_n 0, 1) := by decide +kernel
theorem dX11_scheduleLength_6 : decode cX11_scheduleLength 6 = .ok (.invokevirtual 175, 3) := by decide +kernel
theorem dX11_scheduleLength_9 : decode cX11_scheduleLength 9 = .ok (.pop, 1) := by decide +kernel
theorem dX11_scheduleLength_10 : decode cX11_scheduleLength 10 = .ok (.aload_n 0, 1) := by decide +kernel
theorem dX11_scheduleLength_11 : decode cX11_scheduleLength 11 = .ok (.getfield 163, 3) := by decide +kernel
theorem dX11_scheduleLength_14 : decode cX11_scheduleLength 14 = .ok (.ireturn, 1) := by decide +kernel
theorem dX11_schedule_0 : decode cX11_schedule 0 = .ok (.aload_n 0, 1) := by decide +kernel
theorem dX11_schedule_1 : decode cX11_schedule 1 = .ok (.invokevirtual 175, 3) := by decide +kernel
theorem dX11_schedule_4 : decode cX11_schedule 4 = .ok (.pop, 1) := by decide +kernel
theorem dX11_schedule_5 : decode cX11_schedule 5 = .ok (.aload_n 0, 1) := by decide +kernel
theorem dX11_schedule_6 : decode cX11_schedule 6 = .ok (.iload_n 1, 1) := by decide +kernel
theorem dX11_schedule_7 : decode cX11_schedule 7 = .ok (.iconst 0, 1) := by decide +kernel
theorem dX11_schedule_8 : decode cX11_schedule 8 = .ok (.aload_n 0, 1) := by decide +kernel
theorem dX11_schedule_9 : decode cX11_schedule 9 = .ok (.getfield 163, 3) := by decide +kernel
theorem dX11_schedule_12 : decode cX11_schedule 12 = .ok (.iconst 1, 1) := by decide +kernel
theorem dX11_schedule_13 : decode cX11_schedule 13 = .ok (.isub, 1) := by decide +kernel
theorem dX11_schedule_14 : decode cX11_schedule 14 = .ok (.invokestatic 95, 3) := by decide +kernel
theorem dX11_schedule_17 : decode cX11_schedule 17 = .ok (.ifCond .eq 20, 3) := by decide +kernel
theorem dX11_schedule_20 : decode cX11_schedule 20 = .ok (.iload_n 2, 1) := by decide +kernel
theorem dX11_schedule_21 : decode cX11_schedule 21 = .ok (.iconst 0, 1) := by decide +kernel
theorem dX11_schedule_22 : decode cX11_schedule 22 = .ok (.iconst 4, 1) := by decide +kernel
theorem dX11_schedule_23 : decode cX11_schedule 23 = .ok (.invokestatic 95, 3) := by decide +kernel
theorem dX11_schedule_26 : decode cX11_schedule 26 = .ok (.ifCond .eq 7, 3) := by decide +kernel
theorem dX11_schedule_29 : decode cX11_schedule 29 = .ok (.iconst 0, 1) := by decide +kernel
theorem dX11_schedule_30 : decode cX11_schedule 30 = .ok (.goto 8, 3) := by decide +kernel
theorem dX11_schedule_33 : decode cX11_schedule 33 = .ok (.iconst 2, 1) := by decide +kernel
theorem dX11_schedule_34 : decode cX11_schedule 34 = .ok (.goto 4, 3) := by decide +kernel
theorem dX11_schedule_37 : decode cX11_schedule 37 = .ok (.iconst 1, 1) := by decide +kernel
theorem dX11_schedule_38 : decode cX11_schedule 38 = .ok (.putfield 56, 3) := by decide +kernel
theorem dX11_schedule_41 : decode cX11_schedule 41 = .ok (.aload_n 0, 1) := by decide +kernel
theorem dX11_schedule_42 : decode cX11_schedule 42 = .ok (.getfield 56, 3) := by decide +kernel
theorem dX11_schedule_45 : decode cX11_schedule 45 = .ok (.ifCond .le 7, 3) := by decide +kernel
theorem dX11_schedule_48 : decode cX11_schedule 48 = .ok (.iconst 0, 1) := by decide +kernel
theorem dX11_schedule_49 : decode cX11_schedule 49 = .ok (.goto 13, 3) := by decide +kernel
theorem dX11_schedule_52 : decode cX11_schedule 52 = .ok (.aload_n 0, 1) := by decide +kernel
theorem dX11_schedule_53 : decode cX11_schedule 53 = .ok (.getfield 26, 3) := by decide +kernel
theorem dX11_schedule_56 : decode cX11_schedule 56 = .ok (.iconst 5, 1) := by decide +kernel
theorem dX11_schedule_57 : decode cX11_schedule 57 = .ok (.iload_n 1, 1) := by decide +kernel
theorem dX11_schedule_58 : decode cX11_schedule 58 = .ok (.imul, 1) := by decide +kernel
theorem dX11_schedule_59 : decode cX11_schedule 59 = .ok (.iload_n 2, 1) := by decide +kernel
theorem dX11_schedule_60 : decode cX11_schedule 60 = .ok (.iadd, 1) := by decide +kernel
theorem dX11_schedule_61 : decode cX11_schedule 61 = .ok (.iaload, 1) := by decide +kernel
theorem dX11_schedule_62 : decode cX11_schedule 62 = .ok (.ireturn, 1) := by decide +kernel
theorem dX11_installmentFor_0 : decode cX11_installmentFor 0 = .ok (.aload_n 0, 1) := by decide +kernel
theorem dX11_installmentFor_1 : decode cX11_installmentFor 1 = .ok (.iload_n 1, 1) := by decide +kernel
theorem dX11_installmentFor_2 : decode cX11_installmentFor 2 = .ok (.iconst 1, 1) := by decide +kernel
theorem dX11_installmentFor_3 : decode cX11_installmentFor 3 = .ok (.bipush 60, 2) := by decide +kernel
theorem dX11_installmentFor_5 : decode cX11_installmentFor 5 = .ok (.invokestatic 95, 3) := by decide +kernel
theorem dX11_installmentFor_8 : decode cX11_installmentFor 8 = .ok (.ifCond .eq 21, 3) := by decide +kernel
theorem dX11_installmentFor_11 : decode cX11_installmentFor 11 = .ok (.aload_n 0, 1) := by decide +kernel
theorem dX11_installmentFor_12 : decode cX11_installmentFor 12 = .ok (.getfield 7, 3) := by decide +kernel
theorem dX11_installmentFor_15 : decode cX11_installmentFor 15 = .ok (.bipush 13, 2) := by decide +kernel
theorem dX11_installmentFor_17 : decode cX11_installmentFor 17 = .ok (.iaload, 1) := by decide +kernel
theorem dX11_installmentFor_18 : decode cX11_installmentFor 18 = .ok (.ifCond .ne 7, 3) := by decide +kernel
theorem dX11_installmentFor_21 : decode cX11_installmentFor 21 = .ok (.iconst 2, 1) := by decide +kernel
theorem dX11_installmentFor_22 : decode cX11_installmentFor 22 = .ok (.goto 8, 3) := by decide +kernel
theorem dX11_installmentFor_25 : decode cX11_installmentFor 25 = .ok (.iconst 0, 1) := by decide +kernel
theorem dX11_installmentFor_26 : decode cX11_installmentFor 26 = .ok (.goto 4, 3) := by decide +kernel
theorem dX11_installmentFor_29 : decode cX11_installmentFor 29 = .ok (.iconst 1, 1) := by decide +kernel
theorem dX11_installmentFor_30 : decode cX11_installmentFor 30 = .ok (.putfield 56, 3) := by decide +kernel
theorem dX11_installmentFor_33 : decode cX11_installmentFor 33 = .ok (.aload_n 0, 1) := by decide +kernel
theorem dX11_installmentFor_34 : decode cX11_installmentFor 34 = .ok (.getfield 56, 3) := by decide +kernel
theorem dX11_installmentFor_37 : decode cX11_installmentFor 37 = .ok (.ifCond .le 7, 3) := by decide +kernel
theorem dX11_installmentFor_40 : decode cX11_installmentFor 40 = .ok (.iconst 0, 1) := by decide +kernel
theorem dX11_installmentFor_41 : decode cX11_installmentFor 41 = .ok (.goto 8, 3) := by decide +kernel
theorem dX11_installmentFor_44 : decode cX11_installmentFor 44 = .ok (.aload_n 0, 1) := by decide +kernel
theorem dX11_installmentFor_45 : decode cX11_installmentFor 45 = .ok (.iload_n 1, 1) := by decide +kernel
theorem dX11_installmentFor_46 : decode cX11_installmentFor 46 = .ok (.invokevirtual 172, 3) := by decide +kernel
theorem dX11_installmentFor_49 : decode cX11_installmentFor 49 = .ok (.ireturn, 1) := by decide +kernel
theorem dX11_begin_0 : decode cX11_begin 0 = .ok (.aload_n 0, 1) := by decide +kernel
theorem dX11_begin_1 : decode cX11_begin 1 = .ok (.iload_n 1, 1) := by decide +kernel
theorem dX11_begin_2 : decode cX11_begin 2 = .ok (.iconst 1, 1) := by decide +kernel
theorem dX11_begin_3 : decode cX11_begin 3 = .ok (.ldc 178, 2) := by decide +kernel
theorem dX11_begin_5 : decode cX11_begin 5 = .ok (.invokestatic 95, 3) := by decide +kernel
theorem dX11_begin_8 : decode cX11_begin 8 = .ok (.ifCond .eq 38, 3) := by decide +kernel
theorem dX11_begin_11 : decode cX11_begin 11 = .ok (.iload_n 2, 1) := by decide +kernel
theorem dX11_begin_12 : decode cX11_begin 12 = .ok (.iconst 0, 1) := by decide +kernel
theorem dX11_begin_13 : decode cX11_begin 13 = .ok (.sipush 2000, 3) := by decide +kernel
theorem dX11_begin_16 : decode cX11_begin 16 = .ok (.invokestatic 95, 3) := by decide +kernel
theorem dX11_begin_19 : decode cX11_begin 19 = .ok (.ifCond .eq 27, 3) := by decide +kernel
theorem dX11_begin_22 : decode cX11_begin 22 = .ok (.iload_n 3, 1) := by decide +kernel
theorem dX11_begin_23 : decode cX11_begin 23 = .ok (.iconst 1, 1) := by decide +kernel
theorem dX11_begin_24 : decode cX11_begin 24 = .ok (.bipush 60, 2) := by decide +kernel
theorem dX11_begin_26 : decode cX11_begin 26 = .ok (.invokestatic 95, 3) := by decide +kernel
theorem dX11_begin_29 : decode cX11_begin 29 = .ok (.ifCond .eq 17, 3) := by decide +kernel
theorem dX11_begin_32 : decode cX11_begin 32 = .ok (.iload 4, 2) := by decide +kernel
theorem dX11_begin_34 : decode cX11_begin 34 = .ok (.iconst 0, 1) := by decide +kernel
theorem dX11_begin_35 : decode cX11_begin 35 = .ok (.iconst 2, 1) := by decide +kernel
theorem dX11_begin_36 : decode cX11_begin 36 = .ok (.invokestatic 95, 3) := by decide +kernel
theorem dX11_begin_39 : decode cX11_begin 39 = .ok (.ifCond .eq 7, 3) := by decide +kernel
theorem dX11_begin_42 : decode cX11_begin 42 = .ok (.iconst 0, 1) := by decide +kernel
theorem dX11_begin_43 : decode cX11_begin 43 = .ok (.goto 4, 3) := by decide +kernel
theorem dX11_begin_46 : decode cX11_begin 46 = .ok (.iconst 1, 1) := by decide +kernel
theorem dX11_begin_47 : decode cX11_begin 47 = .ok (.putfield 56, 3) := by decide +kernel
theorem dX11_begin_50 : decode cX11_begin 50 = .ok (.aload_n 0, 1) := by decide +kernel
theorem dX11_begin_51 : decode cX11_begin 51 = .ok (.getfield 56, 3) := by decide +kernel
theorem dX11_begin_54 : decode cX11_begin 54 = .ok (.ifCond .le 5, 3) := by decide +kernel
theorem dX11_begin_57 : decode cX11_begin 57 = .ok (.iconst 0, 1) := by decide +kernel
theorem dX11_begin_58 : decode cX11_begin 58 = .ok (.ireturn, 1) := by decide +kernel
theorem dX11_begin_59 : decode cX11_begin 59 = .ok (.aload_n 0, 1) := by decide +kernel
theorem dX11_begin_60 : decode cX11_begin 60 = .ok (.invokevirtual 145, 3) := by decide +kernel
theorem dX11_begin_63 : decode cX11_begin 63 = .ok (.aload_n 0, 1) := by decide +kernel
theorem dX11_begin_64 : decode cX11_begin 64 = .ok (.getfield 7, 3) := by decide +kernel
theorem dX11_begin_67 : decode cX11_begin 67 = .ok (.iconst 1, 1) := by decide +kernel
