/-! the law: its small methods -/
theorem d_Lw_cell_0 : decode b_Lw_cell 0 = .ok (.iload_n 1, 1) := by decide +kernel
theorem d_Lw_cell_1 : decode b_Lw_cell 1 = .ok (.aload_n 0, 1) := by decide +kernel
theorem d_Lw_cell_2 : decode b_Lw_cell 2 = .ok (.arraylength, 1) := by decide +kernel
theorem d_Lw_cell_3 : decode b_Lw_cell 3 = .ok (.if_icmp .ge 9, 3) := by decide +kernel
theorem d_Lw_cell_6 : decode b_Lw_cell 6 = .ok (.aload_n 0, 1) := by decide +kernel
theorem d_Lw_cell_7 : decode b_Lw_cell 7 = .ok (.iload_n 1, 1) := by decide +kernel
theorem d_Lw_cell_8 : decode b_Lw_cell 8 = .ok (.iaload, 1) := by decide +kernel
theorem d_Lw_cell_9 : decode b_Lw_cell 9 = .ok (.goto 4, 3) := by decide +kernel
theorem d_Lw_cell_12 : decode b_Lw_cell 12 = .ok (.iconst 0, 1) := by decide +kernel
theorem d_Lw_cell_13 : decode b_Lw_cell 13 = .ok (.ireturn, 1) := by decide +kernel
theorem d_Lw_submit_0 : decode b_Lw_submit 0 = .ok (.aload 6, 2) := by decide +kernel
theorem d_Lw_submit_2 : decode b_Lw_submit 2 = .ok (.iconst 0, 1) := by decide +kernel
theorem d_Lw_submit_3 : decode b_Lw_submit 3 = .ok (.aload_n 0, 1) := by decide +kernel
theorem d_Lw_submit_4 : decode b_Lw_submit 4 = .ok (.iload_n 1, 1) := by decide +kernel
theorem d_Lw_submit_5 : decode b_Lw_submit 5 = .ok (.iload_n 2, 1) := by decide +kernel
theorem d_Lw_submit_6 : decode b_Lw_submit 6 = .ok (.iload_n 3, 1) := by decide +kernel
theorem d_Lw_submit_7 : decode b_Lw_submit 7 = .ok (.iload 4, 2) := by decide +kernel
theorem d_Lw_submit_9 : decode b_Lw_submit 9 = .ok (.iload 5, 2) := by decide +kernel
theorem d_Lw_submit_11 : decode b_Lw_submit 11 = .ok (.invokevirtual 7, 3) := by decide +kernel
theorem d_Lw_submit_14 : decode b_Lw_submit 14 = .ok (.i2l, 1) := by decide +kernel
theorem d_Lw_submit_15 : decode b_Lw_submit 15 = .ok (.lastore, 1) := by decide +kernel
theorem d_Lw_submit_16 : decode b_Lw_submit 16 = .ok (.goto 15, 3) := by decide +kernel
theorem d_Lw_submit_19 : decode b_Lw_submit 19 = .ok (.astore 7, 2) := by decide +kernel
theorem d_Lw_submit_21 : decode b_Lw_submit 21 = .ok (.iconst 1, 1) := by decide +kernel
theorem d_Lw_submit_22 : decode b_Lw_submit 22 = .ok (.ireturn, 1) := by decide +kernel
theorem d_Lw_submit_23 : decode b_Lw_submit 23 = .ok (.astore 7, 2) := by decide +kernel
theorem d_Lw_submit_25 : decode b_Lw_submit 25 = .ok (.iconst 2, 1) := by decide +kernel
theorem d_Lw_submit_26 : decode b_Lw_submit 26 = .ok (.ireturn, 1) := by decide +kernel
theorem d_Lw_submit_27 : decode b_Lw_submit 27 = .ok (.astore 7, 2) := by decide +kernel
theorem d_Lw_submit_29 : decode b_Lw_submit 29 = .ok (.iconst 3, 1) := by decide +kernel
theorem d_Lw_submit_30 : decode b_Lw_submit 30 = .ok (.ireturn, 1) := by decide +kernel
theorem d_Lw_submit_31 : decode b_Lw_submit 31 = .ok (.iconst 0, 1) := by decide +kernel
theorem d_Lw_submit_32 : decode b_Lw_submit 32 = .ok (.ireturn, 1) := by decide +kernel
theorem d_Lw_revoke_0 : decode b_Lw_revoke 0 = .ok (.aload_n 3, 1) := by decide +kernel
theorem d_Lw_revoke_1 : decode b_Lw_revoke 1 = .ok (.iconst 0, 1) := by decide +kernel
theorem d_Lw_revoke_2 : decode b_Lw_revoke 2 = .ok (.aload_n 0, 1) := by decide +kernel
theorem d_Lw_revoke_3 : decode b_Lw_revoke 3 = .ok (.iload_n 1, 1) := by decide +kernel
theorem d_Lw_revoke_4 : decode b_Lw_revoke 4 = .ok (.iload_n 2, 1) := by decide +kernel
theorem d_Lw_revoke_5 : decode b_Lw_revoke 5 = .ok (.invokevirtual 19, 3) := by decide +kernel
theorem d_Lw_revoke_8 : decode b_Lw_revoke 8 = .ok (.ifCond .eq 7, 3) := by decide +kernel
theorem d_Lw_revoke_11 : decode b_Lw_revoke 11 = .ok (.lconst 1, 1) := by decide +kernel
theorem d_Lw_revoke_12 : decode b_Lw_revoke 12 = .ok (.goto 4, 3) := by decide +kernel
theorem d_Lw_revoke_15 : decode b_Lw_revoke 15 = .ok (.lconst 0, 1) := by decide +kernel
theorem d_Lw_revoke_16 : decode b_Lw_revoke 16 = .ok (.lastore, 1) := by decide +kernel
theorem d_Lw_revoke_17 : decode b_Lw_revoke 17 = .ok (.goto 15, 3) := by decide +kernel
theorem d_Lw_revoke_20 : decode b_Lw_revoke 20 = .ok (.astore 4, 2) := by decide +kernel
theorem d_Lw_revoke_22 : decode b_Lw_revoke 22 = .ok (.iconst 1, 1) := by decide +kernel
theorem d_Lw_revoke_23 : decode b_Lw_revoke 23 = .ok (.ireturn, 1) := by decide +kernel
theorem d_Lw_revoke_24 : decode b_Lw_revoke 24 = .ok (.astore 4, 2) := by decide +kernel
theorem d_Lw_revoke_26 : decode b_Lw_revoke 26 = .ok (.iconst 2, 1) := by decide +kernel
theorem d_Lw_revoke_27 : decode b_Lw_revoke 27 = .ok (.ireturn, 1) := by decide +kernel
theorem d_Lw_revoke_28 : decode b_Lw_revoke 28 = .ok (.astore 4, 2) := by decide +kernel
theorem d_Lw_revoke_30 : decode b_Lw_revoke 30 = .ok (.iconst 3, 1) := by decide +kernel
theorem d_Lw_revoke_31 : decode b_Lw_revoke 31 = .ok (.ireturn, 1) := by decide +kernel
theorem d_Lw_revoke_32 : decode b_Lw_revoke 32 = .ok (.iconst 0, 1) := by decide +kernel
theorem d_Lw_revoke_33 : decode b_Lw_revoke 33 = .ok (.ireturn, 1) := by decide +kernel
theorem d_Lw_request_0 : decode b_Lw_request 0 = .ok (.aload 6, 2) := by decide +kernel
theorem d_Lw_request_2 : decode b_Lw_request 2 = .ok (.iconst 0, 1) := by decide +kernel
theorem d_Lw_request_3 : decode b_Lw_request 3 = .ok (.aload_n 0, 1) := by decide +kernel
theorem d_Lw_request_4 : decode b_Lw_request 4 = .ok (.iload_n 1, 1) := by decide +kernel
theorem d_Lw_request_5 : decode b_Lw_request 5 = .ok (.iload_n 2, 1) := by decide +kernel
theorem d_Lw_request_6 : decode b_Lw_request 6 = .ok (.iload_n 3, 1) := by decide +kernel
theorem d_Lw_request_7 : decode b_Lw_request 7 = .ok (.iload 4, 2) := by decide +kernel
theorem d_Lw_request_9 : decode b_Lw_request 9 = .ok (.iload 5, 2) := by decide +kernel
theorem d_Lw_request_11 : decode b_Lw_request 11 = .ok (.invokevirtual 25, 3) := by decide +kernel
theorem d_Lw_request_14 : decode b_Lw_request 14 = .ok (.i2l, 1) := by decide +kernel
theorem d_Lw_request_15 : decode b_Lw_request 15 = .ok (.lastore, 1) := by decide +kernel
theorem d_Lw_request_16 : decode b_Lw_request 16 = .ok (.goto 19, 3) := by decide +kernel
theorem d_Lw_request_19 : decode b_Lw_request 19 = .ok (.astore 7, 2) := by decide +kernel
theorem d_Lw_request_21 : decode b_Lw_request 21 = .ok (.iconst 1, 1) := by decide +kernel
theorem d_Lw_request_22 : decode b_Lw_request 22 = .ok (.ireturn, 1) := by decide +kernel
theorem d_Lw_request_23 : decode b_Lw_request 23 = .ok (.astore 7, 2) := by decide +kernel
theorem d_Lw_request_25 : decode b_Lw_request 25 = .ok (.iconst 2, 1) := by decide +kernel
theorem d_Lw_request_26 : decode b_Lw_request 26 = .ok (.ireturn, 1) := by decide +kernel
theorem d_Lw_request_27 : decode b_Lw_request 27 = .ok (.astore 7, 2) := by decide +kernel
theorem d_Lw_request_29 : decode b_Lw_request 29 = .ok (.iconst 3, 1) := by decide +kernel
theorem d_Lw_request_30 : decode b_Lw_request 30 = .ok (.ireturn, 1) := by decide +kernel
theorem d_Lw_request_31 : decode b_Lw_request 31 = .ok (.astore 7, 2) := by decide +kernel
theorem d_Lw_request_33 : decode b_Lw_request 33 = .ok (.iconst 4, 1) := by decide +kernel
theorem d_Lw_request_34 : decode b_Lw_request 34 = .ok (.ireturn, 1) := by decide +kernel
theorem d_Lw_request_35 : decode b_Lw_request 35 = .ok (.iconst 0, 1) := by decide +kernel
theorem d_Lw_request_36 : decode b_Lw_request 36 = .ok (.ireturn, 1) := by decide +kernel
