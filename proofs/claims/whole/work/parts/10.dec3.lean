theorem d_Ga_init_0 : decode b_Ga_init 0 = .ok (.aload_n 0, 1) := by decide +kernel
theorem d_Ga_init_1 : decode b_Ga_init 1 = .ok (.invokespecial 1, 3) := by decide +kernel
theorem d_Ga_init_4 : decode b_Ga_init 4 = .ok (.aload_n 0, 1) := by decide +kernel
theorem d_Ga_init_5 : decode b_Ga_init 5 = .ok (.iconst 4, 1) := by decide +kernel
theorem d_Ga_init_6 : decode b_Ga_init 6 = .ok (.newarray .int, 2) := by decide +kernel
theorem d_Ga_init_8 : decode b_Ga_init 8 = .ok (.putfield 9, 3) := by decide +kernel
theorem d_Ga_init_11 : decode b_Ga_init 11 = .ok (.aload_n 0, 1) := by decide +kernel
theorem d_Ga_init_12 : decode b_Ga_init 12 = .ok (.new 15, 3) := by decide +kernel
theorem d_Ga_init_15 : decode b_Ga_init 15 = .ok (.dup, 1) := by decide +kernel
theorem d_Ga_init_16 : decode b_Ga_init 16 = .ok (.invokespecial 17, 3) := by decide +kernel
theorem d_Ga_init_19 : decode b_Ga_init 19 = .ok (.putfield 18, 3) := by decide +kernel
theorem d_Ga_init_22 : decode b_Ga_init 22 = .ok (.aload_n 0, 1) := by decide +kernel
theorem d_Ga_init_23 : decode b_Ga_init 23 = .ok (.new 22, 3) := by decide +kernel
theorem d_Ga_init_26 : decode b_Ga_init 26 = .ok (.dup, 1) := by decide +kernel
theorem d_Ga_init_27 : decode b_Ga_init 27 = .ok (.invokespecial 24, 3) := by decide +kernel
theorem d_Ga_init_30 : decode b_Ga_init 30 = .ok (.putfield 25, 3) := by decide +kernel
theorem d_Ga_init_33 : decode b_Ga_init 33 = .ok (.aload_n 0, 1) := by decide +kernel
theorem d_Ga_init_34 : decode b_Ga_init 34 = .ok (.new 29, 3) := by decide +kernel
theorem d_Ga_init_37 : decode b_Ga_init 37 = .ok (.dup, 1) := by decide +kernel
theorem d_Ga_init_38 : decode b_Ga_init 38 = .ok (.aload_n 0, 1) := by decide +kernel
theorem d_Ga_init_39 : decode b_Ga_init 39 = .ok (.getfield 18, 3) := by decide +kernel
theorem d_Ga_init_42 : decode b_Ga_init 42 = .ok (.invokespecial 31, 3) := by decide +kernel
theorem d_Ga_init_45 : decode b_Ga_init 45 = .ok (.putfield 34, 3) := by decide +kernel
theorem d_Ga_init_48 : decode b_Ga_init 48 = .ok (.aload_n 0, 1) := by decide +kernel
theorem d_Ga_init_49 : decode b_Ga_init 49 = .ok (.new 38, 3) := by decide +kernel
theorem d_Ga_init_52 : decode b_Ga_init 52 = .ok (.dup, 1) := by decide +kernel
theorem d_Ga_init_53 : decode b_Ga_init 53 = .ok (.aload_n 0, 1) := by decide +kernel
theorem d_Ga_init_54 : decode b_Ga_init 54 = .ok (.getfield 18, 3) := by decide +kernel
theorem d_Ga_init_57 : decode b_Ga_init 57 = .ok (.invokespecial 40, 3) := by decide +kernel
theorem d_Ga_init_60 : decode b_Ga_init 60 = .ok (.putfield 41, 3) := by decide +kernel
theorem d_Ga_init_63 : decode b_Ga_init 63 = .ok (.aload_n 0, 1) := by decide +kernel
theorem d_Ga_init_64 : decode b_Ga_init 64 = .ok (.new 45, 3) := by decide +kernel
theorem d_Ga_init_67 : decode b_Ga_init 67 = .ok (.dup, 1) := by decide +kernel
theorem d_Ga_init_68 : decode b_Ga_init 68 = .ok (.invokespecial 47, 3) := by decide +kernel
theorem d_Ga_init_71 : decode b_Ga_init 71 = .ok (.putfield 48, 3) := by decide +kernel
theorem d_Ga_init_74 : decode b_Ga_init 74 = .ok (.aload_n 0, 1) := by decide +kernel
theorem d_Ga_init_75 : decode b_Ga_init 75 = .ok (.new 52, 3) := by decide +kernel
theorem d_Ga_init_78 : decode b_Ga_init 78 = .ok (.dup, 1) := by decide +kernel
theorem d_Ga_init_79 : decode b_Ga_init 79 = .ok (.invokespecial 54, 3) := by decide +kernel
theorem d_Ga_init_82 : decode b_Ga_init 82 = .ok (.putfield 55, 3) := by decide +kernel
theorem d_Ga_init_85 : decode b_Ga_init 85 = .ok (.aload_n 0, 1) := by decide +kernel
theorem d_Ga_init_86 : decode b_Ga_init 86 = .ok (.bipush 6, 2) := by decide +kernel
theorem d_Ga_init_88 : decode b_Ga_init 88 = .ok (.newarray .int, 2) := by decide +kernel
theorem d_Ga_init_90 : decode b_Ga_init 90 = .ok (.putfield 59, 3) := by decide +kernel
theorem d_Ga_init_93 : decode b_Ga_init 93 = .ok (.aload_n 0, 1) := by decide +kernel
theorem d_Ga_init_94 : decode b_Ga_init 94 = .ok (.bipush 6, 2) := by decide +kernel
theorem d_Ga_init_96 : decode b_Ga_init 96 = .ok (.newarray .int, 2) := by decide +kernel
theorem d_Ga_init_98 : decode b_Ga_init 98 = .ok (.putfield 62, 3) := by decide +kernel
theorem d_Ga_init_101 : decode b_Ga_init 101 = .ok (.aload_n 0, 1) := by decide +kernel
theorem d_Ga_init_102 : decode b_Ga_init 102 = .ok (.iload_n 1, 1) := by decide +kernel
theorem d_Ga_init_103 : decode b_Ga_init 103 = .ok (.putfield 65, 3) := by decide +kernel
theorem d_Ga_init_106 : decode b_Ga_init 106 = .ok (.aload_n 0, 1) := by decide +kernel
theorem d_Ga_init_107 : decode b_Ga_init 107 = .ok (.getfield 59, 3) := by decide +kernel
theorem d_Ga_init_110 : decode b_Ga_init 110 = .ok (.iconst (-1), 1) := by decide +kernel
theorem d_Ga_init_111 : decode b_Ga_init 111 = .ok (.invokestatic 69, 3) := by decide +kernel
theorem d_Ga_init_114 : decode b_Ga_init 114 = .ok (.return_, 1) := by decide +kernel
theorem d_Ga_seal_0 : decode b_Ga_seal 0 = .ok (.iconst 4, 1) := by decide +kernel
theorem d_Ga_seal_1 : decode b_Ga_seal 1 = .ok (.newarray .int, 2) := by decide +kernel
theorem d_Ga_seal_3 : decode b_Ga_seal 3 = .ok (.dup, 1) := by decide +kernel
theorem d_Ga_seal_4 : decode b_Ga_seal 4 = .ok (.iconst 0, 1) := by decide +kernel
theorem d_Ga_seal_5 : decode b_Ga_seal 5 = .ok (.iload_n 3, 1) := by decide +kernel
theorem d_Ga_seal_6 : decode b_Ga_seal 6 = .ok (.iastore, 1) := by decide +kernel
theorem d_Ga_seal_7 : decode b_Ga_seal 7 = .ok (.dup, 1) := by decide +kernel
theorem d_Ga_seal_8 : decode b_Ga_seal 8 = .ok (.iconst 1, 1) := by decide +kernel
theorem d_Ga_seal_9 : decode b_Ga_seal 9 = .ok (.iload 4, 2) := by decide +kernel
theorem d_Ga_seal_11 : decode b_Ga_seal 11 = .ok (.iastore, 1) := by decide +kernel
theorem d_Ga_seal_12 : decode b_Ga_seal 12 = .ok (.dup, 1) := by decide +kernel
theorem d_Ga_seal_13 : decode b_Ga_seal 13 = .ok (.iconst 2, 1) := by decide +kernel
theorem d_Ga_seal_14 : decode b_Ga_seal 14 = .ok (.iload 5, 2) := by decide +kernel
theorem d_Ga_seal_16 : decode b_Ga_seal 16 = .ok (.iastore, 1) := by decide +kernel
theorem d_Ga_seal_17 : decode b_Ga_seal 17 = .ok (.dup, 1) := by decide +kernel
theorem d_Ga_seal_18 : decode b_Ga_seal 18 = .ok (.iconst 3, 1) := by decide +kernel
theorem d_Ga_seal_19 : decode b_Ga_seal 19 = .ok (.iload 6, 2) := by decide +kernel
theorem d_Ga_seal_21 : decode b_Ga_seal 21 = .ok (.iastore, 1) := by decide +kernel
theorem d_Ga_seal_22 : decode b_Ga_seal 22 = .ok (.astore 9, 2) := by decide +kernel
theorem d_Ga_seal_24 : decode b_Ga_seal 24 = .ok (.aload_n 0, 1) := by decide +kernel
theorem d_Ga_seal_25 : decode b_Ga_seal 25 = .ok (.new 7, 3) := by decide +kernel
theorem d_Ga_seal_28 : decode b_Ga_seal 28 = .ok (.dup, 1) := by decide +kernel
theorem d_Ga_seal_29 : decode b_Ga_seal 29 = .ok (.iload_n 1, 1) := by decide +kernel
theorem d_Ga_seal_30 : decode b_Ga_seal 30 = .ok (.iload_n 2, 1) := by decide +kernel
theorem d_Ga_seal_31 : decode b_Ga_seal 31 = .ok (.aload 9, 2) := by decide +kernel
theorem d_Ga_seal_33 : decode b_Ga_seal 33 = .ok (.iload 7, 2) := by decide +kernel
theorem d_Ga_seal_35 : decode b_Ga_seal 35 = .ok (.iload 8, 2) := by decide +kernel
theorem d_Ga_seal_37 : decode b_Ga_seal 37 = .ok (.invokespecial 75, 3) := by decide +kernel
theorem d_Ga_seal_40 : decode b_Ga_seal 40 = .ok (.invokevirtual 78, 3) := by decide +kernel
theorem d_Ga_seal_43 : decode b_Ga_seal 43 = .ok (.ireturn, 1) := by decide +kernel
theorem d_Ga_submit_0 : decode b_Ga_submit 0 = .ok (.new 7, 3) := by decide +kernel
theorem d_Ga_submit_3 : decode b_Ga_submit 3 = .ok (.dup, 1) := by decide +kernel
theorem d_Ga_submit_4 : decode b_Ga_submit 4 = .ok (.iload_n 1, 1) := by decide +kernel
theorem d_Ga_submit_5 : decode b_Ga_submit 5 = .ok (.iload_n 2, 1) := by decide +kernel
theorem d_Ga_submit_6 : decode b_Ga_submit 6 = .ok (.aload_n 0, 1) := by decide +kernel
theorem d_Ga_submit_7 : decode b_Ga_submit 7 = .ok (.getfield 9, 3) := by decide +kernel
theorem d_Ga_submit_10 : decode b_Ga_submit 10 = .ok (.iload_n 3, 1) := by decide +kernel
theorem d_Ga_submit_11 : decode b_Ga_submit 11 = .ok (.iload 4, 2) := by decide +kernel
theorem d_Ga_submit_13 : decode b_Ga_submit 13 = .ok (.invokespecial 75, 3) := by decide +kernel
theorem d_Ga_submit_16 : decode b_Ga_submit 16 = .ok (.astore 6, 2) := by decide +kernel
theorem d_Ga_submit_18 : decode b_Ga_submit 18 = .ok (.aload 6, 2) := by decide +kernel
theorem d_Ga_submit_20 : decode b_Ga_submit 20 = .ok (.invokevirtual 82, 3) := by decide +kernel
theorem d_Ga_submit_23 : decode b_Ga_submit 23 = .ok (.ifCond .ne 13, 3) := by decide +kernel
theorem d_Ga_submit_26 : decode b_Ga_submit 26 = .ok (.new 86, 3) := by decide +kernel
theorem d_Ga_submit_29 : decode b_Ga_submit 29 = .ok (.dup, 1) := by decide +kernel
theorem d_Ga_submit_30 : decode b_Ga_submit 30 = .ok (.ldc 88, 2) := by decide +kernel
theorem d_Ga_submit_32 : decode b_Ga_submit 32 = .ok (.invokespecial 90, 3) := by decide +kernel
theorem d_Ga_submit_35 : decode b_Ga_submit 35 = .ok (.athrow, 1) := by decide +kernel
theorem d_Ga_submit_36 : decode b_Ga_submit 36 = .ok (.aload_n 0, 1) := by decide +kernel
theorem d_Ga_submit_37 : decode b_Ga_submit 37 = .ok (.aload 6, 2) := by decide +kernel
theorem d_Ga_submit_39 : decode b_Ga_submit 39 = .ok (.invokevirtual 78, 3) := by decide +kernel
theorem d_Ga_submit_42 : decode b_Ga_submit 42 = .ok (.iload 5, 2) := by decide +kernel
theorem d_Ga_submit_44 : decode b_Ga_submit 44 = .ok (.if_icmp .eq 13, 3) := by decide +kernel
theorem d_Ga_submit_47 : decode b_Ga_submit 47 = .ok (.new 93, 3) := by decide +kernel
theorem d_Ga_submit_50 : decode b_Ga_submit 50 = .ok (.dup, 1) := by decide +kernel
theorem d_Ga_submit_51 : decode b_Ga_submit 51 = .ok (.ldc 95, 2) := by decide +kernel
theorem d_Ga_submit_53 : decode b_Ga_submit 53 = .ok (.invokespecial 97, 3) := by decide +kernel
theorem d_Ga_submit_56 : decode b_Ga_submit 56 = .ok (.athrow, 1) := by decide +kernel
theorem d_Ga_submit_57 : decode b_Ga_submit 57 = .ok (.aload_n 0, 1) := by decide +kernel
theorem d_Ga_submit_58 : decode b_Ga_submit 58 = .ok (.getfield 18, 3) := by decide +kernel
theorem d_Ga_submit_61 : decode b_Ga_submit 61 = .ok (.invokevirtual 98, 3) := by decide +kernel
theorem d_Ga_submit_64 : decode b_Ga_submit 64 = .ok (.bipush 24, 2) := by decide +kernel
theorem d_Ga_submit_66 : decode b_Ga_submit 66 = .ok (.if_icmp .lt 13, 3) := by decide +kernel
theorem d_Ga_submit_69 : decode b_Ga_submit 69 = .ok (.new 102, 3) := by decide +kernel
theorem d_Ga_submit_72 : decode b_Ga_submit 72 = .ok (.dup, 1) := by decide +kernel
theorem d_Ga_submit_73 : decode b_Ga_submit 73 = .ok (.ldc 104, 2) := by decide +kernel
theorem d_Ga_submit_75 : decode b_Ga_submit 75 = .ok (.invokespecial 106, 3) := by decide +kernel
theorem d_Ga_submit_78 : decode b_Ga_submit 78 = .ok (.athrow, 1) := by decide +kernel
theorem d_Ga_submit_79 : decode b_Ga_submit 79 = .ok (.aload_n 0, 1) := by decide +kernel
theorem d_Ga_submit_80 : decode b_Ga_submit 80 = .ok (.invokevirtual 107, 3) := by decide +kernel
theorem d_Ga_submit_83 : decode b_Ga_submit 83 = .ok (.aload_n 0, 1) := by decide +kernel
theorem d_Ga_submit_84 : decode b_Ga_submit 84 = .ok (.getfield 18, 3) := by decide +kernel
theorem d_Ga_submit_87 : decode b_Ga_submit 87 = .ok (.aload 6, 2) := by decide +kernel
theorem d_Ga_submit_89 : decode b_Ga_submit 89 = .ok (.invokevirtual 110, 3) := by decide +kernel
theorem d_Ga_submit_92 : decode b_Ga_submit 92 = .ok (.ireturn, 1) := by decide +kernel
theorem d_Ga_set_0 : decode b_Ga_set 0 = .ok (.aload_n 0, 1) := by decide +kernel
theorem d_Ga_set_1 : decode b_Ga_set 1 = .ok (.getfield 9, 3) := by decide +kernel
theorem d_Ga_set_4 : decode b_Ga_set 4 = .ok (.iconst 0, 1) := by decide +kernel
theorem d_Ga_set_5 : decode b_Ga_set 5 = .ok (.iload_n 1, 1) := by decide +kernel
theorem d_Ga_set_6 : decode b_Ga_set 6 = .ok (.iastore, 1) := by decide +kernel
theorem d_Ga_set_7 : decode b_Ga_set 7 = .ok (.aload_n 0, 1) := by decide +kernel
theorem d_Ga_set_8 : decode b_Ga_set 8 = .ok (.getfield 9, 3) := by decide +kernel
theorem d_Ga_set_11 : decode b_Ga_set 11 = .ok (.iconst 1, 1) := by decide +kernel
theorem d_Ga_set_12 : decode b_Ga_set 12 = .ok (.iload_n 2, 1) := by decide +kernel
theorem d_Ga_set_13 : decode b_Ga_set 13 = .ok (.iastore, 1) := by decide +kernel
theorem d_Ga_set_14 : decode b_Ga_set 14 = .ok (.aload_n 0, 1) := by decide +kernel
theorem d_Ga_set_15 : decode b_Ga_set 15 = .ok (.getfield 9, 3) := by decide +kernel
theorem d_Ga_set_18 : decode b_Ga_set 18 = .ok (.iconst 2, 1) := by decide +kernel
theorem d_Ga_set_19 : decode b_Ga_set 19 = .ok (.iload_n 3, 1) := by decide +kernel
theorem d_Ga_set_20 : decode b_Ga_set 20 = .ok (.iastore, 1) := by decide +kernel
theorem d_Ga_set_21 : decode b_Ga_set 21 = .ok (.aload_n 0, 1) := by decide +kernel
theorem d_Ga_set_22 : decode b_Ga_set 22 = .ok (.getfield 9, 3) := by decide +kernel
theorem d_Ga_set_25 : decode b_Ga_set 25 = .ok (.iconst 3, 1) := by decide +kernel
theorem d_Ga_set_26 : decode b_Ga_set 26 = .ok (.iload 4, 2) := by decide +kernel
theorem d_Ga_set_28 : decode b_Ga_set 28 = .ok (.iastore, 1) := by decide +kernel
theorem d_Ga_set_29 : decode b_Ga_set 29 = .ok (.return_, 1) := by decide +kernel
theorem d_Ga_revoke_0 : decode b_Ga_revoke 0 = .ok (.aload_n 0, 1) := by decide +kernel
theorem d_Ga_revoke_1 : decode b_Ga_revoke 1 = .ok (.getfield 18, 3) := by decide +kernel
theorem d_Ga_revoke_4 : decode b_Ga_revoke 4 = .ok (.iload_n 2, 1) := by decide +kernel
theorem d_Ga_revoke_5 : decode b_Ga_revoke 5 = .ok (.invokevirtual 113, 3) := by decide +kernel
theorem d_Ga_revoke_8 : decode b_Ga_revoke 8 = .ok (.astore_n 3, 1) := by decide +kernel
theorem d_Ga_revoke_9 : decode b_Ga_revoke 9 = .ok (.aload_n 3, 1) := by decide +kernel
theorem d_Ga_revoke_10 : decode b_Ga_revoke 10 = .ok (.ifnonnull 13, 3) := by decide +kernel
theorem d_Ga_revoke_13 : decode b_Ga_revoke 13 = .ok (.new 117, 3) := by decide +kernel
theorem d_Ga_revoke_16 : decode b_Ga_revoke 16 = .ok (.dup, 1) := by decide +kernel
theorem d_Ga_revoke_17 : decode b_Ga_revoke 17 = .ok (.ldc 119, 2) := by decide +kernel
theorem d_Ga_revoke_19 : decode b_Ga_revoke 19 = .ok (.invokespecial 121, 3) := by decide +kernel
theorem d_Ga_revoke_22 : decode b_Ga_revoke 22 = .ok (.athrow, 1) := by decide +kernel
theorem d_Ga_revoke_23 : decode b_Ga_revoke 23 = .ok (.aload_n 3, 1) := by decide +kernel
theorem d_Ga_revoke_24 : decode b_Ga_revoke 24 = .ok (.getfield 122, 3) := by decide +kernel
theorem d_Ga_revoke_27 : decode b_Ga_revoke 27 = .ok (.iload_n 1, 1) := by decide +kernel
theorem d_Ga_revoke_28 : decode b_Ga_revoke 28 = .ok (.if_icmp .eq 13, 3) := by decide +kernel
theorem d_Ga_revoke_31 : decode b_Ga_revoke 31 = .ok (.new 93, 3) := by decide +kernel
theorem d_Ga_revoke_34 : decode b_Ga_revoke 34 = .ok (.dup, 1) := by decide +kernel
theorem d_Ga_revoke_35 : decode b_Ga_revoke 35 = .ok (.ldc 125, 2) := by decide +kernel
theorem d_Ga_revoke_37 : decode b_Ga_revoke 37 = .ok (.invokespecial 97, 3) := by decide +kernel
theorem d_Ga_revoke_40 : decode b_Ga_revoke 40 = .ok (.athrow, 1) := by decide +kernel
theorem d_Ga_revoke_41 : decode b_Ga_revoke 41 = .ok (.aload_n 3, 1) := by decide +kernel
theorem d_Ga_revoke_42 : decode b_Ga_revoke 42 = .ok (.getfield 127, 3) := by decide +kernel
theorem d_Ga_revoke_45 : decode b_Ga_revoke 45 = .ok (.ifCond .eq 5, 3) := by decide +kernel
theorem d_Ga_revoke_48 : decode b_Ga_revoke 48 = .ok (.iconst 0, 1) := by decide +kernel
theorem d_Ga_revoke_49 : decode b_Ga_revoke 49 = .ok (.ireturn, 1) := by decide +kernel
theorem d_Ga_revoke_50 : decode b_Ga_revoke 50 = .ok (.aload_n 0, 1) := by decide +kernel
theorem d_Ga_revoke_51 : decode b_Ga_revoke 51 = .ok (.invokevirtual 107, 3) := by decide +kernel
theorem d_Ga_revoke_54 : decode b_Ga_revoke 54 = .ok (.aload_n 3, 1) := by decide +kernel
theorem d_Ga_revoke_55 : decode b_Ga_revoke 55 = .ok (.iconst 1, 1) := by decide +kernel
theorem d_Ga_revoke_56 : decode b_Ga_revoke 56 = .ok (.putfield 127, 3) := by decide +kernel
theorem d_Ga_revoke_59 : decode b_Ga_revoke 59 = .ok (.iconst 1, 1) := by decide +kernel
theorem d_Ga_revoke_60 : decode b_Ga_revoke 60 = .ok (.ireturn, 1) := by decide +kernel
theorem d_Ga_pass_0 : decode b_Ga_pass 0 = .ok (.iload_n 1, 1) := by decide +kernel
theorem d_Ga_pass_1 : decode b_Ga_pass 1 = .ok (.iconst 1, 1) := by decide +kernel
theorem d_Ga_pass_2 : decode b_Ga_pass 2 = .ok (.if_icmp .lt 20, 3) := by decide +kernel
theorem d_Ga_pass_5 : decode b_Ga_pass 5 = .ok (.iload_n 1, 1) := by decide +kernel
theorem d_Ga_pass_6 : decode b_Ga_pass 6 = .ok (.bipush 100, 2) := by decide +kernel
theorem d_Ga_pass_8 : decode b_Ga_pass 8 = .ok (.if_icmp .gt 14, 3) := by decide +kernel
theorem d_Ga_pass_11 : decode b_Ga_pass 11 = .ok (.aload_n 0, 1) := by decide +kernel
theorem d_Ga_pass_12 : decode b_Ga_pass 12 = .ok (.getfield 18, 3) := by decide +kernel
theorem d_Ga_pass_15 : decode b_Ga_pass 15 = .ok (.iload_n 1, 1) := by decide +kernel
theorem d_Ga_pass_16 : decode b_Ga_pass 16 = .ok (.invokevirtual 131, 3) := by decide +kernel
theorem d_Ga_pass_19 : decode b_Ga_pass 19 = .ok (.goto 4, 3) := by decide +kernel
theorem d_Ga_pass_22 : decode b_Ga_pass 22 = .ok (.iconst (-1), 1) := by decide +kernel
theorem d_Ga_pass_23 : decode b_Ga_pass 23 = .ok (.ireturn, 1) := by decide +kernel
theorem d_Ga_step_0 : decode b_Ga_step 0 = .ok (.aload_n 0, 1) := by decide +kernel
theorem d_Ga_step_1 : decode b_Ga_step 1 = .ok (.getfield 25, 3) := by decide +kernel
theorem d_Ga_step_4 : decode b_Ga_step 4 = .ok (.iload_n 1, 1) := by decide +kernel
theorem d_Ga_step_5 : decode b_Ga_step 5 = .ok (.iload_n 2, 1) := by decide +kernel
theorem d_Ga_step_6 : decode b_Ga_step 6 = .ok (.iload_n 3, 1) := by decide +kernel
theorem d_Ga_step_7 : decode b_Ga_step 7 = .ok (.invokevirtual 135, 3) := by decide +kernel
theorem d_Ga_step_10 : decode b_Ga_step 10 = .ok (.ireturn, 1) := by decide +kernel
theorem d_Ga_clear_0 : decode b_Ga_clear 0 = .ok (.aload_n 0, 1) := by decide +kernel
theorem d_Ga_clear_1 : decode b_Ga_clear 1 = .ok (.getfield 25, 3) := by decide +kernel
theorem d_Ga_clear_4 : decode b_Ga_clear 4 = .ok (.invokevirtual 139, 3) := by decide +kernel
theorem d_Ga_clear_7 : decode b_Ga_clear 7 = .ok (.ireturn, 1) := by decide +kernel
theorem d_Ga_steps_0 : decode b_Ga_steps 0 = .ok (.aload_n 0, 1) := by decide +kernel
theorem d_Ga_steps_1 : decode b_Ga_steps 1 = .ok (.getfield 25, 3) := by decide +kernel
theorem d_Ga_steps_4 : decode b_Ga_steps 4 = .ok (.invokevirtual 142, 3) := by decide +kernel
theorem d_Ga_steps_7 : decode b_Ga_steps 7 = .ok (.ireturn, 1) := by decide +kernel
theorem d_Ga_stepAt_0 : decode b_Ga_stepAt 0 = .ok (.aload_n 0, 1) := by decide +kernel
theorem d_Ga_stepAt_1 : decode b_Ga_stepAt 1 = .ok (.getfield 25, 3) := by decide +kernel
theorem d_Ga_stepAt_4 : decode b_Ga_stepAt 4 = .ok (.iload_n 1, 1) := by decide +kernel
theorem d_Ga_stepAt_5 : decode b_Ga_stepAt 5 = .ok (.invokevirtual 145, 3) := by decide +kernel
theorem d_Ga_stepAt_8 : decode b_Ga_stepAt 8 = .ok (.ifCond .ne 5, 3) := by decide +kernel
theorem d_Ga_stepAt_11 : decode b_Ga_stepAt 11 = .ok (.iconst (-1), 1) := by decide +kernel
theorem d_Ga_stepAt_12 : decode b_Ga_stepAt 12 = .ok (.ireturn, 1) := by decide +kernel
theorem d_Ga_stepAt_13 : decode b_Ga_stepAt 13 = .ok (.iload_n 2, 1) := by decide +kernel
theorem d_Ga_stepAt_14 : decode b_Ga_stepAt 14 = .ok (.tableswitch 53 0 2 #[26, 35, 44], 26) := by decide +kernel
theorem d_Ga_stepAt_40 : decode b_Ga_stepAt 40 = .ok (.aload_n 0, 1) := by decide +kernel
theorem d_Ga_stepAt_41 : decode b_Ga_stepAt 41 = .ok (.getfield 25, 3) := by decide +kernel
theorem d_Ga_stepAt_44 : decode b_Ga_stepAt 44 = .ok (.iload_n 1, 1) := by decide +kernel
theorem d_Ga_stepAt_45 : decode b_Ga_stepAt 45 = .ok (.invokevirtual 149, 3) := by decide +kernel
theorem d_Ga_stepAt_48 : decode b_Ga_stepAt 48 = .ok (.ireturn, 1) := by decide +kernel
theorem d_Ga_stepAt_49 : decode b_Ga_stepAt 49 = .ok (.aload_n 0, 1) := by decide +kernel
theorem d_Ga_stepAt_50 : decode b_Ga_stepAt 50 = .ok (.getfield 25, 3) := by decide +kernel
theorem d_Ga_stepAt_53 : decode b_Ga_stepAt 53 = .ok (.iload_n 1, 1) := by decide +kernel
theorem d_Ga_stepAt_54 : decode b_Ga_stepAt 54 = .ok (.invokevirtual 152, 3) := by decide +kernel
theorem d_Ga_stepAt_57 : decode b_Ga_stepAt 57 = .ok (.ireturn, 1) := by decide +kernel
theorem d_Ga_stepAt_58 : decode b_Ga_stepAt 58 = .ok (.aload_n 0, 1) := by decide +kernel
theorem d_Ga_stepAt_59 : decode b_Ga_stepAt 59 = .ok (.getfield 25, 3) := by decide +kernel
theorem d_Ga_stepAt_62 : decode b_Ga_stepAt 62 = .ok (.iload_n 1, 1) := by decide +kernel
theorem d_Ga_stepAt_63 : decode b_Ga_stepAt 63 = .ok (.invokevirtual 155, 3) := by decide +kernel
theorem d_Ga_stepAt_66 : decode b_Ga_stepAt 66 = .ok (.ireturn, 1) := by decide +kernel
theorem d_Ga_stepAt_67 : decode b_Ga_stepAt 67 = .ok (.iconst (-1), 1) := by decide +kernel
theorem d_Ga_stepAt_68 : decode b_Ga_stepAt 68 = .ok (.ireturn, 1) := by decide +kernel
theorem d_Ga_prove_0 : decode b_Ga_prove 0 = .ok (.iload_n 1, 1) := by decide +kernel
theorem d_Ga_prove_1 : decode b_Ga_prove 1 = .ok (.iload_n 2, 1) := by decide +kernel
theorem d_Ga_prove_2 : decode b_Ga_prove 2 = .ok (.iload_n 3, 1) := by decide +kernel
theorem d_Ga_prove_3 : decode b_Ga_prove 3 = .ok (.invokestatic 158, 3) := by decide +kernel
theorem d_Ga_prove_6 : decode b_Ga_prove 6 = .ok (.ifCond .eq 12, 3) := by decide +kernel
theorem d_Ga_prove_9 : decode b_Ga_prove 9 = .ok (.aload_n 0, 1) := by decide +kernel
theorem d_Ga_prove_10 : decode b_Ga_prove 10 = .ok (.iload_n 2, 1) := by decide +kernel
theorem d_Ga_prove_11 : decode b_Ga_prove 11 = .ok (.iload_n 3, 1) := by decide +kernel
theorem d_Ga_prove_12 : decode b_Ga_prove 12 = .ok (.invokevirtual 162, 3) := by decide +kernel
theorem d_Ga_prove_15 : decode b_Ga_prove 15 = .ok (.ifCond .ne 5, 3) := by decide +kernel
theorem d_Ga_prove_18 : decode b_Ga_prove 18 = .ok (.iconst (-1), 1) := by decide +kernel
theorem d_Ga_prove_19 : decode b_Ga_prove 19 = .ok (.ireturn, 1) := by decide +kernel
theorem d_Ga_prove_20 : decode b_Ga_prove 20 = .ok (.aload_n 0, 1) := by decide +kernel
theorem d_Ga_prove_21 : decode b_Ga_prove 21 = .ok (.getfield 34, 3) := by decide +kernel
theorem d_Ga_prove_24 : decode b_Ga_prove 24 = .ok (.aload_n 0, 1) := by decide +kernel
theorem d_Ga_prove_25 : decode b_Ga_prove 25 = .ok (.iload_n 2, 1) := by decide +kernel
theorem d_Ga_prove_26 : decode b_Ga_prove 26 = .ok (.iload_n 3, 1) := by decide +kernel
theorem d_Ga_prove_27 : decode b_Ga_prove 27 = .ok (.invokevirtual 166, 3) := by decide +kernel
theorem d_Ga_prove_30 : decode b_Ga_prove 30 = .ok (.iload_n 1, 1) := by decide +kernel
theorem d_Ga_prove_31 : decode b_Ga_prove 31 = .ok (.iload_n 2, 1) := by decide +kernel
theorem d_Ga_prove_32 : decode b_Ga_prove 32 = .ok (.iload_n 3, 1) := by decide +kernel
theorem d_Ga_prove_33 : decode b_Ga_prove 33 = .ok (.invokevirtual 170, 3) := by decide +kernel
theorem d_Ga_prove_36 : decode b_Ga_prove 36 = .ok (.istore 4, 2) := by decide +kernel
theorem d_Ga_prove_38 : decode b_Ga_prove 38 = .ok (.iload 4, 2) := by decide +kernel
theorem d_Ga_prove_40 : decode b_Ga_prove 40 = .ok (.ifCond .le 17, 3) := by decide +kernel
theorem d_Ga_prove_43 : decode b_Ga_prove 43 = .ok (.aload_n 0, 1) := by decide +kernel
theorem d_Ga_prove_44 : decode b_Ga_prove 44 = .ok (.getfield 25, 3) := by decide +kernel
theorem d_Ga_prove_47 : decode b_Ga_prove 47 = .ok (.aload_n 0, 1) := by decide +kernel
theorem d_Ga_prove_48 : decode b_Ga_prove 48 = .ok (.getfield 34, 3) := by decide +kernel
theorem d_Ga_prove_51 : decode b_Ga_prove 51 = .ok (.invokevirtual 174, 3) := by decide +kernel
theorem d_Ga_prove_54 : decode b_Ga_prove 54 = .ok (.invokevirtual 178, 3) := by decide +kernel
theorem d_Ga_prove_57 : decode b_Ga_prove 57 = .ok (.iload 4, 2) := by decide +kernel
theorem d_Ga_prove_59 : decode b_Ga_prove 59 = .ok (.ireturn, 1) := by decide +kernel
theorem d_Ga_check_0 : decode b_Ga_check 0 = .ok (.iload_n 1, 1) := by decide +kernel
theorem d_Ga_check_1 : decode b_Ga_check 1 = .ok (.iload_n 2, 1) := by decide +kernel
theorem d_Ga_check_2 : decode b_Ga_check 2 = .ok (.iload_n 3, 1) := by decide +kernel
theorem d_Ga_check_3 : decode b_Ga_check 3 = .ok (.invokestatic 158, 3) := by decide +kernel
theorem d_Ga_check_6 : decode b_Ga_check 6 = .ok (.ifCond .eq 39, 3) := by decide +kernel
theorem d_Ga_check_9 : decode b_Ga_check 9 = .ok (.aload_n 0, 1) := by decide +kernel
theorem d_Ga_check_10 : decode b_Ga_check 10 = .ok (.iload_n 2, 1) := by decide +kernel
theorem d_Ga_check_11 : decode b_Ga_check 11 = .ok (.iload_n 3, 1) := by decide +kernel
theorem d_Ga_check_12 : decode b_Ga_check 12 = .ok (.invokevirtual 162, 3) := by decide +kernel
theorem d_Ga_check_15 : decode b_Ga_check 15 = .ok (.ifCond .eq 30, 3) := by decide +kernel
theorem d_Ga_check_18 : decode b_Ga_check 18 = .ok (.aload_n 0, 1) := by decide +kernel
theorem d_Ga_check_19 : decode b_Ga_check 19 = .ok (.getfield 41, 3) := by decide +kernel
theorem d_Ga_check_22 : decode b_Ga_check 22 = .ok (.aload_n 0, 1) := by decide +kernel
theorem d_Ga_check_23 : decode b_Ga_check 23 = .ok (.getfield 25, 3) := by decide +kernel
theorem d_Ga_check_26 : decode b_Ga_check 26 = .ok (.aload_n 0, 1) := by decide +kernel
theorem d_Ga_check_27 : decode b_Ga_check 27 = .ok (.iload_n 2, 1) := by decide +kernel
theorem d_Ga_check_28 : decode b_Ga_check 28 = .ok (.iload_n 3, 1) := by decide +kernel
theorem d_Ga_check_29 : decode b_Ga_check 29 = .ok (.invokevirtual 166, 3) := by decide +kernel
theorem d_Ga_check_32 : decode b_Ga_check 32 = .ok (.iload_n 1, 1) := by decide +kernel
theorem d_Ga_check_33 : decode b_Ga_check 33 = .ok (.iload_n 2, 1) := by decide +kernel
theorem d_Ga_check_34 : decode b_Ga_check 34 = .ok (.iload_n 3, 1) := by decide +kernel
theorem d_Ga_check_35 : decode b_Ga_check 35 = .ok (.invokevirtual 182, 3) := by decide +kernel
theorem d_Ga_check_38 : decode b_Ga_check 38 = .ok (.ifCond .eq 7, 3) := by decide +kernel
theorem d_Ga_check_41 : decode b_Ga_check 41 = .ok (.iconst 1, 1) := by decide +kernel
theorem d_Ga_check_42 : decode b_Ga_check 42 = .ok (.goto 4, 3) := by decide +kernel
theorem d_Ga_check_45 : decode b_Ga_check 45 = .ok (.iconst 0, 1) := by decide +kernel
theorem d_Ga_check_46 : decode b_Ga_check 46 = .ok (.ireturn, 1) := by decide +kernel
theorem d_Ga_request_0 : decode b_Ga_request 0 = .ok (.iload_n 1, 1) := by decide +kernel
theorem d_Ga_request_1 : decode b_Ga_request 1 = .ok (.iload_n 2, 1) := by decide +kernel
theorem d_Ga_request_2 : decode b_Ga_request 2 = .ok (.iload_n 3, 1) := by decide +kernel
theorem d_Ga_request_3 : decode b_Ga_request 3 = .ok (.invokestatic 158, 3) := by decide +kernel
theorem d_Ga_request_6 : decode b_Ga_request 6 = .ok (.ifCond .ne 13, 3) := by decide +kernel
theorem d_Ga_request_9 : decode b_Ga_request 9 = .ok (.new 86, 3) := by decide +kernel
theorem d_Ga_request_12 : decode b_Ga_request 12 = .ok (.dup, 1) := by decide +kernel
theorem d_Ga_request_13 : decode b_Ga_request 13 = .ok (.ldc 186, 2) := by decide +kernel
theorem d_Ga_request_15 : decode b_Ga_request 15 = .ok (.invokespecial 90, 3) := by decide +kernel
theorem d_Ga_request_18 : decode b_Ga_request 18 = .ok (.athrow, 1) := by decide +kernel
theorem d_Ga_request_19 : decode b_Ga_request 19 = .ok (.aload_n 0, 1) := by decide +kernel
theorem d_Ga_request_20 : decode b_Ga_request 20 = .ok (.iload_n 2, 1) := by decide +kernel
theorem d_Ga_request_21 : decode b_Ga_request 21 = .ok (.iload_n 3, 1) := by decide +kernel
theorem d_Ga_request_22 : decode b_Ga_request 22 = .ok (.invokevirtual 162, 3) := by decide +kernel
theorem d_Ga_request_25 : decode b_Ga_request 25 = .ok (.ifCond .ne 13, 3) := by decide +kernel
theorem d_Ga_request_28 : decode b_Ga_request 28 = .ok (.new 117, 3) := by decide +kernel
theorem d_Ga_request_31 : decode b_Ga_request 31 = .ok (.dup, 1) := by decide +kernel
theorem d_Ga_request_32 : decode b_Ga_request 32 = .ok (.ldc 188, 2) := by decide +kernel
theorem d_Ga_request_34 : decode b_Ga_request 34 = .ok (.invokespecial 121, 3) := by decide +kernel
theorem d_Ga_request_37 : decode b_Ga_request 37 = .ok (.athrow, 1) := by decide +kernel
theorem d_Ga_request_38 : decode b_Ga_request 38 = .ok (.iload 5, 2) := by decide +kernel
theorem d_Ga_request_40 : decode b_Ga_request 40 = .ok (.ifCond .eq 13, 3) := by decide +kernel
theorem d_Ga_request_43 : decode b_Ga_request 43 = .ok (.aload_n 0, 1) := by decide +kernel
theorem d_Ga_request_44 : decode b_Ga_request 44 = .ok (.iload_n 1, 1) := by decide +kernel
theorem d_Ga_request_45 : decode b_Ga_request 45 = .ok (.iload_n 2, 1) := by decide +kernel
theorem d_Ga_request_46 : decode b_Ga_request 46 = .ok (.iload_n 3, 1) := by decide +kernel
theorem d_Ga_request_47 : decode b_Ga_request 47 = .ok (.invokevirtual 190, 3) := by decide +kernel
theorem d_Ga_request_50 : decode b_Ga_request 50 = .ok (.goto 19, 3) := by decide +kernel
theorem d_Ga_request_53 : decode b_Ga_request 53 = .ok (.aload_n 0, 1) := by decide +kernel
theorem d_Ga_request_54 : decode b_Ga_request 54 = .ok (.getfield 34, 3) := by decide +kernel
theorem d_Ga_request_57 : decode b_Ga_request 57 = .ok (.aload_n 0, 1) := by decide +kernel
theorem d_Ga_request_58 : decode b_Ga_request 58 = .ok (.iload_n 2, 1) := by decide +kernel
theorem d_Ga_request_59 : decode b_Ga_request 59 = .ok (.iload_n 3, 1) := by decide +kernel
theorem d_Ga_request_60 : decode b_Ga_request 60 = .ok (.invokevirtual 166, 3) := by decide +kernel
theorem d_Ga_request_63 : decode b_Ga_request 63 = .ok (.iload_n 1, 1) := by decide +kernel
theorem d_Ga_request_64 : decode b_Ga_request 64 = .ok (.iload_n 2, 1) := by decide +kernel
theorem d_Ga_request_65 : decode b_Ga_request 65 = .ok (.iload_n 3, 1) := by decide +kernel
theorem d_Ga_request_66 : decode b_Ga_request 66 = .ok (.invokevirtual 170, 3) := by decide +kernel
theorem d_Ga_request_69 : decode b_Ga_request 69 = .ok (.istore 6, 2) := by decide +kernel
theorem d_Ga_request_71 : decode b_Ga_request 71 = .ok (.iload 6, 2) := by decide +kernel
theorem d_Ga_request_73 : decode b_Ga_request 73 = .ok (.ifCond .gt 13, 3) := by decide +kernel
theorem d_Ga_request_76 : decode b_Ga_request 76 = .ok (.new 93, 3) := by decide +kernel
theorem d_Ga_request_79 : decode b_Ga_request 79 = .ok (.dup, 1) := by decide +kernel
theorem d_Ga_request_80 : decode b_Ga_request 80 = .ok (.ldc 193, 2) := by decide +kernel
theorem d_Ga_request_82 : decode b_Ga_request 82 = .ok (.invokespecial 97, 3) := by decide +kernel
theorem d_Ga_request_85 : decode b_Ga_request 85 = .ok (.athrow, 1) := by decide +kernel
theorem d_Ga_request_86 : decode b_Ga_request 86 = .ok (.aload_n 0, 1) := by decide +kernel
theorem d_Ga_request_87 : decode b_Ga_request 87 = .ok (.invokevirtual 107, 3) := by decide +kernel
theorem d_Ga_request_90 : decode b_Ga_request 90 = .ok (.aload_n 0, 1) := by decide +kernel
theorem d_Ga_request_91 : decode b_Ga_request 91 = .ok (.getfield 48, 3) := by decide +kernel
theorem d_Ga_request_94 : decode b_Ga_request 94 = .ok (.iload_n 1, 1) := by decide +kernel
theorem d_Ga_request_95 : decode b_Ga_request 95 = .ok (.iload_n 2, 1) := by decide +kernel
theorem d_Ga_request_96 : decode b_Ga_request 96 = .ok (.iload_n 3, 1) := by decide +kernel
theorem d_Ga_request_97 : decode b_Ga_request 97 = .ok (.iload 6, 2) := by decide +kernel
theorem d_Ga_request_99 : decode b_Ga_request 99 = .ok (.invokevirtual 195, 3) := by decide +kernel
theorem d_Ga_request_102 : decode b_Ga_request 102 = .ok (.aload_n 0, 1) := by decide +kernel
theorem d_Ga_request_103 : decode b_Ga_request 103 = .ok (.iload_n 1, 1) := by decide +kernel
theorem d_Ga_request_104 : decode b_Ga_request 104 = .ok (.iload_n 2, 1) := by decide +kernel
theorem d_Ga_request_105 : decode b_Ga_request 105 = .ok (.iload_n 3, 1) := by decide +kernel
theorem d_Ga_request_106 : decode b_Ga_request 106 = .ok (.iload 4, 2) := by decide +kernel
theorem d_Ga_request_108 : decode b_Ga_request 108 = .ok (.invokevirtual 199, 3) := by decide +kernel
theorem d_Ga_request_111 : decode b_Ga_request 111 = .ok (.ireturn, 1) := by decide +kernel
theorem d_Ga_fuse_0 : decode b_Ga_fuse 0 = .ok (.iload_n 1, 1) := by decide +kernel
theorem d_Ga_fuse_1 : decode b_Ga_fuse 1 = .ok (.ifCond .lt 9, 3) := by decide +kernel
theorem d_Ga_fuse_4 : decode b_Ga_fuse 4 = .ok (.iload_n 1, 1) := by decide +kernel
theorem d_Ga_fuse_5 : decode b_Ga_fuse 5 = .ok (.bipush 50, 2) := by decide +kernel
theorem d_Ga_fuse_7 : decode b_Ga_fuse 7 = .ok (.if_icmp .le 5, 3) := by decide +kernel
theorem d_Ga_fuse_10 : decode b_Ga_fuse 10 = .ok (.iconst 0, 1) := by decide +kernel
theorem d_Ga_fuse_11 : decode b_Ga_fuse 11 = .ok (.ireturn, 1) := by decide +kernel
theorem d_Ga_fuse_12 : decode b_Ga_fuse 12 = .ok (.aload_n 0, 1) := by decide +kernel
theorem d_Ga_fuse_13 : decode b_Ga_fuse 13 = .ok (.getfield 55, 3) := by decide +kernel
theorem d_Ga_fuse_16 : decode b_Ga_fuse 16 = .ok (.iload_n 1, 1) := by decide +kernel
theorem d_Ga_fuse_17 : decode b_Ga_fuse 17 = .ok (.invokevirtual 202, 3) := by decide +kernel
theorem d_Ga_fuse_20 : decode b_Ga_fuse 20 = .ok (.iconst 1, 1) := by decide +kernel
theorem d_Ga_fuse_21 : decode b_Ga_fuse 21 = .ok (.ireturn, 1) := by decide +kernel
theorem d_Ga_owner_0 : decode b_Ga_owner 0 = .ok (.iload_n 1, 1) := by decide +kernel
theorem d_Ga_owner_1 : decode b_Ga_owner 1 = .ok (.invokestatic 206, 3) := by decide +kernel
theorem d_Ga_owner_4 : decode b_Ga_owner 4 = .ok (.ifCond .eq 12, 3) := by decide +kernel
theorem d_Ga_owner_7 : decode b_Ga_owner 7 = .ok (.aload_n 0, 1) := by decide +kernel
theorem d_Ga_owner_8 : decode b_Ga_owner 8 = .ok (.getfield 59, 3) := by decide +kernel
theorem d_Ga_owner_11 : decode b_Ga_owner 11 = .ok (.iload_n 1, 1) := by decide +kernel
theorem d_Ga_owner_12 : decode b_Ga_owner 12 = .ok (.iaload, 1) := by decide +kernel
theorem d_Ga_owner_13 : decode b_Ga_owner 13 = .ok (.goto 4, 3) := by decide +kernel
theorem d_Ga_owner_16 : decode b_Ga_owner 16 = .ok (.iconst (-1), 1) := by decide +kernel
theorem d_Ga_owner_17 : decode b_Ga_owner 17 = .ok (.ireturn, 1) := by decide +kernel
theorem d_Ga_credentials_0 : decode b_Ga_credentials 0 = .ok (.aload_n 0, 1) := by decide +kernel
theorem d_Ga_credentials_1 : decode b_Ga_credentials 1 = .ok (.getfield 18, 3) := by decide +kernel
theorem d_Ga_credentials_4 : decode b_Ga_credentials 4 = .ok (.invokevirtual 98, 3) := by decide +kernel
theorem d_Ga_credentials_7 : decode b_Ga_credentials 7 = .ok (.ireturn, 1) := by decide +kernel
theorem d_Ga_valid_0 : decode b_Ga_valid 0 = .ok (.aload_n 0, 1) := by decide +kernel
theorem d_Ga_valid_1 : decode b_Ga_valid 1 = .ok (.getfield 18, 3) := by decide +kernel
theorem d_Ga_valid_4 : decode b_Ga_valid 4 = .ok (.iload_n 1, 1) := by decide +kernel
theorem d_Ga_valid_5 : decode b_Ga_valid 5 = .ok (.invokevirtual 209, 3) := by decide +kernel
theorem d_Ga_valid_8 : decode b_Ga_valid 8 = .ok (.ifnull 7, 3) := by decide +kernel
theorem d_Ga_valid_11 : decode b_Ga_valid 11 = .ok (.iconst 1, 1) := by decide +kernel
theorem d_Ga_valid_12 : decode b_Ga_valid 12 = .ok (.goto 4, 3) := by decide +kernel
theorem d_Ga_valid_15 : decode b_Ga_valid 15 = .ok (.iconst 0, 1) := by decide +kernel
theorem d_Ga_valid_16 : decode b_Ga_valid 16 = .ok (.ireturn, 1) := by decide +kernel
theorem d_Ga_grants_0 : decode b_Ga_grants 0 = .ok (.aload_n 0, 1) := by decide +kernel
theorem d_Ga_grants_1 : decode b_Ga_grants 1 = .ok (.getfield 48, 3) := by decide +kernel
theorem d_Ga_grants_4 : decode b_Ga_grants 4 = .ok (.invokevirtual 212, 3) := by decide +kernel
theorem d_Ga_grants_7 : decode b_Ga_grants 7 = .ok (.ireturn, 1) := by decide +kernel
theorem d_Ga_chain_0 : decode b_Ga_chain 0 = .ok (.aload_n 0, 1) := by decide +kernel
theorem d_Ga_chain_1 : decode b_Ga_chain 1 = .ok (.getfield 48, 3) := by decide +kernel
theorem d_Ga_chain_4 : decode b_Ga_chain 4 = .ok (.invokevirtual 213, 3) := by decide +kernel
theorem d_Ga_chain_7 : decode b_Ga_chain 7 = .ok (.ireturn, 1) := by decide +kernel
theorem d_Ga_sealOf_0 : decode b_Ga_sealOf 0 = .ok (.aload_n 0, 1) := by decide +kernel
theorem d_Ga_sealOf_1 : decode b_Ga_sealOf 1 = .ok (.getfield 65, 3) := by decide +kernel
theorem d_Ga_sealOf_4 : decode b_Ga_sealOf 4 = .ok (.bipush 97, 2) := by decide +kernel
theorem d_Ga_sealOf_6 : decode b_Ga_sealOf 6 = .ok (.aload_n 1, 1) := by decide +kernel
theorem d_Ga_sealOf_7 : decode b_Ga_sealOf 7 = .ok (.getfield 122, 3) := by decide +kernel
theorem d_Ga_sealOf_10 : decode b_Ga_sealOf 10 = .ok (.imul, 1) := by decide +kernel
theorem d_Ga_sealOf_11 : decode b_Ga_sealOf 11 = .ok (.iadd, 1) := by decide +kernel
theorem d_Ga_sealOf_12 : decode b_Ga_sealOf 12 = .ok (.istore_n 2, 1) := by decide +kernel
theorem d_Ga_sealOf_13 : decode b_Ga_sealOf 13 = .ok (.aload_n 1, 1) := by decide +kernel
theorem d_Ga_sealOf_14 : decode b_Ga_sealOf 14 = .ok (.invokevirtual 216, 3) := by decide +kernel
theorem d_Ga_sealOf_17 : decode b_Ga_sealOf 17 = .ok (.iload_n 2, 1) := by decide +kernel
theorem d_Ga_sealOf_18 : decode b_Ga_sealOf 18 = .ok (.ixor, 1) := by decide +kernel
theorem d_Ga_sealOf_19 : decode b_Ga_sealOf 19 = .ok (.ldc 219, 2) := by decide +kernel
theorem d_Ga_sealOf_21 : decode b_Ga_sealOf 21 = .ok (.imul, 1) := by decide +kernel
theorem d_Ga_sealOf_22 : decode b_Ga_sealOf 22 = .ok (.ireturn, 1) := by decide +kernel
theorem d_Ga_writeRecord_0 : decode b_Ga_writeRecord 0 = .ok (.aload_n 0, 1) := by decide +kernel
theorem d_Ga_writeRecord_1 : decode b_Ga_writeRecord 1 = .ok (.getfield 55, 3) := by decide +kernel
theorem d_Ga_writeRecord_4 : decode b_Ga_writeRecord 4 = .ok (.invokevirtual 220, 3) := by decide +kernel
theorem d_Ga_writeRecord_7 : decode b_Ga_writeRecord 7 = .ok (.ifCond .eq 21, 3) := by decide +kernel
theorem d_Ga_writeRecord_10 : decode b_Ga_writeRecord 10 = .ok (.aload_n 0, 1) := by decide +kernel
theorem d_Ga_writeRecord_11 : decode b_Ga_writeRecord 11 = .ok (.getfield 25, 3) := by decide +kernel
theorem d_Ga_writeRecord_14 : decode b_Ga_writeRecord 14 = .ok (.invokevirtual 139, 3) := by decide +kernel
theorem d_Ga_writeRecord_17 : decode b_Ga_writeRecord 17 = .ok (.pop, 1) := by decide +kernel
theorem d_Ga_writeRecord_18 : decode b_Ga_writeRecord 18 = .ok (.new 102, 3) := by decide +kernel
theorem d_Ga_writeRecord_21 : decode b_Ga_writeRecord 21 = .ok (.dup, 1) := by decide +kernel
theorem d_Ga_writeRecord_22 : decode b_Ga_writeRecord 22 = .ok (.ldc 223, 2) := by decide +kernel
theorem d_Ga_writeRecord_24 : decode b_Ga_writeRecord 24 = .ok (.invokespecial 106, 3) := by decide +kernel
theorem d_Ga_writeRecord_27 : decode b_Ga_writeRecord 27 = .ok (.athrow, 1) := by decide +kernel
theorem d_Ga_writeRecord_28 : decode b_Ga_writeRecord 28 = .ok (.return_, 1) := by decide +kernel
theorem d_Ga_useUpDraft_0 : decode b_Ga_useUpDraft 0 = .ok (.aload_n 0, 1) := by decide +kernel
theorem d_Ga_useUpDraft_1 : decode b_Ga_useUpDraft 1 = .ok (.getfield 41, 3) := by decide +kernel
theorem d_Ga_useUpDraft_4 : decode b_Ga_useUpDraft 4 = .ok (.aload_n 0, 1) := by decide +kernel
theorem d_Ga_useUpDraft_5 : decode b_Ga_useUpDraft 5 = .ok (.getfield 25, 3) := by decide +kernel
theorem d_Ga_useUpDraft_8 : decode b_Ga_useUpDraft 8 = .ok (.aload_n 0, 1) := by decide +kernel
theorem d_Ga_useUpDraft_9 : decode b_Ga_useUpDraft 9 = .ok (.iload_n 2, 1) := by decide +kernel
theorem d_Ga_useUpDraft_10 : decode b_Ga_useUpDraft 10 = .ok (.iload_n 3, 1) := by decide +kernel
theorem d_Ga_useUpDraft_11 : decode b_Ga_useUpDraft 11 = .ok (.invokevirtual 166, 3) := by decide +kernel
theorem d_Ga_useUpDraft_14 : decode b_Ga_useUpDraft 14 = .ok (.iload_n 1, 1) := by decide +kernel
theorem d_Ga_useUpDraft_15 : decode b_Ga_useUpDraft 15 = .ok (.iload_n 2, 1) := by decide +kernel
theorem d_Ga_useUpDraft_16 : decode b_Ga_useUpDraft 16 = .ok (.iload_n 3, 1) := by decide +kernel
theorem d_Ga_useUpDraft_17 : decode b_Ga_useUpDraft 17 = .ok (.invokevirtual 182, 3) := by decide +kernel
theorem d_Ga_useUpDraft_20 : decode b_Ga_useUpDraft 20 = .ok (.istore 4, 2) := by decide +kernel
theorem d_Ga_useUpDraft_22 : decode b_Ga_useUpDraft 22 = .ok (.aload_n 0, 1) := by decide +kernel
theorem d_Ga_useUpDraft_23 : decode b_Ga_useUpDraft 23 = .ok (.getfield 25, 3) := by decide +kernel
theorem d_Ga_useUpDraft_26 : decode b_Ga_useUpDraft 26 = .ok (.invokevirtual 139, 3) := by decide +kernel
theorem d_Ga_useUpDraft_29 : decode b_Ga_useUpDraft 29 = .ok (.istore 5, 2) := by decide +kernel
theorem d_Ga_useUpDraft_31 : decode b_Ga_useUpDraft 31 = .ok (.iload 4, 2) := by decide +kernel
theorem d_Ga_useUpDraft_33 : decode b_Ga_useUpDraft 33 = .ok (.ifCond .eq 8, 3) := by decide +kernel
theorem d_Ga_useUpDraft_36 : decode b_Ga_useUpDraft 36 = .ok (.iload 5, 2) := by decide +kernel
theorem d_Ga_useUpDraft_38 : decode b_Ga_useUpDraft 38 = .ok (.goto 4, 3) := by decide +kernel
theorem d_Ga_useUpDraft_41 : decode b_Ga_useUpDraft 41 = .ok (.iconst 0, 1) := by decide +kernel
theorem d_Ga_useUpDraft_42 : decode b_Ga_useUpDraft 42 = .ok (.ireturn, 1) := by decide +kernel
theorem d_Ga_carryOut_0 : decode b_Ga_carryOut 0 = .ok (.aload_n 0, 1) := by decide +kernel
theorem d_Ga_carryOut_1 : decode b_Ga_carryOut 1 = .ok (.getfield 59, 3) := by decide +kernel
theorem d_Ga_carryOut_4 : decode b_Ga_carryOut 4 = .ok (.iload_n 3, 1) := by decide +kernel
theorem d_Ga_carryOut_5 : decode b_Ga_carryOut 5 = .ok (.iaload, 1) := by decide +kernel
theorem d_Ga_carryOut_6 : decode b_Ga_carryOut 6 = .ok (.istore 5, 2) := by decide +kernel
theorem d_Ga_carryOut_8 : decode b_Ga_carryOut 8 = .ok (.aload_n 0, 1) := by decide +kernel
theorem d_Ga_carryOut_9 : decode b_Ga_carryOut 9 = .ok (.getfield 62, 3) := by decide +kernel
theorem d_Ga_carryOut_12 : decode b_Ga_carryOut 12 = .ok (.iload_n 3, 1) := by decide +kernel
theorem d_Ga_carryOut_13 : decode b_Ga_carryOut 13 = .ok (.iaload, 1) := by decide +kernel
theorem d_Ga_carryOut_14 : decode b_Ga_carryOut 14 = .ok (.istore 6, 2) := by decide +kernel
theorem d_Ga_carryOut_16 : decode b_Ga_carryOut 16 = .ok (.iload_n 2, 1) := by decide +kernel
theorem d_Ga_carryOut_17 : decode b_Ga_carryOut 17 = .ok (.tableswitch 64 0 2 #[27, 30, 41], 27) := by decide +kernel
theorem d_Ga_carryOut_44 : decode b_Ga_carryOut 44 = .ok (.iload 6, 2) := by decide +kernel
theorem d_Ga_carryOut_46 : decode b_Ga_carryOut 46 = .ok (.ireturn, 1) := by decide +kernel
theorem d_Ga_carryOut_47 : decode b_Ga_carryOut 47 = .ok (.aload_n 0, 1) := by decide +kernel
theorem d_Ga_carryOut_48 : decode b_Ga_carryOut 48 = .ok (.getfield 62, 3) := by decide +kernel
theorem d_Ga_carryOut_51 : decode b_Ga_carryOut 51 = .ok (.iload_n 3, 1) := by decide +kernel
theorem d_Ga_carryOut_52 : decode b_Ga_carryOut 52 = .ok (.iload 4, 2) := by decide +kernel
theorem d_Ga_carryOut_54 : decode b_Ga_carryOut 54 = .ok (.iastore, 1) := by decide +kernel
theorem d_Ga_carryOut_55 : decode b_Ga_carryOut 55 = .ok (.iload 6, 2) := by decide +kernel
theorem d_Ga_carryOut_57 : decode b_Ga_carryOut 57 = .ok (.ireturn, 1) := by decide +kernel
theorem d_Ga_carryOut_58 : decode b_Ga_carryOut 58 = .ok (.aload_n 0, 1) := by decide +kernel
theorem d_Ga_carryOut_59 : decode b_Ga_carryOut 59 = .ok (.getfield 59, 3) := by decide +kernel
theorem d_Ga_carryOut_62 : decode b_Ga_carryOut 62 = .ok (.iload_n 3, 1) := by decide +kernel
theorem d_Ga_carryOut_63 : decode b_Ga_carryOut 63 = .ok (.iload 4, 2) := by decide +kernel
theorem d_Ga_carryOut_65 : decode b_Ga_carryOut 65 = .ok (.invokestatic 225, 3) := by decide +kernel
theorem d_Ga_carryOut_68 : decode b_Ga_carryOut 68 = .ok (.ifCond .eq 8, 3) := by decide +kernel
theorem d_Ga_carryOut_71 : decode b_Ga_carryOut 71 = .ok (.iload 4, 2) := by decide +kernel
theorem d_Ga_carryOut_73 : decode b_Ga_carryOut 73 = .ok (.goto 4, 3) := by decide +kernel
theorem d_Ga_carryOut_76 : decode b_Ga_carryOut 76 = .ok (.iconst (-1), 1) := by decide +kernel
theorem d_Ga_carryOut_77 : decode b_Ga_carryOut 77 = .ok (.iastore, 1) := by decide +kernel
theorem d_Ga_carryOut_78 : decode b_Ga_carryOut 78 = .ok (.iload 5, 2) := by decide +kernel
theorem d_Ga_carryOut_80 : decode b_Ga_carryOut 80 = .ok (.ireturn, 1) := by decide +kernel
theorem d_Ga_carryOut_81 : decode b_Ga_carryOut 81 = .ok (.aload_n 0, 1) := by decide +kernel
theorem d_Ga_carryOut_82 : decode b_Ga_carryOut 82 = .ok (.getfield 59, 3) := by decide +kernel
theorem d_Ga_carryOut_85 : decode b_Ga_carryOut 85 = .ok (.iload_n 3, 1) := by decide +kernel
theorem d_Ga_carryOut_86 : decode b_Ga_carryOut 86 = .ok (.iload_n 1, 1) := by decide +kernel
theorem d_Ga_carryOut_87 : decode b_Ga_carryOut 87 = .ok (.iastore, 1) := by decide +kernel
theorem d_Ga_carryOut_88 : decode b_Ga_carryOut 88 = .ok (.aload_n 0, 1) := by decide +kernel
theorem d_Ga_carryOut_89 : decode b_Ga_carryOut 89 = .ok (.getfield 62, 3) := by decide +kernel
theorem d_Ga_carryOut_92 : decode b_Ga_carryOut 92 = .ok (.iload_n 3, 1) := by decide +kernel
theorem d_Ga_carryOut_93 : decode b_Ga_carryOut 93 = .ok (.iload 4, 2) := by decide +kernel
theorem d_Ga_carryOut_95 : decode b_Ga_carryOut 95 = .ok (.iastore, 1) := by decide +kernel
theorem d_Ga_carryOut_96 : decode b_Ga_carryOut 96 = .ok (.iconst 0, 1) := by decide +kernel
theorem d_Ga_carryOut_97 : decode b_Ga_carryOut 97 = .ok (.ireturn, 1) := by decide +kernel
theorem d_Ga_sayerOfGoal_0 : decode b_Ga_sayerOfGoal 0 = .ok (.iload_n 1, 1) := by decide +kernel
theorem d_Ga_sayerOfGoal_1 : decode b_Ga_sayerOfGoal 1 = .ok (.iconst 3, 1) := by decide +kernel
theorem d_Ga_sayerOfGoal_2 : decode b_Ga_sayerOfGoal 2 = .ok (.if_icmp .ne 7, 3) := by decide +kernel
theorem d_Ga_sayerOfGoal_5 : decode b_Ga_sayerOfGoal 5 = .ok (.iconst 0, 1) := by decide +kernel
theorem d_Ga_sayerOfGoal_6 : decode b_Ga_sayerOfGoal 6 = .ok (.goto 9, 3) := by decide +kernel
theorem d_Ga_sayerOfGoal_9 : decode b_Ga_sayerOfGoal 9 = .ok (.aload_n 0, 1) := by decide +kernel
theorem d_Ga_sayerOfGoal_10 : decode b_Ga_sayerOfGoal 10 = .ok (.getfield 59, 3) := by decide +kernel
theorem d_Ga_sayerOfGoal_13 : decode b_Ga_sayerOfGoal 13 = .ok (.iload_n 2, 1) := by decide +kernel
theorem d_Ga_sayerOfGoal_14 : decode b_Ga_sayerOfGoal 14 = .ok (.iaload, 1) := by decide +kernel
theorem d_Ga_sayerOfGoal_15 : decode b_Ga_sayerOfGoal 15 = .ok (.ireturn, 1) := by decide +kernel
theorem d_Ga_isOpenTo_0 : decode b_Ga_isOpenTo 0 = .ok (.iload_n 1, 1) := by decide +kernel
theorem d_Ga_isOpenTo_1 : decode b_Ga_isOpenTo 1 = .ok (.iconst 3, 1) := by decide +kernel
theorem d_Ga_isOpenTo_2 : decode b_Ga_isOpenTo 2 = .ok (.if_icmp .ne 7, 3) := by decide +kernel
theorem d_Ga_isOpenTo_5 : decode b_Ga_isOpenTo 5 = .ok (.iconst 1, 1) := by decide +kernel
theorem d_Ga_isOpenTo_6 : decode b_Ga_isOpenTo 6 = .ok (.goto 4, 3) := by decide +kernel
theorem d_Ga_isOpenTo_9 : decode b_Ga_isOpenTo 9 = .ok (.iconst 0, 1) := by decide +kernel
theorem d_Ga_isOpenTo_10 : decode b_Ga_isOpenTo 10 = .ok (.aload_n 0, 1) := by decide +kernel
theorem d_Ga_isOpenTo_11 : decode b_Ga_isOpenTo 11 = .ok (.getfield 59, 3) := by decide +kernel
theorem d_Ga_isOpenTo_14 : decode b_Ga_isOpenTo 14 = .ok (.iload_n 2, 1) := by decide +kernel
theorem d_Ga_isOpenTo_15 : decode b_Ga_isOpenTo 15 = .ok (.iaload, 1) := by decide +kernel
theorem d_Ga_isOpenTo_16 : decode b_Ga_isOpenTo 16 = .ok (.iconst (-1), 1) := by decide +kernel
theorem d_Ga_isOpenTo_17 : decode b_Ga_isOpenTo 17 = .ok (.if_icmp .ne 7, 3) := by decide +kernel
theorem d_Ga_isOpenTo_20 : decode b_Ga_isOpenTo 20 = .ok (.iconst 1, 1) := by decide +kernel
theorem d_Ga_isOpenTo_21 : decode b_Ga_isOpenTo 21 = .ok (.goto 4, 3) := by decide +kernel
theorem d_Ga_isOpenTo_24 : decode b_Ga_isOpenTo 24 = .ok (.iconst 0, 1) := by decide +kernel
theorem d_Ga_isOpenTo_25 : decode b_Ga_isOpenTo 25 = .ok (.if_icmp .ne 7, 3) := by decide +kernel
theorem d_Ga_isOpenTo_28 : decode b_Ga_isOpenTo 28 = .ok (.iconst 1, 1) := by decide +kernel
theorem d_Ga_isOpenTo_29 : decode b_Ga_isOpenTo 29 = .ok (.goto 4, 3) := by decide +kernel
theorem d_Ga_isOpenTo_32 : decode b_Ga_isOpenTo 32 = .ok (.iconst 0, 1) := by decide +kernel
theorem d_Ga_isOpenTo_33 : decode b_Ga_isOpenTo 33 = .ok (.ireturn, 1) := by decide +kernel
theorem d_Ga_isNamed_0 : decode b_Ga_isNamed 0 = .ok (.iload_n 0, 1) := by decide +kernel
theorem d_Ga_isNamed_1 : decode b_Ga_isNamed 1 = .ok (.invokestatic 225, 3) := by decide +kernel
theorem d_Ga_isNamed_4 : decode b_Ga_isNamed 4 = .ok (.ifCond .eq 23, 3) := by decide +kernel
theorem d_Ga_isNamed_7 : decode b_Ga_isNamed 7 = .ok (.iload_n 1, 1) := by decide +kernel
theorem d_Ga_isNamed_8 : decode b_Ga_isNamed 8 = .ok (.ifCond .lt 19, 3) := by decide +kernel
theorem d_Ga_isNamed_11 : decode b_Ga_isNamed 11 = .ok (.iload_n 1, 1) := by decide +kernel
theorem d_Ga_isNamed_12 : decode b_Ga_isNamed 12 = .ok (.iconst 4, 1) := by decide +kernel
theorem d_Ga_isNamed_13 : decode b_Ga_isNamed 13 = .ok (.if_icmp .ge 14, 3) := by decide +kernel
theorem d_Ga_isNamed_16 : decode b_Ga_isNamed 16 = .ok (.iload_n 2, 1) := by decide +kernel
theorem d_Ga_isNamed_17 : decode b_Ga_isNamed 17 = .ok (.invokestatic 206, 3) := by decide +kernel
theorem d_Ga_isNamed_20 : decode b_Ga_isNamed 20 = .ok (.ifCond .eq 7, 3) := by decide +kernel
theorem d_Ga_isNamed_23 : decode b_Ga_isNamed 23 = .ok (.iconst 1, 1) := by decide +kernel
theorem d_Ga_isNamed_24 : decode b_Ga_isNamed 24 = .ok (.goto 4, 3) := by decide +kernel
theorem d_Ga_isNamed_27 : decode b_Ga_isNamed 27 = .ok (.iconst 0, 1) := by decide +kernel
theorem d_Ga_isNamed_28 : decode b_Ga_isNamed 28 = .ok (.ireturn, 1) := by decide +kernel
theorem d_Ga_isPrincipal_0 : decode b_Ga_isPrincipal 0 = .ok (.iload_n 0, 1) := by decide +kernel
theorem d_Ga_isPrincipal_1 : decode b_Ga_isPrincipal 1 = .ok (.ifCond .lt 13, 3) := by decide +kernel
theorem d_Ga_isPrincipal_4 : decode b_Ga_isPrincipal 4 = .ok (.iload_n 0, 1) := by decide +kernel
theorem d_Ga_isPrincipal_5 : decode b_Ga_isPrincipal 5 = .ok (.bipush 6, 2) := by decide +kernel
theorem d_Ga_isPrincipal_7 : decode b_Ga_isPrincipal 7 = .ok (.if_icmp .ge 7, 3) := by decide +kernel
theorem d_Ga_isPrincipal_10 : decode b_Ga_isPrincipal 10 = .ok (.iconst 1, 1) := by decide +kernel
theorem d_Ga_isPrincipal_11 : decode b_Ga_isPrincipal 11 = .ok (.goto 4, 3) := by decide +kernel
theorem d_Ga_isPrincipal_14 : decode b_Ga_isPrincipal 14 = .ok (.iconst 0, 1) := by decide +kernel
theorem d_Ga_isPrincipal_15 : decode b_Ga_isPrincipal 15 = .ok (.ireturn, 1) := by decide +kernel
theorem d_Ga_isObject_0 : decode b_Ga_isObject 0 = .ok (.iload_n 0, 1) := by decide +kernel
theorem d_Ga_isObject_1 : decode b_Ga_isObject 1 = .ok (.ifCond .lt 13, 3) := by decide +kernel
theorem d_Ga_isObject_4 : decode b_Ga_isObject 4 = .ok (.iload_n 0, 1) := by decide +kernel
theorem d_Ga_isObject_5 : decode b_Ga_isObject 5 = .ok (.bipush 6, 2) := by decide +kernel
theorem d_Ga_isObject_7 : decode b_Ga_isObject 7 = .ok (.if_icmp .ge 7, 3) := by decide +kernel
theorem d_Ga_isObject_10 : decode b_Ga_isObject 10 = .ok (.iconst 1, 1) := by decide +kernel
theorem d_Ga_isObject_11 : decode b_Ga_isObject 11 = .ok (.goto 4, 3) := by decide +kernel
theorem d_Ga_isObject_14 : decode b_Ga_isObject 14 = .ok (.iconst 0, 1) := by decide +kernel
theorem d_Ga_isObject_15 : decode b_Ga_isObject 15 = .ok (.ireturn, 1) := by decide +kernel
