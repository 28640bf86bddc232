theorem d_Pv_init_0 : decode b_Pv_init 0 = .ok (.aload_n 0, 1) := by decide +kernel
theorem d_Pv_init_1 : decode b_Pv_init 1 = .ok (.invokespecial 5, 3) := by decide +kernel
theorem d_Pv_init_4 : decode b_Pv_init 4 = .ok (.aload_n 0, 1) := by decide +kernel
theorem d_Pv_init_5 : decode b_Pv_init 5 = .ok (.new 11, 3) := by decide +kernel
theorem d_Pv_init_8 : decode b_Pv_init 8 = .ok (.dup, 1) := by decide +kernel
theorem d_Pv_init_9 : decode b_Pv_init 9 = .ok (.invokespecial 13, 3) := by decide +kernel
theorem d_Pv_init_12 : decode b_Pv_init 12 = .ok (.putfield 14, 3) := by decide +kernel
theorem d_Pv_init_15 : decode b_Pv_init 15 = .ok (.aload_n 0, 1) := by decide +kernel
theorem d_Pv_init_16 : decode b_Pv_init 16 = .ok (.sipush 756, 3) := by decide +kernel
theorem d_Pv_init_19 : decode b_Pv_init 19 = .ok (.newarray .int, 2) := by decide +kernel
theorem d_Pv_init_21 : decode b_Pv_init 21 = .ok (.putfield 18, 3) := by decide +kernel
theorem d_Pv_init_24 : decode b_Pv_init 24 = .ok (.aload_n 0, 1) := by decide +kernel
theorem d_Pv_init_25 : decode b_Pv_init 25 = .ok (.sipush 756, 3) := by decide +kernel
theorem d_Pv_init_28 : decode b_Pv_init 28 = .ok (.newarray .int, 2) := by decide +kernel
theorem d_Pv_init_30 : decode b_Pv_init 30 = .ok (.putfield 22, 3) := by decide +kernel
theorem d_Pv_init_33 : decode b_Pv_init 33 = .ok (.aload_n 0, 1) := by decide +kernel
theorem d_Pv_init_34 : decode b_Pv_init 34 = .ok (.sipush 756, 3) := by decide +kernel
theorem d_Pv_init_37 : decode b_Pv_init 37 = .ok (.newarray .int, 2) := by decide +kernel
theorem d_Pv_init_39 : decode b_Pv_init 39 = .ok (.putfield 25, 3) := by decide +kernel
theorem d_Pv_init_42 : decode b_Pv_init 42 = .ok (.aload_n 0, 1) := by decide +kernel
theorem d_Pv_init_43 : decode b_Pv_init 43 = .ok (.sipush 756, 3) := by decide +kernel
theorem d_Pv_init_46 : decode b_Pv_init 46 = .ok (.newarray .int, 2) := by decide +kernel
theorem d_Pv_init_48 : decode b_Pv_init 48 = .ok (.putfield 28, 3) := by decide +kernel
theorem d_Pv_init_51 : decode b_Pv_init 51 = .ok (.aload_n 0, 1) := by decide +kernel
theorem d_Pv_init_52 : decode b_Pv_init 52 = .ok (.sipush 756, 3) := by decide +kernel
theorem d_Pv_init_55 : decode b_Pv_init 55 = .ok (.newarray .int, 2) := by decide +kernel
theorem d_Pv_init_57 : decode b_Pv_init 57 = .ok (.putfield 31, 3) := by decide +kernel
theorem d_Pv_init_60 : decode b_Pv_init 60 = .ok (.aload_n 0, 1) := by decide +kernel
theorem d_Pv_init_61 : decode b_Pv_init 61 = .ok (.aload_n 1, 1) := by decide +kernel
theorem d_Pv_init_62 : decode b_Pv_init 62 = .ok (.putfield 34, 3) := by decide +kernel
theorem d_Pv_init_65 : decode b_Pv_init 65 = .ok (.return_, 1) := by decide +kernel
theorem d_Pv_written_0 : decode b_Pv_written 0 = .ok (.aload_n 0, 1) := by decide +kernel
theorem d_Pv_written_1 : decode b_Pv_written 1 = .ok (.getfield 14, 3) := by decide +kernel
theorem d_Pv_written_4 : decode b_Pv_written 4 = .ok (.areturn, 1) := by decide +kernel
theorem d_Pv_writeProof_0 : decode b_Pv_writeProof 0 = .ok (.iload_n 1, 1) := by decide +kernel
theorem d_Pv_writeProof_1 : decode b_Pv_writeProof 1 = .ok (.iload_n 2, 1) := by decide +kernel
theorem d_Pv_writeProof_2 : decode b_Pv_writeProof 2 = .ok (.iload_n 3, 1) := by decide +kernel
theorem d_Pv_writeProof_3 : decode b_Pv_writeProof 3 = .ok (.invokestatic 38, 3) := by decide +kernel
theorem d_Pv_writeProof_6 : decode b_Pv_writeProof 6 = .ok (.istore 5, 2) := by decide +kernel
theorem d_Pv_writeProof_8 : decode b_Pv_writeProof 8 = .ok (.aload_n 0, 1) := by decide +kernel
theorem d_Pv_writeProof_9 : decode b_Pv_writeProof 9 = .ok (.iload 5, 2) := by decide +kernel
theorem d_Pv_writeProof_11 : decode b_Pv_writeProof 11 = .ok (.iload 4, 2) := by decide +kernel
theorem d_Pv_writeProof_13 : decode b_Pv_writeProof 13 = .ok (.invokevirtual 42, 3) := by decide +kernel
theorem d_Pv_writeProof_16 : decode b_Pv_writeProof 16 = .ok (.ifCond .ne 6, 3) := by decide +kernel
theorem d_Pv_writeProof_19 : decode b_Pv_writeProof 19 = .ok (.bipush (-2), 2) := by decide +kernel
theorem d_Pv_writeProof_21 : decode b_Pv_writeProof 21 = .ok (.ireturn, 1) := by decide +kernel
theorem d_Pv_writeProof_22 : decode b_Pv_writeProof 22 = .ok (.aload_n 0, 1) := by decide +kernel
theorem d_Pv_writeProof_23 : decode b_Pv_writeProof 23 = .ok (.getfield 14, 3) := by decide +kernel
theorem d_Pv_writeProof_26 : decode b_Pv_writeProof 26 = .ok (.invokevirtual 46, 3) := by decide +kernel
theorem d_Pv_writeProof_29 : decode b_Pv_writeProof 29 = .ok (.pop, 1) := by decide +kernel
theorem d_Pv_writeProof_30 : decode b_Pv_writeProof 30 = .ok (.aload_n 0, 1) := by decide +kernel
theorem d_Pv_writeProof_31 : decode b_Pv_writeProof 31 = .ok (.getfield 31, 3) := by decide +kernel
theorem d_Pv_writeProof_34 : decode b_Pv_writeProof 34 = .ok (.iconst (-1), 1) := by decide +kernel
theorem d_Pv_writeProof_35 : decode b_Pv_writeProof 35 = .ok (.invokestatic 50, 3) := by decide +kernel
theorem d_Pv_writeProof_38 : decode b_Pv_writeProof 38 = .ok (.aload_n 0, 1) := by decide +kernel
theorem d_Pv_writeProof_39 : decode b_Pv_writeProof 39 = .ok (.iload 5, 2) := by decide +kernel
theorem d_Pv_writeProof_41 : decode b_Pv_writeProof 41 = .ok (.iconst 1, 1) := by decide +kernel
theorem d_Pv_writeProof_42 : decode b_Pv_writeProof 42 = .ok (.invokevirtual 56, 3) := by decide +kernel
theorem d_Pv_writeProof_45 : decode b_Pv_writeProof 45 = .ok (.ifCond .eq 13, 3) := by decide +kernel
theorem d_Pv_writeProof_48 : decode b_Pv_writeProof 48 = .ok (.aload_n 0, 1) := by decide +kernel
theorem d_Pv_writeProof_49 : decode b_Pv_writeProof 49 = .ok (.getfield 14, 3) := by decide +kernel
theorem d_Pv_writeProof_52 : decode b_Pv_writeProof 52 = .ok (.invokevirtual 59, 3) := by decide +kernel
theorem d_Pv_writeProof_55 : decode b_Pv_writeProof 55 = .ok (.goto 5, 3) := by decide +kernel
theorem d_Pv_writeProof_58 : decode b_Pv_writeProof 58 = .ok (.bipush (-3), 2) := by decide +kernel
theorem d_Pv_writeProof_60 : decode b_Pv_writeProof 60 = .ok (.ireturn, 1) := by decide +kernel
theorem d_Pv_finds_0 : decode b_Pv_finds 0 = .ok (.aload_n 0, 1) := by decide +kernel
theorem d_Pv_finds_1 : decode b_Pv_finds 1 = .ok (.getfield 18, 3) := by decide +kernel
theorem d_Pv_finds_4 : decode b_Pv_finds 4 = .ok (.iconst 0, 1) := by decide +kernel
theorem d_Pv_finds_5 : decode b_Pv_finds 5 = .ok (.invokestatic 50, 3) := by decide +kernel
theorem d_Pv_finds_8 : decode b_Pv_finds 8 = .ok (.aload_n 0, 1) := by decide +kernel
theorem d_Pv_finds_9 : decode b_Pv_finds 9 = .ok (.iconst 1, 1) := by decide +kernel
theorem d_Pv_finds_10 : decode b_Pv_finds 10 = .ok (.putfield 62, 3) := by decide +kernel
theorem d_Pv_finds_13 : decode b_Pv_finds 13 = .ok (.aload_n 0, 1) := by decide +kernel
theorem d_Pv_finds_14 : decode b_Pv_finds 14 = .ok (.iconst 0, 1) := by decide +kernel
theorem d_Pv_finds_15 : decode b_Pv_finds 15 = .ok (.putfield 66, 3) := by decide +kernel
theorem d_Pv_finds_18 : decode b_Pv_finds 18 = .ok (.aload_n 0, 1) := by decide +kernel
theorem d_Pv_finds_19 : decode b_Pv_finds 19 = .ok (.iload_n 2, 1) := by decide +kernel
theorem d_Pv_finds_20 : decode b_Pv_finds 20 = .ok (.invokevirtual 70, 3) := by decide +kernel
theorem d_Pv_finds_23 : decode b_Pv_finds 23 = .ok (.aload_n 0, 1) := by decide +kernel
theorem d_Pv_finds_24 : decode b_Pv_finds 24 = .ok (.getfield 18, 3) := by decide +kernel
theorem d_Pv_finds_27 : decode b_Pv_finds 27 = .ok (.iload_n 1, 1) := by decide +kernel
theorem d_Pv_finds_28 : decode b_Pv_finds 28 = .ok (.iaload, 1) := by decide +kernel
theorem d_Pv_finds_29 : decode b_Pv_finds 29 = .ok (.ifCond .ne 42, 3) := by decide +kernel
theorem d_Pv_finds_32 : decode b_Pv_finds 32 = .ok (.aload_n 0, 1) := by decide +kernel
theorem d_Pv_finds_33 : decode b_Pv_finds 33 = .ok (.getfield 66, 3) := by decide +kernel
theorem d_Pv_finds_36 : decode b_Pv_finds 36 = .ok (.ifCond .eq 35, 3) := by decide +kernel
theorem d_Pv_finds_39 : decode b_Pv_finds 39 = .ok (.aload_n 0, 1) := by decide +kernel
theorem d_Pv_finds_40 : decode b_Pv_finds 40 = .ok (.getfield 62, 3) := by decide +kernel
theorem d_Pv_finds_43 : decode b_Pv_finds 43 = .ok (.sipush 756, 3) := by decide +kernel
theorem d_Pv_finds_46 : decode b_Pv_finds 46 = .ok (.if_icmp .gt 25, 3) := by decide +kernel
theorem d_Pv_finds_49 : decode b_Pv_finds 49 = .ok (.aload_n 0, 1) := by decide +kernel
theorem d_Pv_finds_50 : decode b_Pv_finds 50 = .ok (.dup, 1) := by decide +kernel
theorem d_Pv_finds_51 : decode b_Pv_finds 51 = .ok (.getfield 62, 3) := by decide +kernel
theorem d_Pv_finds_54 : decode b_Pv_finds 54 = .ok (.iconst 1, 1) := by decide +kernel
theorem d_Pv_finds_55 : decode b_Pv_finds 55 = .ok (.iadd, 1) := by decide +kernel
theorem d_Pv_finds_56 : decode b_Pv_finds 56 = .ok (.putfield 62, 3) := by decide +kernel
theorem d_Pv_finds_59 : decode b_Pv_finds 59 = .ok (.aload_n 0, 1) := by decide +kernel
theorem d_Pv_finds_60 : decode b_Pv_finds 60 = .ok (.iconst 0, 1) := by decide +kernel
theorem d_Pv_finds_61 : decode b_Pv_finds 61 = .ok (.putfield 66, 3) := by decide +kernel
theorem d_Pv_finds_64 : decode b_Pv_finds 64 = .ok (.aload_n 0, 1) := by decide +kernel
theorem d_Pv_finds_65 : decode b_Pv_finds 65 = .ok (.invokevirtual 74, 3) := by decide +kernel
theorem d_Pv_finds_68 : decode b_Pv_finds 68 = .ok (.goto (-45), 3) := by decide +kernel
theorem d_Pv_finds_71 : decode b_Pv_finds 71 = .ok (.aload_n 0, 1) := by decide +kernel
theorem d_Pv_finds_72 : decode b_Pv_finds 72 = .ok (.getfield 18, 3) := by decide +kernel
theorem d_Pv_finds_75 : decode b_Pv_finds 75 = .ok (.iload_n 1, 1) := by decide +kernel
theorem d_Pv_finds_76 : decode b_Pv_finds 76 = .ok (.iaload, 1) := by decide +kernel
theorem d_Pv_finds_77 : decode b_Pv_finds 77 = .ok (.ifCond .eq 7, 3) := by decide +kernel
theorem d_Pv_finds_80 : decode b_Pv_finds 80 = .ok (.iconst 1, 1) := by decide +kernel
theorem d_Pv_finds_81 : decode b_Pv_finds 81 = .ok (.goto 4, 3) := by decide +kernel
theorem d_Pv_finds_84 : decode b_Pv_finds 84 = .ok (.iconst 0, 1) := by decide +kernel
theorem d_Pv_finds_85 : decode b_Pv_finds 85 = .ok (.ireturn, 1) := by decide +kernel
theorem d_Pv_findWhatFollows_0 : decode b_Pv_findWhatFollows 0 = .ok (.aload_n 0, 1) := by decide +kernel
theorem d_Pv_findWhatFollows_1 : decode b_Pv_findWhatFollows 1 = .ok (.invokevirtual 77, 3) := by decide +kernel
theorem d_Pv_findWhatFollows_4 : decode b_Pv_findWhatFollows 4 = .ok (.aload_n 0, 1) := by decide +kernel
theorem d_Pv_findWhatFollows_5 : decode b_Pv_findWhatFollows 5 = .ok (.invokevirtual 80, 3) := by decide +kernel
theorem d_Pv_findWhatFollows_8 : decode b_Pv_findWhatFollows 8 = .ok (.aload_n 0, 1) := by decide +kernel
theorem d_Pv_findWhatFollows_9 : decode b_Pv_findWhatFollows 9 = .ok (.invokevirtual 83, 3) := by decide +kernel
theorem d_Pv_findWhatFollows_12 : decode b_Pv_findWhatFollows 12 = .ok (.aload_n 0, 1) := by decide +kernel
theorem d_Pv_findWhatFollows_13 : decode b_Pv_findWhatFollows 13 = .ok (.invokevirtual 86, 3) := by decide +kernel
theorem d_Pv_findWhatFollows_16 : decode b_Pv_findWhatFollows 16 = .ok (.aload_n 0, 1) := by decide +kernel
theorem d_Pv_findWhatFollows_17 : decode b_Pv_findWhatFollows 17 = .ok (.invokevirtual 89, 3) := by decide +kernel
theorem d_Pv_findWhatFollows_20 : decode b_Pv_findWhatFollows 20 = .ok (.aload_n 0, 1) := by decide +kernel
theorem d_Pv_findWhatFollows_21 : decode b_Pv_findWhatFollows 21 = .ok (.invokevirtual 92, 3) := by decide +kernel
theorem d_Pv_findWhatFollows_24 : decode b_Pv_findWhatFollows 24 = .ok (.return_, 1) := by decide +kernel
theorem d_Pv_findWhatIsSaid_0 : decode b_Pv_findWhatIsSaid 0 = .ok (.iconst 1, 1) := by decide +kernel
theorem d_Pv_findWhatIsSaid_1 : decode b_Pv_findWhatIsSaid 1 = .ok (.istore_n 2, 1) := by decide +kernel
theorem d_Pv_findWhatIsSaid_2 : decode b_Pv_findWhatIsSaid 2 = .ok (.iload_n 2, 1) := by decide +kernel
theorem d_Pv_findWhatIsSaid_3 : decode b_Pv_findWhatIsSaid 3 = .ok (.aload_n 0, 1) := by decide +kernel
theorem d_Pv_findWhatIsSaid_4 : decode b_Pv_findWhatIsSaid 4 = .ok (.getfield 34, 3) := by decide +kernel
theorem d_Pv_findWhatIsSaid_7 : decode b_Pv_findWhatIsSaid 7 = .ok (.invokevirtual 95, 3) := by decide +kernel
theorem d_Pv_findWhatIsSaid_10 : decode b_Pv_findWhatIsSaid 10 = .ok (.if_icmp .gt 47, 3) := by decide +kernel
theorem d_Pv_findWhatIsSaid_13 : decode b_Pv_findWhatIsSaid 13 = .ok (.aload_n 0, 1) := by decide +kernel
theorem d_Pv_findWhatIsSaid_14 : decode b_Pv_findWhatIsSaid 14 = .ok (.getfield 34, 3) := by decide +kernel
theorem d_Pv_findWhatIsSaid_17 : decode b_Pv_findWhatIsSaid 17 = .ok (.iload_n 2, 1) := by decide +kernel
theorem d_Pv_findWhatIsSaid_18 : decode b_Pv_findWhatIsSaid 18 = .ok (.invokevirtual 100, 3) := by decide +kernel
theorem d_Pv_findWhatIsSaid_21 : decode b_Pv_findWhatIsSaid 21 = .ok (.astore_n 3, 1) := by decide +kernel
theorem d_Pv_findWhatIsSaid_22 : decode b_Pv_findWhatIsSaid 22 = .ok (.aload_n 3, 1) := by decide +kernel
theorem d_Pv_findWhatIsSaid_23 : decode b_Pv_findWhatIsSaid 23 = .ok (.ifnonnull 7, 3) := by decide +kernel
theorem d_Pv_findWhatIsSaid_26 : decode b_Pv_findWhatIsSaid 26 = .ok (.iconst (-1), 1) := by decide +kernel
theorem d_Pv_findWhatIsSaid_27 : decode b_Pv_findWhatIsSaid 27 = .ok (.goto 8, 3) := by decide +kernel
theorem d_Pv_findWhatIsSaid_30 : decode b_Pv_findWhatIsSaid 30 = .ok (.aload_n 3, 1) := by decide +kernel
theorem d_Pv_findWhatIsSaid_31 : decode b_Pv_findWhatIsSaid 31 = .ok (.iload_n 1, 1) := by decide +kernel
theorem d_Pv_findWhatIsSaid_32 : decode b_Pv_findWhatIsSaid 32 = .ok (.invokestatic 104, 3) := by decide +kernel
theorem d_Pv_findWhatIsSaid_35 : decode b_Pv_findWhatIsSaid 35 = .ok (.istore 4, 2) := by decide +kernel
theorem d_Pv_findWhatIsSaid_37 : decode b_Pv_findWhatIsSaid 37 = .ok (.iload 4, 2) := by decide +kernel
theorem d_Pv_findWhatIsSaid_39 : decode b_Pv_findWhatIsSaid 39 = .ok (.ifCond .lt 12, 3) := by decide +kernel
theorem d_Pv_findWhatIsSaid_42 : decode b_Pv_findWhatIsSaid 42 = .ok (.aload_n 0, 1) := by decide +kernel
theorem d_Pv_findWhatIsSaid_43 : decode b_Pv_findWhatIsSaid 43 = .ok (.iload 4, 2) := by decide +kernel
theorem d_Pv_findWhatIsSaid_45 : decode b_Pv_findWhatIsSaid 45 = .ok (.iconst 1, 1) := by decide +kernel
theorem d_Pv_findWhatIsSaid_46 : decode b_Pv_findWhatIsSaid 46 = .ok (.iload_n 2, 1) := by decide +kernel
theorem d_Pv_findWhatIsSaid_47 : decode b_Pv_findWhatIsSaid 47 = .ok (.iconst 0, 1) := by decide +kernel
theorem d_Pv_findWhatIsSaid_48 : decode b_Pv_findWhatIsSaid 48 = .ok (.invokevirtual 108, 3) := by decide +kernel
theorem d_Pv_findWhatIsSaid_51 : decode b_Pv_findWhatIsSaid 51 = .ok (.iinc 2 1, 3) := by decide +kernel
theorem d_Pv_findWhatIsSaid_54 : decode b_Pv_findWhatIsSaid 54 = .ok (.goto (-52), 3) := by decide +kernel
theorem d_Pv_findWhatIsSaid_57 : decode b_Pv_findWhatIsSaid 57 = .ok (.return_, 1) := by decide +kernel
theorem d_Pv_factSaidBy_0 : decode b_Pv_factSaidBy 0 = .ok (.aload_n 0, 1) := by decide +kernel
theorem d_Pv_factSaidBy_1 : decode b_Pv_factSaidBy 1 = .ok (.getfield 112, 3) := by decide +kernel
theorem d_Pv_factSaidBy_4 : decode b_Pv_factSaidBy 4 = .ok (.astore_n 2, 1) := by decide +kernel
theorem d_Pv_factSaidBy_5 : decode b_Pv_factSaidBy 5 = .ok (.aload_n 0, 1) := by decide +kernel
theorem d_Pv_factSaidBy_6 : decode b_Pv_factSaidBy 6 = .ok (.getfield 117, 3) := by decide +kernel
theorem d_Pv_factSaidBy_9 : decode b_Pv_factSaidBy 9 = .ok (.tableswitch 91 0 2 #[27, 52, 63], 27) := by decide +kernel
theorem d_Pv_factSaidBy_36 : decode b_Pv_factSaidBy 36 = .ok (.aload_n 2, 1) := by decide +kernel
theorem d_Pv_factSaidBy_37 : decode b_Pv_factSaidBy 37 = .ok (.iconst 2, 1) := by decide +kernel
theorem d_Pv_factSaidBy_38 : decode b_Pv_factSaidBy 38 = .ok (.iaload, 1) := by decide +kernel
theorem d_Pv_factSaidBy_39 : decode b_Pv_factSaidBy 39 = .ok (.iload_n 1, 1) := by decide +kernel
theorem d_Pv_factSaidBy_40 : decode b_Pv_factSaidBy 40 = .ok (.if_icmp .ne 19, 3) := by decide +kernel
theorem d_Pv_factSaidBy_43 : decode b_Pv_factSaidBy 43 = .ok (.aload_n 0, 1) := by decide +kernel
theorem d_Pv_factSaidBy_44 : decode b_Pv_factSaidBy 44 = .ok (.getfield 120, 3) := by decide +kernel
theorem d_Pv_factSaidBy_47 : decode b_Pv_factSaidBy 47 = .ok (.aload_n 2, 1) := by decide +kernel
theorem d_Pv_factSaidBy_48 : decode b_Pv_factSaidBy 48 = .ok (.iconst 0, 1) := by decide +kernel
theorem d_Pv_factSaidBy_49 : decode b_Pv_factSaidBy 49 = .ok (.iaload, 1) := by decide +kernel
theorem d_Pv_factSaidBy_50 : decode b_Pv_factSaidBy 50 = .ok (.aload_n 2, 1) := by decide +kernel
theorem d_Pv_factSaidBy_51 : decode b_Pv_factSaidBy 51 = .ok (.iconst 1, 1) := by decide +kernel
theorem d_Pv_factSaidBy_52 : decode b_Pv_factSaidBy 52 = .ok (.iaload, 1) := by decide +kernel
theorem d_Pv_factSaidBy_53 : decode b_Pv_factSaidBy 53 = .ok (.invokestatic 38, 3) := by decide +kernel
theorem d_Pv_factSaidBy_56 : decode b_Pv_factSaidBy 56 = .ok (.goto 4, 3) := by decide +kernel
theorem d_Pv_factSaidBy_59 : decode b_Pv_factSaidBy 59 = .ok (.iconst (-1), 1) := by decide +kernel
theorem d_Pv_factSaidBy_60 : decode b_Pv_factSaidBy 60 = .ok (.ireturn, 1) := by decide +kernel
theorem d_Pv_factSaidBy_61 : decode b_Pv_factSaidBy 61 = .ok (.aload_n 2, 1) := by decide +kernel
theorem d_Pv_factSaidBy_62 : decode b_Pv_factSaidBy 62 = .ok (.iconst 0, 1) := by decide +kernel
theorem d_Pv_factSaidBy_63 : decode b_Pv_factSaidBy 63 = .ok (.iaload, 1) := by decide +kernel
theorem d_Pv_factSaidBy_64 : decode b_Pv_factSaidBy 64 = .ok (.aload_n 0, 1) := by decide +kernel
theorem d_Pv_factSaidBy_65 : decode b_Pv_factSaidBy 65 = .ok (.getfield 120, 3) := by decide +kernel
theorem d_Pv_factSaidBy_68 : decode b_Pv_factSaidBy 68 = .ok (.invokestatic 123, 3) := by decide +kernel
theorem d_Pv_factSaidBy_71 : decode b_Pv_factSaidBy 71 = .ok (.ireturn, 1) := by decide +kernel
theorem d_Pv_factSaidBy_72 : decode b_Pv_factSaidBy 72 = .ok (.aload_n 2, 1) := by decide +kernel
theorem d_Pv_factSaidBy_73 : decode b_Pv_factSaidBy 73 = .ok (.iconst 2, 1) := by decide +kernel
theorem d_Pv_factSaidBy_74 : decode b_Pv_factSaidBy 74 = .ok (.iaload, 1) := by decide +kernel
theorem d_Pv_factSaidBy_75 : decode b_Pv_factSaidBy 75 = .ok (.iload_n 1, 1) := by decide +kernel
theorem d_Pv_factSaidBy_76 : decode b_Pv_factSaidBy 76 = .ok (.if_icmp .ne 22, 3) := by decide +kernel
theorem d_Pv_factSaidBy_79 : decode b_Pv_factSaidBy 79 = .ok (.aload_n 0, 1) := by decide +kernel
theorem d_Pv_factSaidBy_80 : decode b_Pv_factSaidBy 80 = .ok (.getfield 120, 3) := by decide +kernel
theorem d_Pv_factSaidBy_83 : decode b_Pv_factSaidBy 83 = .ok (.aload_n 2, 1) := by decide +kernel
theorem d_Pv_factSaidBy_84 : decode b_Pv_factSaidBy 84 = .ok (.iconst 0, 1) := by decide +kernel
theorem d_Pv_factSaidBy_85 : decode b_Pv_factSaidBy 85 = .ok (.iaload, 1) := by decide +kernel
theorem d_Pv_factSaidBy_86 : decode b_Pv_factSaidBy 86 = .ok (.aload_n 2, 1) := by decide +kernel
theorem d_Pv_factSaidBy_87 : decode b_Pv_factSaidBy 87 = .ok (.iconst 1, 1) := by decide +kernel
theorem d_Pv_factSaidBy_88 : decode b_Pv_factSaidBy 88 = .ok (.iaload, 1) := by decide +kernel
theorem d_Pv_factSaidBy_89 : decode b_Pv_factSaidBy 89 = .ok (.aload_n 2, 1) := by decide +kernel
theorem d_Pv_factSaidBy_90 : decode b_Pv_factSaidBy 90 = .ok (.iconst 3, 1) := by decide +kernel
theorem d_Pv_factSaidBy_91 : decode b_Pv_factSaidBy 91 = .ok (.iaload, 1) := by decide +kernel
theorem d_Pv_factSaidBy_92 : decode b_Pv_factSaidBy 92 = .ok (.invokestatic 127, 3) := by decide +kernel
theorem d_Pv_factSaidBy_95 : decode b_Pv_factSaidBy 95 = .ok (.goto 4, 3) := by decide +kernel
theorem d_Pv_factSaidBy_98 : decode b_Pv_factSaidBy 98 = .ok (.iconst (-1), 1) := by decide +kernel
theorem d_Pv_factSaidBy_99 : decode b_Pv_factSaidBy 99 = .ok (.ireturn, 1) := by decide +kernel
theorem d_Pv_factSaidBy_100 : decode b_Pv_factSaidBy 100 = .ok (.iconst (-1), 1) := by decide +kernel
theorem d_Pv_factSaidBy_101 : decode b_Pv_factSaidBy 101 = .ok (.ireturn, 1) := by decide +kernel
theorem d_Pv_findMayByVoice_0 : decode b_Pv_findMayByVoice 0 = .ok (.iconst 0, 1) := by decide +kernel
theorem d_Pv_findMayByVoice_1 : decode b_Pv_findMayByVoice 1 = .ok (.istore_n 1, 1) := by decide +kernel
theorem d_Pv_findMayByVoice_2 : decode b_Pv_findMayByVoice 2 = .ok (.iload_n 1, 1) := by decide +kernel
theorem d_Pv_findMayByVoice_3 : decode b_Pv_findMayByVoice 3 = .ok (.bipush 6, 2) := by decide +kernel
theorem d_Pv_findMayByVoice_5 : decode b_Pv_findMayByVoice 5 = .ok (.if_icmp .ge 62, 3) := by decide +kernel
theorem d_Pv_findMayByVoice_8 : decode b_Pv_findMayByVoice 8 = .ok (.iconst 0, 1) := by decide +kernel
theorem d_Pv_findMayByVoice_9 : decode b_Pv_findMayByVoice 9 = .ok (.istore_n 2, 1) := by decide +kernel
theorem d_Pv_findMayByVoice_10 : decode b_Pv_findMayByVoice 10 = .ok (.iload_n 2, 1) := by decide +kernel
theorem d_Pv_findMayByVoice_11 : decode b_Pv_findMayByVoice 11 = .ok (.bipush 6, 2) := by decide +kernel
theorem d_Pv_findMayByVoice_13 : decode b_Pv_findMayByVoice 13 = .ok (.if_icmp .ge 48, 3) := by decide +kernel
theorem d_Pv_findMayByVoice_16 : decode b_Pv_findMayByVoice 16 = .ok (.iload_n 1, 1) := by decide +kernel
theorem d_Pv_findMayByVoice_17 : decode b_Pv_findMayByVoice 17 = .ok (.iload_n 2, 1) := by decide +kernel
theorem d_Pv_findMayByVoice_18 : decode b_Pv_findMayByVoice 18 = .ok (.invokestatic 123, 3) := by decide +kernel
theorem d_Pv_findMayByVoice_21 : decode b_Pv_findMayByVoice 21 = .ok (.istore_n 3, 1) := by decide +kernel
theorem d_Pv_findMayByVoice_22 : decode b_Pv_findMayByVoice 22 = .ok (.aload_n 0, 1) := by decide +kernel
theorem d_Pv_findMayByVoice_23 : decode b_Pv_findMayByVoice 23 = .ok (.iload_n 3, 1) := by decide +kernel
theorem d_Pv_findMayByVoice_24 : decode b_Pv_findMayByVoice 24 = .ok (.invokevirtual 131, 3) := by decide +kernel
theorem d_Pv_findMayByVoice_27 : decode b_Pv_findMayByVoice 27 = .ok (.ifCond .eq 28, 3) := by decide +kernel
theorem d_Pv_findMayByVoice_30 : decode b_Pv_findMayByVoice 30 = .ok (.iconst 0, 1) := by decide +kernel
theorem d_Pv_findMayByVoice_31 : decode b_Pv_findMayByVoice 31 = .ok (.istore 4, 2) := by decide +kernel
theorem d_Pv_findMayByVoice_33 : decode b_Pv_findMayByVoice 33 = .ok (.iload 4, 2) := by decide +kernel
theorem d_Pv_findMayByVoice_35 : decode b_Pv_findMayByVoice 35 = .ok (.iconst 4, 1) := by decide +kernel
theorem d_Pv_findMayByVoice_36 : decode b_Pv_findMayByVoice 36 = .ok (.if_icmp .ge 19, 3) := by decide +kernel
theorem d_Pv_findMayByVoice_39 : decode b_Pv_findMayByVoice 39 = .ok (.aload_n 0, 1) := by decide +kernel
theorem d_Pv_findMayByVoice_40 : decode b_Pv_findMayByVoice 40 = .ok (.iconst 2, 1) := by decide +kernel
theorem d_Pv_findMayByVoice_41 : decode b_Pv_findMayByVoice 41 = .ok (.iload_n 3, 1) := by decide +kernel
theorem d_Pv_findMayByVoice_42 : decode b_Pv_findMayByVoice 42 = .ok (.iload_n 2, 1) := by decide +kernel
theorem d_Pv_findMayByVoice_43 : decode b_Pv_findMayByVoice 43 = .ok (.iload_n 1, 1) := by decide +kernel
theorem d_Pv_findMayByVoice_44 : decode b_Pv_findMayByVoice 44 = .ok (.iload 4, 2) := by decide +kernel
theorem d_Pv_findMayByVoice_46 : decode b_Pv_findMayByVoice 46 = .ok (.invokevirtual 135, 3) := by decide +kernel
theorem d_Pv_findMayByVoice_49 : decode b_Pv_findMayByVoice 49 = .ok (.iinc 4 1, 3) := by decide +kernel
theorem d_Pv_findMayByVoice_52 : decode b_Pv_findMayByVoice 52 = .ok (.goto (-19), 3) := by decide +kernel
theorem d_Pv_findMayByVoice_55 : decode b_Pv_findMayByVoice 55 = .ok (.iinc 2 1, 3) := by decide +kernel
theorem d_Pv_findMayByVoice_58 : decode b_Pv_findMayByVoice 58 = .ok (.goto (-48), 3) := by decide +kernel
theorem d_Pv_findMayByVoice_61 : decode b_Pv_findMayByVoice 61 = .ok (.iinc 1 1, 3) := by decide +kernel
theorem d_Pv_findMayByVoice_64 : decode b_Pv_findMayByVoice 64 = .ok (.goto (-62), 3) := by decide +kernel
theorem d_Pv_findMayByVoice_67 : decode b_Pv_findMayByVoice 67 = .ok (.return_, 1) := by decide +kernel
theorem d_Pv_findMayByTrust_0 : decode b_Pv_findMayByTrust 0 = .ok (.iconst 0, 1) := by decide +kernel
theorem d_Pv_findMayByTrust_1 : decode b_Pv_findMayByTrust 1 = .ok (.istore_n 1, 1) := by decide +kernel
theorem d_Pv_findMayByTrust_2 : decode b_Pv_findMayByTrust 2 = .ok (.iload_n 1, 1) := by decide +kernel
theorem d_Pv_findMayByTrust_3 : decode b_Pv_findMayByTrust 3 = .ok (.bipush 6, 2) := by decide +kernel
theorem d_Pv_findMayByTrust_5 : decode b_Pv_findMayByTrust 5 = .ok (.if_icmp .ge 80, 3) := by decide +kernel
theorem d_Pv_findMayByTrust_8 : decode b_Pv_findMayByTrust 8 = .ok (.iconst 0, 1) := by decide +kernel
theorem d_Pv_findMayByTrust_9 : decode b_Pv_findMayByTrust 9 = .ok (.istore_n 2, 1) := by decide +kernel
theorem d_Pv_findMayByTrust_10 : decode b_Pv_findMayByTrust 10 = .ok (.iload_n 2, 1) := by decide +kernel
theorem d_Pv_findMayByTrust_11 : decode b_Pv_findMayByTrust 11 = .ok (.bipush 6, 2) := by decide +kernel
theorem d_Pv_findMayByTrust_13 : decode b_Pv_findMayByTrust 13 = .ok (.if_icmp .ge 66, 3) := by decide +kernel
theorem d_Pv_findMayByTrust_16 : decode b_Pv_findMayByTrust 16 = .ok (.iconst 0, 1) := by decide +kernel
theorem d_Pv_findMayByTrust_17 : decode b_Pv_findMayByTrust 17 = .ok (.istore_n 3, 1) := by decide +kernel
theorem d_Pv_findMayByTrust_18 : decode b_Pv_findMayByTrust 18 = .ok (.iload_n 3, 1) := by decide +kernel
theorem d_Pv_findMayByTrust_19 : decode b_Pv_findMayByTrust 19 = .ok (.iconst 4, 1) := by decide +kernel
theorem d_Pv_findMayByTrust_20 : decode b_Pv_findMayByTrust 20 = .ok (.if_icmp .ge 53, 3) := by decide +kernel
theorem d_Pv_findMayByTrust_23 : decode b_Pv_findMayByTrust 23 = .ok (.iconst 0, 1) := by decide +kernel
theorem d_Pv_findMayByTrust_24 : decode b_Pv_findMayByTrust 24 = .ok (.istore 4, 2) := by decide +kernel
theorem d_Pv_findMayByTrust_26 : decode b_Pv_findMayByTrust 26 = .ok (.iload 4, 2) := by decide +kernel
theorem d_Pv_findMayByTrust_28 : decode b_Pv_findMayByTrust 28 = .ok (.iconst 4, 1) := by decide +kernel
theorem d_Pv_findMayByTrust_29 : decode b_Pv_findMayByTrust 29 = .ok (.if_icmp .ge 38, 3) := by decide +kernel
theorem d_Pv_findMayByTrust_32 : decode b_Pv_findMayByTrust 32 = .ok (.iload_n 2, 1) := by decide +kernel
theorem d_Pv_findMayByTrust_33 : decode b_Pv_findMayByTrust 33 = .ok (.iload_n 1, 1) := by decide +kernel
theorem d_Pv_findMayByTrust_34 : decode b_Pv_findMayByTrust 34 = .ok (.iload_n 3, 1) := by decide +kernel
theorem d_Pv_findMayByTrust_35 : decode b_Pv_findMayByTrust 35 = .ok (.iload 4, 2) := by decide +kernel
theorem d_Pv_findMayByTrust_37 : decode b_Pv_findMayByTrust 37 = .ok (.invokestatic 127, 3) := by decide +kernel
theorem d_Pv_findMayByTrust_40 : decode b_Pv_findMayByTrust 40 = .ok (.istore 5, 2) := by decide +kernel
theorem d_Pv_findMayByTrust_42 : decode b_Pv_findMayByTrust 42 = .ok (.aload_n 0, 1) := by decide +kernel
theorem d_Pv_findMayByTrust_43 : decode b_Pv_findMayByTrust 43 = .ok (.iload 5, 2) := by decide +kernel
theorem d_Pv_findMayByTrust_45 : decode b_Pv_findMayByTrust 45 = .ok (.invokevirtual 131, 3) := by decide +kernel
theorem d_Pv_findMayByTrust_48 : decode b_Pv_findMayByTrust 48 = .ok (.ifCond .eq 13, 3) := by decide +kernel
theorem d_Pv_findMayByTrust_51 : decode b_Pv_findMayByTrust 51 = .ok (.aload_n 0, 1) := by decide +kernel
theorem d_Pv_findMayByTrust_52 : decode b_Pv_findMayByTrust 52 = .ok (.iconst 3, 1) := by decide +kernel
theorem d_Pv_findMayByTrust_53 : decode b_Pv_findMayByTrust 53 = .ok (.iload 5, 2) := by decide +kernel
theorem d_Pv_findMayByTrust_55 : decode b_Pv_findMayByTrust 55 = .ok (.iload_n 2, 1) := by decide +kernel
theorem d_Pv_findMayByTrust_56 : decode b_Pv_findMayByTrust 56 = .ok (.iload_n 1, 1) := by decide +kernel
theorem d_Pv_findMayByTrust_57 : decode b_Pv_findMayByTrust 57 = .ok (.iload_n 3, 1) := by decide +kernel
theorem d_Pv_findMayByTrust_58 : decode b_Pv_findMayByTrust 58 = .ok (.invokevirtual 135, 3) := by decide +kernel
theorem d_Pv_findMayByTrust_61 : decode b_Pv_findMayByTrust 61 = .ok (.iinc 4 1, 3) := by decide +kernel
theorem d_Pv_findMayByTrust_64 : decode b_Pv_findMayByTrust 64 = .ok (.goto (-38), 3) := by decide +kernel
theorem d_Pv_findMayByTrust_67 : decode b_Pv_findMayByTrust 67 = .ok (.iinc 3 1, 3) := by decide +kernel
theorem d_Pv_findMayByTrust_70 : decode b_Pv_findMayByTrust 70 = .ok (.goto (-52), 3) := by decide +kernel
theorem d_Pv_findMayByTrust_73 : decode b_Pv_findMayByTrust 73 = .ok (.iinc 2 1, 3) := by decide +kernel
theorem d_Pv_findMayByTrust_76 : decode b_Pv_findMayByTrust 76 = .ok (.goto (-66), 3) := by decide +kernel
theorem d_Pv_findMayByTrust_79 : decode b_Pv_findMayByTrust 79 = .ok (.iinc 1 1, 3) := by decide +kernel
theorem d_Pv_findMayByTrust_82 : decode b_Pv_findMayByTrust 82 = .ok (.goto (-80), 3) := by decide +kernel
theorem d_Pv_findMayByTrust_85 : decode b_Pv_findMayByTrust 85 = .ok (.return_, 1) := by decide +kernel
theorem d_Pv_handOnMay_0 : decode b_Pv_handOnMay 0 = .ok (.iconst 0, 1) := by decide +kernel
theorem d_Pv_handOnMay_1 : decode b_Pv_handOnMay 1 = .ok (.istore 6, 2) := by decide +kernel
theorem d_Pv_handOnMay_3 : decode b_Pv_handOnMay 3 = .ok (.iload 6, 2) := by decide +kernel
theorem d_Pv_handOnMay_5 : decode b_Pv_handOnMay 5 = .ok (.bipush 6, 2) := by decide +kernel
theorem d_Pv_handOnMay_7 : decode b_Pv_handOnMay 7 = .ok (.if_icmp .ge 45, 3) := by decide +kernel
theorem d_Pv_handOnMay_10 : decode b_Pv_handOnMay 10 = .ok (.iload 4, 2) := by decide +kernel
theorem d_Pv_handOnMay_12 : decode b_Pv_handOnMay 12 = .ok (.iload 6, 2) := by decide +kernel
theorem d_Pv_handOnMay_14 : decode b_Pv_handOnMay 14 = .ok (.iload 5, 2) := by decide +kernel
theorem d_Pv_handOnMay_16 : decode b_Pv_handOnMay 16 = .ok (.invokestatic 38, 3) := by decide +kernel
theorem d_Pv_handOnMay_19 : decode b_Pv_handOnMay 19 = .ok (.istore 7, 2) := by decide +kernel
theorem d_Pv_handOnMay_21 : decode b_Pv_handOnMay 21 = .ok (.aload_n 0, 1) := by decide +kernel
theorem d_Pv_handOnMay_22 : decode b_Pv_handOnMay 22 = .ok (.iload 7, 2) := by decide +kernel
theorem d_Pv_handOnMay_24 : decode b_Pv_handOnMay 24 = .ok (.invokevirtual 131, 3) := by decide +kernel
theorem d_Pv_handOnMay_27 : decode b_Pv_handOnMay 27 = .ok (.ifCond .eq 19, 3) := by decide +kernel
theorem d_Pv_handOnMay_30 : decode b_Pv_handOnMay 30 = .ok (.aload_n 0, 1) := by decide +kernel
theorem d_Pv_handOnMay_31 : decode b_Pv_handOnMay 31 = .ok (.iload_n 3, 1) := by decide +kernel
theorem d_Pv_handOnMay_32 : decode b_Pv_handOnMay 32 = .ok (.iload 6, 2) := by decide +kernel
theorem d_Pv_handOnMay_34 : decode b_Pv_handOnMay 34 = .ok (.iload 5, 2) := by decide +kernel
theorem d_Pv_handOnMay_36 : decode b_Pv_handOnMay 36 = .ok (.invokestatic 38, 3) := by decide +kernel
theorem d_Pv_handOnMay_39 : decode b_Pv_handOnMay 39 = .ok (.iload_n 1, 1) := by decide +kernel
theorem d_Pv_handOnMay_40 : decode b_Pv_handOnMay 40 = .ok (.iload_n 2, 1) := by decide +kernel
theorem d_Pv_handOnMay_41 : decode b_Pv_handOnMay 41 = .ok (.iload 7, 2) := by decide +kernel
theorem d_Pv_handOnMay_43 : decode b_Pv_handOnMay 43 = .ok (.invokevirtual 108, 3) := by decide +kernel
theorem d_Pv_handOnMay_46 : decode b_Pv_handOnMay 46 = .ok (.iinc 6 1, 3) := by decide +kernel
theorem d_Pv_handOnMay_49 : decode b_Pv_handOnMay 49 = .ok (.goto (-46), 3) := by decide +kernel
theorem d_Pv_handOnMay_52 : decode b_Pv_handOnMay 52 = .ok (.return_, 1) := by decide +kernel
theorem d_Pv_findTrustByTrust_0 : decode b_Pv_findTrustByTrust 0 = .ok (.iconst 0, 1) := by decide +kernel
theorem d_Pv_findTrustByTrust_1 : decode b_Pv_findTrustByTrust 1 = .ok (.istore_n 1, 1) := by decide +kernel
theorem d_Pv_findTrustByTrust_2 : decode b_Pv_findTrustByTrust 2 = .ok (.iload_n 1, 1) := by decide +kernel
theorem d_Pv_findTrustByTrust_3 : decode b_Pv_findTrustByTrust 3 = .ok (.bipush 6, 2) := by decide +kernel
theorem d_Pv_findTrustByTrust_5 : decode b_Pv_findTrustByTrust 5 = .ok (.if_icmp .ge 84, 3) := by decide +kernel
theorem d_Pv_findTrustByTrust_8 : decode b_Pv_findTrustByTrust 8 = .ok (.iconst 0, 1) := by decide +kernel
theorem d_Pv_findTrustByTrust_9 : decode b_Pv_findTrustByTrust 9 = .ok (.istore_n 2, 1) := by decide +kernel
theorem d_Pv_findTrustByTrust_10 : decode b_Pv_findTrustByTrust 10 = .ok (.iload_n 2, 1) := by decide +kernel
theorem d_Pv_findTrustByTrust_11 : decode b_Pv_findTrustByTrust 11 = .ok (.bipush 6, 2) := by decide +kernel
theorem d_Pv_findTrustByTrust_13 : decode b_Pv_findTrustByTrust 13 = .ok (.if_icmp .ge 70, 3) := by decide +kernel
theorem d_Pv_findTrustByTrust_16 : decode b_Pv_findTrustByTrust 16 = .ok (.iconst 0, 1) := by decide +kernel
theorem d_Pv_findTrustByTrust_17 : decode b_Pv_findTrustByTrust 17 = .ok (.istore_n 3, 1) := by decide +kernel
theorem d_Pv_findTrustByTrust_18 : decode b_Pv_findTrustByTrust 18 = .ok (.iload_n 3, 1) := by decide +kernel
theorem d_Pv_findTrustByTrust_19 : decode b_Pv_findTrustByTrust 19 = .ok (.iconst 4, 1) := by decide +kernel
theorem d_Pv_findTrustByTrust_20 : decode b_Pv_findTrustByTrust 20 = .ok (.if_icmp .ge 57, 3) := by decide +kernel
theorem d_Pv_findTrustByTrust_23 : decode b_Pv_findTrustByTrust 23 = .ok (.iconst 1, 1) := by decide +kernel
theorem d_Pv_findTrustByTrust_24 : decode b_Pv_findTrustByTrust 24 = .ok (.istore 4, 2) := by decide +kernel
theorem d_Pv_findTrustByTrust_26 : decode b_Pv_findTrustByTrust 26 = .ok (.iload 4, 2) := by decide +kernel
theorem d_Pv_findTrustByTrust_28 : decode b_Pv_findTrustByTrust 28 = .ok (.iconst 4, 1) := by decide +kernel
theorem d_Pv_findTrustByTrust_29 : decode b_Pv_findTrustByTrust 29 = .ok (.if_icmp .ge 42, 3) := by decide +kernel
theorem d_Pv_findTrustByTrust_32 : decode b_Pv_findTrustByTrust 32 = .ok (.iload_n 2, 1) := by decide +kernel
theorem d_Pv_findTrustByTrust_33 : decode b_Pv_findTrustByTrust 33 = .ok (.iload_n 1, 1) := by decide +kernel
theorem d_Pv_findTrustByTrust_34 : decode b_Pv_findTrustByTrust 34 = .ok (.iload_n 3, 1) := by decide +kernel
theorem d_Pv_findTrustByTrust_35 : decode b_Pv_findTrustByTrust 35 = .ok (.iload 4, 2) := by decide +kernel
theorem d_Pv_findTrustByTrust_37 : decode b_Pv_findTrustByTrust 37 = .ok (.invokestatic 127, 3) := by decide +kernel
theorem d_Pv_findTrustByTrust_40 : decode b_Pv_findTrustByTrust 40 = .ok (.istore 5, 2) := by decide +kernel
theorem d_Pv_findTrustByTrust_42 : decode b_Pv_findTrustByTrust 42 = .ok (.aload_n 0, 1) := by decide +kernel
theorem d_Pv_findTrustByTrust_43 : decode b_Pv_findTrustByTrust 43 = .ok (.iload 5, 2) := by decide +kernel
theorem d_Pv_findTrustByTrust_45 : decode b_Pv_findTrustByTrust 45 = .ok (.invokevirtual 131, 3) := by decide +kernel
theorem d_Pv_findTrustByTrust_48 : decode b_Pv_findTrustByTrust 48 = .ok (.ifCond .eq 17, 3) := by decide +kernel
theorem d_Pv_findTrustByTrust_51 : decode b_Pv_findTrustByTrust 51 = .ok (.aload_n 0, 1) := by decide +kernel
theorem d_Pv_findTrustByTrust_52 : decode b_Pv_findTrustByTrust 52 = .ok (.iconst 4, 1) := by decide +kernel
theorem d_Pv_findTrustByTrust_53 : decode b_Pv_findTrustByTrust 53 = .ok (.iload 5, 2) := by decide +kernel
theorem d_Pv_findTrustByTrust_55 : decode b_Pv_findTrustByTrust 55 = .ok (.iload_n 2, 1) := by decide +kernel
theorem d_Pv_findTrustByTrust_56 : decode b_Pv_findTrustByTrust 56 = .ok (.iload_n 1, 1) := by decide +kernel
theorem d_Pv_findTrustByTrust_57 : decode b_Pv_findTrustByTrust 57 = .ok (.iload_n 3, 1) := by decide +kernel
theorem d_Pv_findTrustByTrust_58 : decode b_Pv_findTrustByTrust 58 = .ok (.iload 4, 2) := by decide +kernel
theorem d_Pv_findTrustByTrust_60 : decode b_Pv_findTrustByTrust 60 = .ok (.iconst 1, 1) := by decide +kernel
theorem d_Pv_findTrustByTrust_61 : decode b_Pv_findTrustByTrust 61 = .ok (.isub, 1) := by decide +kernel
theorem d_Pv_findTrustByTrust_62 : decode b_Pv_findTrustByTrust 62 = .ok (.invokevirtual 139, 3) := by decide +kernel
theorem d_Pv_findTrustByTrust_65 : decode b_Pv_findTrustByTrust 65 = .ok (.iinc 4 1, 3) := by decide +kernel
theorem d_Pv_findTrustByTrust_68 : decode b_Pv_findTrustByTrust 68 = .ok (.goto (-42), 3) := by decide +kernel
theorem d_Pv_findTrustByTrust_71 : decode b_Pv_findTrustByTrust 71 = .ok (.iinc 3 1, 3) := by decide +kernel
theorem d_Pv_findTrustByTrust_74 : decode b_Pv_findTrustByTrust 74 = .ok (.goto (-56), 3) := by decide +kernel
theorem d_Pv_findTrustByTrust_77 : decode b_Pv_findTrustByTrust 77 = .ok (.iinc 2 1, 3) := by decide +kernel
theorem d_Pv_findTrustByTrust_80 : decode b_Pv_findTrustByTrust 80 = .ok (.goto (-70), 3) := by decide +kernel
theorem d_Pv_findTrustByTrust_83 : decode b_Pv_findTrustByTrust 83 = .ok (.iinc 1 1, 3) := by decide +kernel
theorem d_Pv_findTrustByTrust_86 : decode b_Pv_findTrustByTrust 86 = .ok (.goto (-84), 3) := by decide +kernel
theorem d_Pv_findTrustByTrust_89 : decode b_Pv_findTrustByTrust 89 = .ok (.return_, 1) := by decide +kernel
theorem d_Pv_findTrustByVoice_0 : decode b_Pv_findTrustByVoice 0 = .ok (.iconst 0, 1) := by decide +kernel
theorem d_Pv_findTrustByVoice_1 : decode b_Pv_findTrustByVoice 1 = .ok (.istore_n 1, 1) := by decide +kernel
theorem d_Pv_findTrustByVoice_2 : decode b_Pv_findTrustByVoice 2 = .ok (.iload_n 1, 1) := by decide +kernel
theorem d_Pv_findTrustByVoice_3 : decode b_Pv_findTrustByVoice 3 = .ok (.bipush 6, 2) := by decide +kernel
theorem d_Pv_findTrustByVoice_5 : decode b_Pv_findTrustByVoice 5 = .ok (.if_icmp .ge 63, 3) := by decide +kernel
theorem d_Pv_findTrustByVoice_8 : decode b_Pv_findTrustByVoice 8 = .ok (.iconst 0, 1) := by decide +kernel
theorem d_Pv_findTrustByVoice_9 : decode b_Pv_findTrustByVoice 9 = .ok (.istore_n 2, 1) := by decide +kernel
theorem d_Pv_findTrustByVoice_10 : decode b_Pv_findTrustByVoice 10 = .ok (.iload_n 2, 1) := by decide +kernel
theorem d_Pv_findTrustByVoice_11 : decode b_Pv_findTrustByVoice 11 = .ok (.bipush 6, 2) := by decide +kernel
theorem d_Pv_findTrustByVoice_13 : decode b_Pv_findTrustByVoice 13 = .ok (.if_icmp .ge 49, 3) := by decide +kernel
theorem d_Pv_findTrustByVoice_16 : decode b_Pv_findTrustByVoice 16 = .ok (.iload_n 1, 1) := by decide +kernel
theorem d_Pv_findTrustByVoice_17 : decode b_Pv_findTrustByVoice 17 = .ok (.iload_n 2, 1) := by decide +kernel
theorem d_Pv_findTrustByVoice_18 : decode b_Pv_findTrustByVoice 18 = .ok (.invokestatic 123, 3) := by decide +kernel
theorem d_Pv_findTrustByVoice_21 : decode b_Pv_findTrustByVoice 21 = .ok (.istore_n 3, 1) := by decide +kernel
theorem d_Pv_findTrustByVoice_22 : decode b_Pv_findTrustByVoice 22 = .ok (.aload_n 0, 1) := by decide +kernel
theorem d_Pv_findTrustByVoice_23 : decode b_Pv_findTrustByVoice 23 = .ok (.iload_n 3, 1) := by decide +kernel
theorem d_Pv_findTrustByVoice_24 : decode b_Pv_findTrustByVoice 24 = .ok (.invokevirtual 131, 3) := by decide +kernel
theorem d_Pv_findTrustByVoice_27 : decode b_Pv_findTrustByVoice 27 = .ok (.ifCond .eq 29, 3) := by decide +kernel
theorem d_Pv_findTrustByVoice_30 : decode b_Pv_findTrustByVoice 30 = .ok (.iconst 0, 1) := by decide +kernel
theorem d_Pv_findTrustByVoice_31 : decode b_Pv_findTrustByVoice 31 = .ok (.istore 4, 2) := by decide +kernel
theorem d_Pv_findTrustByVoice_33 : decode b_Pv_findTrustByVoice 33 = .ok (.iload 4, 2) := by decide +kernel
theorem d_Pv_findTrustByVoice_35 : decode b_Pv_findTrustByVoice 35 = .ok (.iconst 4, 1) := by decide +kernel
theorem d_Pv_findTrustByVoice_36 : decode b_Pv_findTrustByVoice 36 = .ok (.if_icmp .ge 20, 3) := by decide +kernel
theorem d_Pv_findTrustByVoice_39 : decode b_Pv_findTrustByVoice 39 = .ok (.aload_n 0, 1) := by decide +kernel
theorem d_Pv_findTrustByVoice_40 : decode b_Pv_findTrustByVoice 40 = .ok (.iconst 5, 1) := by decide +kernel
theorem d_Pv_findTrustByVoice_41 : decode b_Pv_findTrustByVoice 41 = .ok (.iload_n 3, 1) := by decide +kernel
theorem d_Pv_findTrustByVoice_42 : decode b_Pv_findTrustByVoice 42 = .ok (.iload_n 2, 1) := by decide +kernel
theorem d_Pv_findTrustByVoice_43 : decode b_Pv_findTrustByVoice 43 = .ok (.iload_n 1, 1) := by decide +kernel
theorem d_Pv_findTrustByVoice_44 : decode b_Pv_findTrustByVoice 44 = .ok (.iload 4, 2) := by decide +kernel
theorem d_Pv_findTrustByVoice_46 : decode b_Pv_findTrustByVoice 46 = .ok (.iconst 3, 1) := by decide +kernel
theorem d_Pv_findTrustByVoice_47 : decode b_Pv_findTrustByVoice 47 = .ok (.invokevirtual 139, 3) := by decide +kernel
theorem d_Pv_findTrustByVoice_50 : decode b_Pv_findTrustByVoice 50 = .ok (.iinc 4 1, 3) := by decide +kernel
theorem d_Pv_findTrustByVoice_53 : decode b_Pv_findTrustByVoice 53 = .ok (.goto (-20), 3) := by decide +kernel
theorem d_Pv_findTrustByVoice_56 : decode b_Pv_findTrustByVoice 56 = .ok (.iinc 2 1, 3) := by decide +kernel
theorem d_Pv_findTrustByVoice_59 : decode b_Pv_findTrustByVoice 59 = .ok (.goto (-49), 3) := by decide +kernel
theorem d_Pv_findTrustByVoice_62 : decode b_Pv_findTrustByVoice 62 = .ok (.iinc 1 1, 3) := by decide +kernel
theorem d_Pv_findTrustByVoice_65 : decode b_Pv_findTrustByVoice 65 = .ok (.goto (-63), 3) := by decide +kernel
theorem d_Pv_findTrustByVoice_68 : decode b_Pv_findTrustByVoice 68 = .ok (.return_, 1) := by decide +kernel
theorem d_Pv_handOnTrust_0 : decode b_Pv_handOnTrust 0 = .ok (.iconst 0, 1) := by decide +kernel
theorem d_Pv_handOnTrust_1 : decode b_Pv_handOnTrust 1 = .ok (.istore 7, 2) := by decide +kernel
theorem d_Pv_handOnTrust_3 : decode b_Pv_handOnTrust 3 = .ok (.iload 7, 2) := by decide +kernel
theorem d_Pv_handOnTrust_5 : decode b_Pv_handOnTrust 5 = .ok (.bipush 6, 2) := by decide +kernel
theorem d_Pv_handOnTrust_7 : decode b_Pv_handOnTrust 7 = .ok (.if_icmp .ge 69, 3) := by decide +kernel
theorem d_Pv_handOnTrust_10 : decode b_Pv_handOnTrust 10 = .ok (.iconst 0, 1) := by decide +kernel
theorem d_Pv_handOnTrust_11 : decode b_Pv_handOnTrust 11 = .ok (.istore 8, 2) := by decide +kernel
theorem d_Pv_handOnTrust_13 : decode b_Pv_handOnTrust 13 = .ok (.iload 8, 2) := by decide +kernel
theorem d_Pv_handOnTrust_15 : decode b_Pv_handOnTrust 15 = .ok (.iconst 4, 1) := by decide +kernel
theorem d_Pv_handOnTrust_16 : decode b_Pv_handOnTrust 16 = .ok (.if_icmp .ge 54, 3) := by decide +kernel
theorem d_Pv_handOnTrust_19 : decode b_Pv_handOnTrust 19 = .ok (.iload 4, 2) := by decide +kernel
theorem d_Pv_handOnTrust_21 : decode b_Pv_handOnTrust 21 = .ok (.iload 7, 2) := by decide +kernel
theorem d_Pv_handOnTrust_23 : decode b_Pv_handOnTrust 23 = .ok (.iload 5, 2) := by decide +kernel
theorem d_Pv_handOnTrust_25 : decode b_Pv_handOnTrust 25 = .ok (.iload 8, 2) := by decide +kernel
theorem d_Pv_handOnTrust_27 : decode b_Pv_handOnTrust 27 = .ok (.invokestatic 127, 3) := by decide +kernel
theorem d_Pv_handOnTrust_30 : decode b_Pv_handOnTrust 30 = .ok (.istore 9, 2) := by decide +kernel
theorem d_Pv_handOnTrust_32 : decode b_Pv_handOnTrust 32 = .ok (.aload_n 0, 1) := by decide +kernel
theorem d_Pv_handOnTrust_33 : decode b_Pv_handOnTrust 33 = .ok (.iload 9, 2) := by decide +kernel
theorem d_Pv_handOnTrust_35 : decode b_Pv_handOnTrust 35 = .ok (.invokevirtual 131, 3) := by decide +kernel
theorem d_Pv_handOnTrust_38 : decode b_Pv_handOnTrust 38 = .ok (.ifCond .eq 26, 3) := by decide +kernel
theorem d_Pv_handOnTrust_41 : decode b_Pv_handOnTrust 41 = .ok (.aload_n 0, 1) := by decide +kernel
theorem d_Pv_handOnTrust_42 : decode b_Pv_handOnTrust 42 = .ok (.iload_n 3, 1) := by decide +kernel
theorem d_Pv_handOnTrust_43 : decode b_Pv_handOnTrust 43 = .ok (.iload 7, 2) := by decide +kernel
theorem d_Pv_handOnTrust_45 : decode b_Pv_handOnTrust 45 = .ok (.iload 5, 2) := by decide +kernel
theorem d_Pv_handOnTrust_47 : decode b_Pv_handOnTrust 47 = .ok (.iload 6, 2) := by decide +kernel
theorem d_Pv_handOnTrust_49 : decode b_Pv_handOnTrust 49 = .ok (.iload 8, 2) := by decide +kernel
theorem d_Pv_handOnTrust_51 : decode b_Pv_handOnTrust 51 = .ok (.invokestatic 143, 3) := by decide +kernel
theorem d_Pv_handOnTrust_54 : decode b_Pv_handOnTrust 54 = .ok (.invokestatic 127, 3) := by decide +kernel
theorem d_Pv_handOnTrust_57 : decode b_Pv_handOnTrust 57 = .ok (.iload_n 1, 1) := by decide +kernel
theorem d_Pv_handOnTrust_58 : decode b_Pv_handOnTrust 58 = .ok (.iload_n 2, 1) := by decide +kernel
theorem d_Pv_handOnTrust_59 : decode b_Pv_handOnTrust 59 = .ok (.iload 9, 2) := by decide +kernel
theorem d_Pv_handOnTrust_61 : decode b_Pv_handOnTrust 61 = .ok (.invokevirtual 108, 3) := by decide +kernel
theorem d_Pv_handOnTrust_64 : decode b_Pv_handOnTrust 64 = .ok (.iinc 8 1, 3) := by decide +kernel
theorem d_Pv_handOnTrust_67 : decode b_Pv_handOnTrust 67 = .ok (.goto (-54), 3) := by decide +kernel
theorem d_Pv_handOnTrust_70 : decode b_Pv_handOnTrust 70 = .ok (.iinc 7 1, 3) := by decide +kernel
theorem d_Pv_handOnTrust_73 : decode b_Pv_handOnTrust 73 = .ok (.goto (-70), 3) := by decide +kernel
theorem d_Pv_handOnTrust_76 : decode b_Pv_handOnTrust 76 = .ok (.return_, 1) := by decide +kernel
theorem d_Pv_findVoiceByVoice_0 : decode b_Pv_findVoiceByVoice 0 = .ok (.iconst 0, 1) := by decide +kernel
theorem d_Pv_findVoiceByVoice_1 : decode b_Pv_findVoiceByVoice 1 = .ok (.istore_n 1, 1) := by decide +kernel
theorem d_Pv_findVoiceByVoice_2 : decode b_Pv_findVoiceByVoice 2 = .ok (.iload_n 1, 1) := by decide +kernel
theorem d_Pv_findVoiceByVoice_3 : decode b_Pv_findVoiceByVoice 3 = .ok (.bipush 6, 2) := by decide +kernel
theorem d_Pv_findVoiceByVoice_5 : decode b_Pv_findVoiceByVoice 5 = .ok (.if_icmp .ge 41, 3) := by decide +kernel
theorem d_Pv_findVoiceByVoice_8 : decode b_Pv_findVoiceByVoice 8 = .ok (.iconst 0, 1) := by decide +kernel
theorem d_Pv_findVoiceByVoice_9 : decode b_Pv_findVoiceByVoice 9 = .ok (.istore_n 2, 1) := by decide +kernel
theorem d_Pv_findVoiceByVoice_10 : decode b_Pv_findVoiceByVoice 10 = .ok (.iload_n 2, 1) := by decide +kernel
theorem d_Pv_findVoiceByVoice_11 : decode b_Pv_findVoiceByVoice 11 = .ok (.bipush 6, 2) := by decide +kernel
theorem d_Pv_findVoiceByVoice_13 : decode b_Pv_findVoiceByVoice 13 = .ok (.if_icmp .ge 27, 3) := by decide +kernel
theorem d_Pv_findVoiceByVoice_16 : decode b_Pv_findVoiceByVoice 16 = .ok (.aload_n 0, 1) := by decide +kernel
theorem d_Pv_findVoiceByVoice_17 : decode b_Pv_findVoiceByVoice 17 = .ok (.iload_n 2, 1) := by decide +kernel
theorem d_Pv_findVoiceByVoice_18 : decode b_Pv_findVoiceByVoice 18 = .ok (.iload_n 1, 1) := by decide +kernel
theorem d_Pv_findVoiceByVoice_19 : decode b_Pv_findVoiceByVoice 19 = .ok (.invokestatic 123, 3) := by decide +kernel
theorem d_Pv_findVoiceByVoice_22 : decode b_Pv_findVoiceByVoice 22 = .ok (.invokevirtual 131, 3) := by decide +kernel
theorem d_Pv_findVoiceByVoice_25 : decode b_Pv_findVoiceByVoice 25 = .ok (.ifCond .eq 9, 3) := by decide +kernel
theorem d_Pv_findVoiceByVoice_28 : decode b_Pv_findVoiceByVoice 28 = .ok (.aload_n 0, 1) := by decide +kernel
theorem d_Pv_findVoiceByVoice_29 : decode b_Pv_findVoiceByVoice 29 = .ok (.iload_n 2, 1) := by decide +kernel
theorem d_Pv_findVoiceByVoice_30 : decode b_Pv_findVoiceByVoice 30 = .ok (.iload_n 1, 1) := by decide +kernel
theorem d_Pv_findVoiceByVoice_31 : decode b_Pv_findVoiceByVoice 31 = .ok (.invokevirtual 148, 3) := by decide +kernel
theorem d_Pv_findVoiceByVoice_34 : decode b_Pv_findVoiceByVoice 34 = .ok (.iinc 2 1, 3) := by decide +kernel
theorem d_Pv_findVoiceByVoice_37 : decode b_Pv_findVoiceByVoice 37 = .ok (.goto (-27), 3) := by decide +kernel
theorem d_Pv_findVoiceByVoice_40 : decode b_Pv_findVoiceByVoice 40 = .ok (.iinc 1 1, 3) := by decide +kernel
theorem d_Pv_findVoiceByVoice_43 : decode b_Pv_findVoiceByVoice 43 = .ok (.goto (-41), 3) := by decide +kernel
theorem d_Pv_findVoiceByVoice_46 : decode b_Pv_findVoiceByVoice 46 = .ok (.return_, 1) := by decide +kernel
theorem d_Pv_handOnVoice_0 : decode b_Pv_handOnVoice 0 = .ok (.iconst 0, 1) := by decide +kernel
theorem d_Pv_handOnVoice_1 : decode b_Pv_handOnVoice 1 = .ok (.istore_n 3, 1) := by decide +kernel
theorem d_Pv_handOnVoice_2 : decode b_Pv_handOnVoice 2 = .ok (.iload_n 3, 1) := by decide +kernel
theorem d_Pv_handOnVoice_3 : decode b_Pv_handOnVoice 3 = .ok (.bipush 6, 2) := by decide +kernel
theorem d_Pv_handOnVoice_5 : decode b_Pv_handOnVoice 5 = .ok (.if_icmp .ge 43, 3) := by decide +kernel
theorem d_Pv_handOnVoice_8 : decode b_Pv_handOnVoice 8 = .ok (.iload_n 2, 1) := by decide +kernel
theorem d_Pv_handOnVoice_9 : decode b_Pv_handOnVoice 9 = .ok (.iload_n 3, 1) := by decide +kernel
theorem d_Pv_handOnVoice_10 : decode b_Pv_handOnVoice 10 = .ok (.invokestatic 123, 3) := by decide +kernel
theorem d_Pv_handOnVoice_13 : decode b_Pv_handOnVoice 13 = .ok (.istore 4, 2) := by decide +kernel
theorem d_Pv_handOnVoice_15 : decode b_Pv_handOnVoice 15 = .ok (.aload_n 0, 1) := by decide +kernel
theorem d_Pv_handOnVoice_16 : decode b_Pv_handOnVoice 16 = .ok (.iload 4, 2) := by decide +kernel
theorem d_Pv_handOnVoice_18 : decode b_Pv_handOnVoice 18 = .ok (.invokevirtual 131, 3) := by decide +kernel
theorem d_Pv_handOnVoice_21 : decode b_Pv_handOnVoice 21 = .ok (.ifCond .eq 21, 3) := by decide +kernel
theorem d_Pv_handOnVoice_24 : decode b_Pv_handOnVoice 24 = .ok (.aload_n 0, 1) := by decide +kernel
theorem d_Pv_handOnVoice_25 : decode b_Pv_handOnVoice 25 = .ok (.iload_n 1, 1) := by decide +kernel
theorem d_Pv_handOnVoice_26 : decode b_Pv_handOnVoice 26 = .ok (.iload_n 3, 1) := by decide +kernel
theorem d_Pv_handOnVoice_27 : decode b_Pv_handOnVoice 27 = .ok (.invokestatic 123, 3) := by decide +kernel
theorem d_Pv_handOnVoice_30 : decode b_Pv_handOnVoice 30 = .ok (.bipush 6, 2) := by decide +kernel
theorem d_Pv_handOnVoice_32 : decode b_Pv_handOnVoice 32 = .ok (.iload_n 1, 1) := by decide +kernel
theorem d_Pv_handOnVoice_33 : decode b_Pv_handOnVoice 33 = .ok (.iload_n 2, 1) := by decide +kernel
theorem d_Pv_handOnVoice_34 : decode b_Pv_handOnVoice 34 = .ok (.invokestatic 123, 3) := by decide +kernel
theorem d_Pv_handOnVoice_37 : decode b_Pv_handOnVoice 37 = .ok (.iload 4, 2) := by decide +kernel
theorem d_Pv_handOnVoice_39 : decode b_Pv_handOnVoice 39 = .ok (.invokevirtual 108, 3) := by decide +kernel
theorem d_Pv_handOnVoice_42 : decode b_Pv_handOnVoice 42 = .ok (.iinc 3 1, 3) := by decide +kernel
theorem d_Pv_handOnVoice_45 : decode b_Pv_handOnVoice 45 = .ok (.goto (-43), 3) := by decide +kernel
theorem d_Pv_handOnVoice_48 : decode b_Pv_handOnVoice 48 = .ok (.return_, 1) := by decide +kernel
theorem d_Pv_findImplied_0 : decode b_Pv_findImplied 0 = .ok (.iconst 1, 1) := by decide +kernel
theorem d_Pv_findImplied_1 : decode b_Pv_findImplied 1 = .ok (.istore_n 1, 1) := by decide +kernel
theorem d_Pv_findImplied_2 : decode b_Pv_findImplied 2 = .ok (.iload_n 1, 1) := by decide +kernel
theorem d_Pv_findImplied_3 : decode b_Pv_findImplied 3 = .ok (.aload_n 0, 1) := by decide +kernel
theorem d_Pv_findImplied_4 : decode b_Pv_findImplied 4 = .ok (.getfield 34, 3) := by decide +kernel
theorem d_Pv_findImplied_7 : decode b_Pv_findImplied 7 = .ok (.invokevirtual 95, 3) := by decide +kernel
theorem d_Pv_findImplied_10 : decode b_Pv_findImplied 10 = .ok (.if_icmp .gt 51, 3) := by decide +kernel
theorem d_Pv_findImplied_13 : decode b_Pv_findImplied 13 = .ok (.aload_n 0, 1) := by decide +kernel
theorem d_Pv_findImplied_14 : decode b_Pv_findImplied 14 = .ok (.getfield 34, 3) := by decide +kernel
theorem d_Pv_findImplied_17 : decode b_Pv_findImplied 17 = .ok (.iload_n 1, 1) := by decide +kernel
theorem d_Pv_findImplied_18 : decode b_Pv_findImplied 18 = .ok (.invokevirtual 100, 3) := by decide +kernel
theorem d_Pv_findImplied_21 : decode b_Pv_findImplied 21 = .ok (.astore_n 2, 1) := by decide +kernel
theorem d_Pv_findImplied_22 : decode b_Pv_findImplied 22 = .ok (.aload_n 2, 1) := by decide +kernel
theorem d_Pv_findImplied_23 : decode b_Pv_findImplied 23 = .ok (.ifnull 32, 3) := by decide +kernel
theorem d_Pv_findImplied_26 : decode b_Pv_findImplied 26 = .ok (.aload_n 2, 1) := by decide +kernel
theorem d_Pv_findImplied_27 : decode b_Pv_findImplied 27 = .ok (.getfield 117, 3) := by decide +kernel
theorem d_Pv_findImplied_30 : decode b_Pv_findImplied 30 = .ok (.iconst 3, 1) := by decide +kernel
theorem d_Pv_findImplied_31 : decode b_Pv_findImplied 31 = .ok (.if_icmp .ne 24, 3) := by decide +kernel
theorem d_Pv_findImplied_34 : decode b_Pv_findImplied 34 = .ok (.aload_n 0, 1) := by decide +kernel
theorem d_Pv_findImplied_35 : decode b_Pv_findImplied 35 = .ok (.iload_n 1, 1) := by decide +kernel
theorem d_Pv_findImplied_36 : decode b_Pv_findImplied 36 = .ok (.aload_n 2, 1) := by decide +kernel
theorem d_Pv_findImplied_37 : decode b_Pv_findImplied 37 = .ok (.getfield 120, 3) := by decide +kernel
theorem d_Pv_findImplied_40 : decode b_Pv_findImplied 40 = .ok (.aload_n 2, 1) := by decide +kernel
theorem d_Pv_findImplied_41 : decode b_Pv_findImplied 41 = .ok (.getfield 112, 3) := by decide +kernel
theorem d_Pv_findImplied_44 : decode b_Pv_findImplied 44 = .ok (.iconst 0, 1) := by decide +kernel
theorem d_Pv_findImplied_45 : decode b_Pv_findImplied 45 = .ok (.iaload, 1) := by decide +kernel
theorem d_Pv_findImplied_46 : decode b_Pv_findImplied 46 = .ok (.aload_n 2, 1) := by decide +kernel
theorem d_Pv_findImplied_47 : decode b_Pv_findImplied 47 = .ok (.getfield 112, 3) := by decide +kernel
theorem d_Pv_findImplied_50 : decode b_Pv_findImplied 50 = .ok (.iconst 1, 1) := by decide +kernel
theorem d_Pv_findImplied_51 : decode b_Pv_findImplied 51 = .ok (.iaload, 1) := by decide +kernel
theorem d_Pv_findImplied_52 : decode b_Pv_findImplied 52 = .ok (.invokevirtual 152, 3) := by decide +kernel
theorem d_Pv_findImplied_55 : decode b_Pv_findImplied 55 = .ok (.iinc 1 1, 3) := by decide +kernel
theorem d_Pv_findImplied_58 : decode b_Pv_findImplied 58 = .ok (.goto (-56), 3) := by decide +kernel
theorem d_Pv_findImplied_61 : decode b_Pv_findImplied 61 = .ok (.return_, 1) := by decide +kernel
theorem d_Pv_applyImply_0 : decode b_Pv_applyImply 0 = .ok (.iconst 0, 1) := by decide +kernel
theorem d_Pv_applyImply_1 : decode b_Pv_applyImply 1 = .ok (.istore 5, 2) := by decide +kernel
theorem d_Pv_applyImply_3 : decode b_Pv_applyImply 3 = .ok (.iload 5, 2) := by decide +kernel
theorem d_Pv_applyImply_5 : decode b_Pv_applyImply 5 = .ok (.bipush 6, 2) := by decide +kernel
theorem d_Pv_applyImply_7 : decode b_Pv_applyImply 7 = .ok (.if_icmp .ge 44, 3) := by decide +kernel
theorem d_Pv_applyImply_10 : decode b_Pv_applyImply 10 = .ok (.iload_n 2, 1) := by decide +kernel
theorem d_Pv_applyImply_11 : decode b_Pv_applyImply 11 = .ok (.iload 5, 2) := by decide +kernel
theorem d_Pv_applyImply_13 : decode b_Pv_applyImply 13 = .ok (.iload_n 3, 1) := by decide +kernel
theorem d_Pv_applyImply_14 : decode b_Pv_applyImply 14 = .ok (.invokestatic 38, 3) := by decide +kernel
theorem d_Pv_applyImply_17 : decode b_Pv_applyImply 17 = .ok (.istore 6, 2) := by decide +kernel
theorem d_Pv_applyImply_19 : decode b_Pv_applyImply 19 = .ok (.aload_n 0, 1) := by decide +kernel
theorem d_Pv_applyImply_20 : decode b_Pv_applyImply 20 = .ok (.iload 6, 2) := by decide +kernel
theorem d_Pv_applyImply_22 : decode b_Pv_applyImply 22 = .ok (.invokevirtual 131, 3) := by decide +kernel
theorem d_Pv_applyImply_25 : decode b_Pv_applyImply 25 = .ok (.ifCond .eq 20, 3) := by decide +kernel
theorem d_Pv_applyImply_28 : decode b_Pv_applyImply 28 = .ok (.aload_n 0, 1) := by decide +kernel
theorem d_Pv_applyImply_29 : decode b_Pv_applyImply 29 = .ok (.iload_n 2, 1) := by decide +kernel
theorem d_Pv_applyImply_30 : decode b_Pv_applyImply 30 = .ok (.iload 5, 2) := by decide +kernel
theorem d_Pv_applyImply_32 : decode b_Pv_applyImply 32 = .ok (.iload 4, 2) := by decide +kernel
theorem d_Pv_applyImply_34 : decode b_Pv_applyImply 34 = .ok (.invokestatic 38, 3) := by decide +kernel
theorem d_Pv_applyImply_37 : decode b_Pv_applyImply 37 = .ok (.bipush 7, 2) := by decide +kernel
theorem d_Pv_applyImply_39 : decode b_Pv_applyImply 39 = .ok (.iload_n 1, 1) := by decide +kernel
theorem d_Pv_applyImply_40 : decode b_Pv_applyImply 40 = .ok (.iload 6, 2) := by decide +kernel
theorem d_Pv_applyImply_42 : decode b_Pv_applyImply 42 = .ok (.invokevirtual 108, 3) := by decide +kernel
theorem d_Pv_applyImply_45 : decode b_Pv_applyImply 45 = .ok (.iinc 5 1, 3) := by decide +kernel
theorem d_Pv_applyImply_48 : decode b_Pv_applyImply 48 = .ok (.goto (-45), 3) := by decide +kernel
theorem d_Pv_applyImply_51 : decode b_Pv_applyImply 51 = .ok (.return_, 1) := by decide +kernel
theorem d_Pv_reach_0 : decode b_Pv_reach 0 = .ok (.aload_n 0, 1) := by decide +kernel
theorem d_Pv_reach_1 : decode b_Pv_reach 1 = .ok (.getfield 18, 3) := by decide +kernel
theorem d_Pv_reach_4 : decode b_Pv_reach 4 = .ok (.iload_n 1, 1) := by decide +kernel
theorem d_Pv_reach_5 : decode b_Pv_reach 5 = .ok (.iaload, 1) := by decide +kernel
theorem d_Pv_reach_6 : decode b_Pv_reach 6 = .ok (.ifCond .ne 40, 3) := by decide +kernel
theorem d_Pv_reach_9 : decode b_Pv_reach 9 = .ok (.aload_n 0, 1) := by decide +kernel
theorem d_Pv_reach_10 : decode b_Pv_reach 10 = .ok (.getfield 18, 3) := by decide +kernel
theorem d_Pv_reach_13 : decode b_Pv_reach 13 = .ok (.iload_n 1, 1) := by decide +kernel
theorem d_Pv_reach_14 : decode b_Pv_reach 14 = .ok (.aload_n 0, 1) := by decide +kernel
theorem d_Pv_reach_15 : decode b_Pv_reach 15 = .ok (.getfield 62, 3) := by decide +kernel
theorem d_Pv_reach_18 : decode b_Pv_reach 18 = .ok (.iastore, 1) := by decide +kernel
theorem d_Pv_reach_19 : decode b_Pv_reach 19 = .ok (.aload_n 0, 1) := by decide +kernel
theorem d_Pv_reach_20 : decode b_Pv_reach 20 = .ok (.getfield 22, 3) := by decide +kernel
theorem d_Pv_reach_23 : decode b_Pv_reach 23 = .ok (.iload_n 1, 1) := by decide +kernel
theorem d_Pv_reach_24 : decode b_Pv_reach 24 = .ok (.iload_n 2, 1) := by decide +kernel
theorem d_Pv_reach_25 : decode b_Pv_reach 25 = .ok (.iastore, 1) := by decide +kernel
theorem d_Pv_reach_26 : decode b_Pv_reach 26 = .ok (.aload_n 0, 1) := by decide +kernel
theorem d_Pv_reach_27 : decode b_Pv_reach 27 = .ok (.getfield 25, 3) := by decide +kernel
theorem d_Pv_reach_30 : decode b_Pv_reach 30 = .ok (.iload_n 1, 1) := by decide +kernel
theorem d_Pv_reach_31 : decode b_Pv_reach 31 = .ok (.iload_n 3, 1) := by decide +kernel
theorem d_Pv_reach_32 : decode b_Pv_reach 32 = .ok (.iastore, 1) := by decide +kernel
theorem d_Pv_reach_33 : decode b_Pv_reach 33 = .ok (.aload_n 0, 1) := by decide +kernel
theorem d_Pv_reach_34 : decode b_Pv_reach 34 = .ok (.getfield 28, 3) := by decide +kernel
theorem d_Pv_reach_37 : decode b_Pv_reach 37 = .ok (.iload_n 1, 1) := by decide +kernel
theorem d_Pv_reach_38 : decode b_Pv_reach 38 = .ok (.iload 4, 2) := by decide +kernel
theorem d_Pv_reach_40 : decode b_Pv_reach 40 = .ok (.iastore, 1) := by decide +kernel
theorem d_Pv_reach_41 : decode b_Pv_reach 41 = .ok (.aload_n 0, 1) := by decide +kernel
theorem d_Pv_reach_42 : decode b_Pv_reach 42 = .ok (.iconst 1, 1) := by decide +kernel
theorem d_Pv_reach_43 : decode b_Pv_reach 43 = .ok (.putfield 66, 3) := by decide +kernel
theorem d_Pv_reach_46 : decode b_Pv_reach 46 = .ok (.return_, 1) := by decide +kernel
theorem d_Pv_isKnown_0 : decode b_Pv_isKnown 0 = .ok (.aload_n 0, 1) := by decide +kernel
theorem d_Pv_isKnown_1 : decode b_Pv_isKnown 1 = .ok (.getfield 18, 3) := by decide +kernel
theorem d_Pv_isKnown_4 : decode b_Pv_isKnown 4 = .ok (.iload_n 1, 1) := by decide +kernel
theorem d_Pv_isKnown_5 : decode b_Pv_isKnown 5 = .ok (.iaload, 1) := by decide +kernel
theorem d_Pv_isKnown_6 : decode b_Pv_isKnown 6 = .ok (.ifCond .eq 20, 3) := by decide +kernel
theorem d_Pv_isKnown_9 : decode b_Pv_isKnown 9 = .ok (.aload_n 0, 1) := by decide +kernel
theorem d_Pv_isKnown_10 : decode b_Pv_isKnown 10 = .ok (.getfield 18, 3) := by decide +kernel
theorem d_Pv_isKnown_13 : decode b_Pv_isKnown 13 = .ok (.iload_n 1, 1) := by decide +kernel
theorem d_Pv_isKnown_14 : decode b_Pv_isKnown 14 = .ok (.iaload, 1) := by decide +kernel
theorem d_Pv_isKnown_15 : decode b_Pv_isKnown 15 = .ok (.aload_n 0, 1) := by decide +kernel
theorem d_Pv_isKnown_16 : decode b_Pv_isKnown 16 = .ok (.getfield 62, 3) := by decide +kernel
theorem d_Pv_isKnown_19 : decode b_Pv_isKnown 19 = .ok (.if_icmp .ge 7, 3) := by decide +kernel
theorem d_Pv_isKnown_22 : decode b_Pv_isKnown 22 = .ok (.iconst 1, 1) := by decide +kernel
theorem d_Pv_isKnown_23 : decode b_Pv_isKnown 23 = .ok (.goto 4, 3) := by decide +kernel
theorem d_Pv_isKnown_26 : decode b_Pv_isKnown 26 = .ok (.iconst 0, 1) := by decide +kernel
theorem d_Pv_isKnown_27 : decode b_Pv_isKnown 27 = .ok (.ireturn, 1) := by decide +kernel
theorem d_Pv_writesStep_0 : decode b_Pv_writesStep 0 = .ok (.aload_n 0, 1) := by decide +kernel
theorem d_Pv_writesStep_1 : decode b_Pv_writesStep 1 = .ok (.getfield 31, 3) := by decide +kernel
theorem d_Pv_writesStep_4 : decode b_Pv_writesStep 4 = .ok (.iload_n 1, 1) := by decide +kernel
theorem d_Pv_writesStep_5 : decode b_Pv_writesStep 5 = .ok (.iaload, 1) := by decide +kernel
theorem d_Pv_writesStep_6 : decode b_Pv_writesStep 6 = .ok (.ifCond .lt 5, 3) := by decide +kernel
theorem d_Pv_writesStep_9 : decode b_Pv_writesStep 9 = .ok (.iconst 1, 1) := by decide +kernel
theorem d_Pv_writesStep_10 : decode b_Pv_writesStep 10 = .ok (.ireturn, 1) := by decide +kernel
theorem d_Pv_writesStep_11 : decode b_Pv_writesStep 11 = .ok (.iload_n 2, 1) := by decide +kernel
theorem d_Pv_writesStep_12 : decode b_Pv_writesStep 12 = .ok (.bipush 40, 2) := by decide +kernel
theorem d_Pv_writesStep_14 : decode b_Pv_writesStep 14 = .ok (.if_icmp .le 5, 3) := by decide +kernel
theorem d_Pv_writesStep_17 : decode b_Pv_writesStep 17 = .ok (.iconst 0, 1) := by decide +kernel
theorem d_Pv_writesStep_18 : decode b_Pv_writesStep 18 = .ok (.ireturn, 1) := by decide +kernel
theorem d_Pv_writesStep_19 : decode b_Pv_writesStep 19 = .ok (.aload_n 0, 1) := by decide +kernel
theorem d_Pv_writesStep_20 : decode b_Pv_writesStep 20 = .ok (.getfield 22, 3) := by decide +kernel
theorem d_Pv_writesStep_23 : decode b_Pv_writesStep 23 = .ok (.iload_n 1, 1) := by decide +kernel
theorem d_Pv_writesStep_24 : decode b_Pv_writesStep 24 = .ok (.iaload, 1) := by decide +kernel
theorem d_Pv_writesStep_25 : decode b_Pv_writesStep 25 = .ok (.istore_n 3, 1) := by decide +kernel
theorem d_Pv_writesStep_26 : decode b_Pv_writesStep 26 = .ok (.aload_n 0, 1) := by decide +kernel
theorem d_Pv_writesStep_27 : decode b_Pv_writesStep 27 = .ok (.getfield 25, 3) := by decide +kernel
theorem d_Pv_writesStep_30 : decode b_Pv_writesStep 30 = .ok (.iload_n 1, 1) := by decide +kernel
theorem d_Pv_writesStep_31 : decode b_Pv_writesStep 31 = .ok (.iaload, 1) := by decide +kernel
theorem d_Pv_writesStep_32 : decode b_Pv_writesStep 32 = .ok (.istore 4, 2) := by decide +kernel
theorem d_Pv_writesStep_34 : decode b_Pv_writesStep 34 = .ok (.aload_n 0, 1) := by decide +kernel
theorem d_Pv_writesStep_35 : decode b_Pv_writesStep 35 = .ok (.getfield 28, 3) := by decide +kernel
theorem d_Pv_writesStep_38 : decode b_Pv_writesStep 38 = .ok (.iload_n 1, 1) := by decide +kernel
theorem d_Pv_writesStep_39 : decode b_Pv_writesStep 39 = .ok (.iaload, 1) := by decide +kernel
theorem d_Pv_writesStep_40 : decode b_Pv_writesStep 40 = .ok (.istore 5, 2) := by decide +kernel
theorem d_Pv_writesStep_42 : decode b_Pv_writesStep 42 = .ok (.iload_n 3, 1) := by decide +kernel
theorem d_Pv_writesStep_43 : decode b_Pv_writesStep 43 = .ok (.iconst 1, 1) := by decide +kernel
theorem d_Pv_writesStep_44 : decode b_Pv_writesStep 44 = .ok (.if_icmp .eq 32, 3) := by decide +kernel
theorem d_Pv_writesStep_47 : decode b_Pv_writesStep 47 = .ok (.iload_n 3, 1) := by decide +kernel
theorem d_Pv_writesStep_48 : decode b_Pv_writesStep 48 = .ok (.bipush 7, 2) := by decide +kernel
theorem d_Pv_writesStep_50 : decode b_Pv_writesStep 50 = .ok (.if_icmp .eq 26, 3) := by decide +kernel
theorem d_Pv_writesStep_53 : decode b_Pv_writesStep 53 = .ok (.aload_n 0, 1) := by decide +kernel
theorem d_Pv_writesStep_54 : decode b_Pv_writesStep 54 = .ok (.iload 4, 2) := by decide +kernel
theorem d_Pv_writesStep_56 : decode b_Pv_writesStep 56 = .ok (.iload_n 2, 1) := by decide +kernel
theorem d_Pv_writesStep_57 : decode b_Pv_writesStep 57 = .ok (.iconst 1, 1) := by decide +kernel
theorem d_Pv_writesStep_58 : decode b_Pv_writesStep 58 = .ok (.iadd, 1) := by decide +kernel
theorem d_Pv_writesStep_59 : decode b_Pv_writesStep 59 = .ok (.invokevirtual 56, 3) := by decide +kernel
theorem d_Pv_writesStep_62 : decode b_Pv_writesStep 62 = .ok (.ifCond .ne 5, 3) := by decide +kernel
theorem d_Pv_writesStep_65 : decode b_Pv_writesStep 65 = .ok (.iconst 0, 1) := by decide +kernel
theorem d_Pv_writesStep_66 : decode b_Pv_writesStep 66 = .ok (.ireturn, 1) := by decide +kernel
theorem d_Pv_writesStep_67 : decode b_Pv_writesStep 67 = .ok (.aload_n 0, 1) := by decide +kernel
theorem d_Pv_writesStep_68 : decode b_Pv_writesStep 68 = .ok (.getfield 31, 3) := by decide +kernel
theorem d_Pv_writesStep_71 : decode b_Pv_writesStep 71 = .ok (.iload 4, 2) := by decide +kernel
theorem d_Pv_writesStep_73 : decode b_Pv_writesStep 73 = .ok (.iaload, 1) := by decide +kernel
theorem d_Pv_writesStep_74 : decode b_Pv_writesStep 74 = .ok (.istore 4, 2) := by decide +kernel
theorem d_Pv_writesStep_76 : decode b_Pv_writesStep 76 = .ok (.iload_n 3, 1) := by decide +kernel
theorem d_Pv_writesStep_77 : decode b_Pv_writesStep 77 = .ok (.iconst 1, 1) := by decide +kernel
theorem d_Pv_writesStep_78 : decode b_Pv_writesStep 78 = .ok (.if_icmp .eq 26, 3) := by decide +kernel
theorem d_Pv_writesStep_81 : decode b_Pv_writesStep 81 = .ok (.aload_n 0, 1) := by decide +kernel
theorem d_Pv_writesStep_82 : decode b_Pv_writesStep 82 = .ok (.iload 5, 2) := by decide +kernel
theorem d_Pv_writesStep_84 : decode b_Pv_writesStep 84 = .ok (.iload_n 2, 1) := by decide +kernel
theorem d_Pv_writesStep_85 : decode b_Pv_writesStep 85 = .ok (.iconst 1, 1) := by decide +kernel
theorem d_Pv_writesStep_86 : decode b_Pv_writesStep 86 = .ok (.iadd, 1) := by decide +kernel
theorem d_Pv_writesStep_87 : decode b_Pv_writesStep 87 = .ok (.invokevirtual 56, 3) := by decide +kernel
theorem d_Pv_writesStep_90 : decode b_Pv_writesStep 90 = .ok (.ifCond .ne 5, 3) := by decide +kernel
theorem d_Pv_writesStep_93 : decode b_Pv_writesStep 93 = .ok (.iconst 0, 1) := by decide +kernel
theorem d_Pv_writesStep_94 : decode b_Pv_writesStep 94 = .ok (.ireturn, 1) := by decide +kernel
theorem d_Pv_writesStep_95 : decode b_Pv_writesStep 95 = .ok (.aload_n 0, 1) := by decide +kernel
theorem d_Pv_writesStep_96 : decode b_Pv_writesStep 96 = .ok (.getfield 31, 3) := by decide +kernel
theorem d_Pv_writesStep_99 : decode b_Pv_writesStep 99 = .ok (.iload 5, 2) := by decide +kernel
theorem d_Pv_writesStep_101 : decode b_Pv_writesStep 101 = .ok (.iaload, 1) := by decide +kernel
theorem d_Pv_writesStep_102 : decode b_Pv_writesStep 102 = .ok (.istore 5, 2) := by decide +kernel
theorem d_Pv_writesStep_104 : decode b_Pv_writesStep 104 = .ok (.aload_n 0, 1) := by decide +kernel
theorem d_Pv_writesStep_105 : decode b_Pv_writesStep 105 = .ok (.getfield 31, 3) := by decide +kernel
theorem d_Pv_writesStep_108 : decode b_Pv_writesStep 108 = .ok (.iload_n 1, 1) := by decide +kernel
theorem d_Pv_writesStep_109 : decode b_Pv_writesStep 109 = .ok (.aload_n 0, 1) := by decide +kernel
theorem d_Pv_writesStep_110 : decode b_Pv_writesStep 110 = .ok (.getfield 14, 3) := by decide +kernel
theorem d_Pv_writesStep_113 : decode b_Pv_writesStep 113 = .ok (.iload_n 3, 1) := by decide +kernel
theorem d_Pv_writesStep_114 : decode b_Pv_writesStep 114 = .ok (.iload 4, 2) := by decide +kernel
theorem d_Pv_writesStep_116 : decode b_Pv_writesStep 116 = .ok (.iload 5, 2) := by decide +kernel
theorem d_Pv_writesStep_118 : decode b_Pv_writesStep 118 = .ok (.invokevirtual 155, 3) := by decide +kernel
theorem d_Pv_writesStep_121 : decode b_Pv_writesStep 121 = .ok (.iastore, 1) := by decide +kernel
theorem d_Pv_writesStep_122 : decode b_Pv_writesStep 122 = .ok (.aload_n 0, 1) := by decide +kernel
theorem d_Pv_writesStep_123 : decode b_Pv_writesStep 123 = .ok (.getfield 31, 3) := by decide +kernel
theorem d_Pv_writesStep_126 : decode b_Pv_writesStep 126 = .ok (.iload_n 1, 1) := by decide +kernel
theorem d_Pv_writesStep_127 : decode b_Pv_writesStep 127 = .ok (.iaload, 1) := by decide +kernel
theorem d_Pv_writesStep_128 : decode b_Pv_writesStep 128 = .ok (.ifCond .lt 7, 3) := by decide +kernel
theorem d_Pv_writesStep_131 : decode b_Pv_writesStep 131 = .ok (.iconst 1, 1) := by decide +kernel
theorem d_Pv_writesStep_132 : decode b_Pv_writesStep 132 = .ok (.goto 4, 3) := by decide +kernel
theorem d_Pv_writesStep_135 : decode b_Pv_writesStep 135 = .ok (.iconst 0, 1) := by decide +kernel
theorem d_Pv_writesStep_136 : decode b_Pv_writesStep 136 = .ok (.ireturn, 1) := by decide +kernel
theorem d_Pv_speaks_0 : decode b_Pv_speaks 0 = .ok (.bipush 6, 2) := by decide +kernel
theorem d_Pv_speaks_2 : decode b_Pv_speaks 2 = .ok (.iload_n 0, 1) := by decide +kernel
theorem d_Pv_speaks_3 : decode b_Pv_speaks 3 = .ok (.imul, 1) := by decide +kernel
theorem d_Pv_speaks_4 : decode b_Pv_speaks 4 = .ok (.iload_n 1, 1) := by decide +kernel
theorem d_Pv_speaks_5 : decode b_Pv_speaks 5 = .ok (.iadd, 1) := by decide +kernel
theorem d_Pv_speaks_6 : decode b_Pv_speaks 6 = .ok (.ireturn, 1) := by decide +kernel
theorem d_Pv_may_0 : decode b_Pv_may 0 = .ok (.bipush 36, 2) := by decide +kernel
theorem d_Pv_may_2 : decode b_Pv_may 2 = .ok (.bipush 6, 2) := by decide +kernel
theorem d_Pv_may_4 : decode b_Pv_may 4 = .ok (.iload_n 0, 1) := by decide +kernel
theorem d_Pv_may_5 : decode b_Pv_may 5 = .ok (.imul, 1) := by decide +kernel
theorem d_Pv_may_6 : decode b_Pv_may 6 = .ok (.iload_n 1, 1) := by decide +kernel
theorem d_Pv_may_7 : decode b_Pv_may 7 = .ok (.iadd, 1) := by decide +kernel
theorem d_Pv_may_8 : decode b_Pv_may 8 = .ok (.iconst 4, 1) := by decide +kernel
theorem d_Pv_may_9 : decode b_Pv_may 9 = .ok (.imul, 1) := by decide +kernel
theorem d_Pv_may_10 : decode b_Pv_may 10 = .ok (.iadd, 1) := by decide +kernel
theorem d_Pv_may_11 : decode b_Pv_may 11 = .ok (.iload_n 2, 1) := by decide +kernel
theorem d_Pv_may_12 : decode b_Pv_may 12 = .ok (.iadd, 1) := by decide +kernel
theorem d_Pv_may_13 : decode b_Pv_may 13 = .ok (.ireturn, 1) := by decide +kernel
theorem d_Pv_trusts_0 : decode b_Pv_trusts 0 = .ok (.sipush 180, 3) := by decide +kernel
theorem d_Pv_trusts_3 : decode b_Pv_trusts 3 = .ok (.bipush 6, 2) := by decide +kernel
theorem d_Pv_trusts_5 : decode b_Pv_trusts 5 = .ok (.iload_n 0, 1) := by decide +kernel
theorem d_Pv_trusts_6 : decode b_Pv_trusts 6 = .ok (.imul, 1) := by decide +kernel
theorem d_Pv_trusts_7 : decode b_Pv_trusts 7 = .ok (.iload_n 1, 1) := by decide +kernel
theorem d_Pv_trusts_8 : decode b_Pv_trusts 8 = .ok (.iadd, 1) := by decide +kernel
theorem d_Pv_trusts_9 : decode b_Pv_trusts 9 = .ok (.iconst 4, 1) := by decide +kernel
theorem d_Pv_trusts_10 : decode b_Pv_trusts 10 = .ok (.imul, 1) := by decide +kernel
theorem d_Pv_trusts_11 : decode b_Pv_trusts 11 = .ok (.iload_n 2, 1) := by decide +kernel
theorem d_Pv_trusts_12 : decode b_Pv_trusts 12 = .ok (.iadd, 1) := by decide +kernel
theorem d_Pv_trusts_13 : decode b_Pv_trusts 13 = .ok (.iconst 4, 1) := by decide +kernel
theorem d_Pv_trusts_14 : decode b_Pv_trusts 14 = .ok (.imul, 1) := by decide +kernel
theorem d_Pv_trusts_15 : decode b_Pv_trusts 15 = .ok (.iadd, 1) := by decide +kernel
theorem d_Pv_trusts_16 : decode b_Pv_trusts 16 = .ok (.iload_n 3, 1) := by decide +kernel
theorem d_Pv_trusts_17 : decode b_Pv_trusts 17 = .ok (.iadd, 1) := by decide +kernel
theorem d_Pv_trusts_18 : decode b_Pv_trusts 18 = .ok (.ireturn, 1) := by decide +kernel
