theorem d_Lg_init_0 : decode b_Lg_init 0 = .ok (.aload_n 0, 1) := by decide +kernel
theorem d_Lg_init_1 : decode b_Lg_init 1 = .ok (.invokespecial 1, 3) := by decide +kernel
theorem d_Lg_init_4 : decode b_Lg_init 4 = .ok (.return_, 1) := by decide +kernel
theorem d_Lg_count_0 : decode b_Lg_count 0 = .ok (.aload_n 0, 1) := by decide +kernel
theorem d_Lg_count_1 : decode b_Lg_count 1 = .ok (.getfield 7, 3) := by decide +kernel
theorem d_Lg_count_4 : decode b_Lg_count 4 = .ok (.ireturn, 1) := by decide +kernel
theorem d_Lg_link_0 : decode b_Lg_link 0 = .ok (.aload_n 0, 1) := by decide +kernel
theorem d_Lg_link_1 : decode b_Lg_link 1 = .ok (.getfield 13, 3) := by decide +kernel
theorem d_Lg_link_4 : decode b_Lg_link 4 = .ok (.ireturn, 1) := by decide +kernel
theorem d_Lg_addGrant_0 : decode b_Lg_addGrant 0 = .ok (.aload_n 0, 1) := by decide +kernel
theorem d_Lg_addGrant_1 : decode b_Lg_addGrant 1 = .ok (.dup, 1) := by decide +kernel
theorem d_Lg_addGrant_2 : decode b_Lg_addGrant 2 = .ok (.getfield 7, 3) := by decide +kernel
theorem d_Lg_addGrant_5 : decode b_Lg_addGrant 5 = .ok (.iconst 1, 1) := by decide +kernel
theorem d_Lg_addGrant_6 : decode b_Lg_addGrant 6 = .ok (.iadd, 1) := by decide +kernel
theorem d_Lg_addGrant_7 : decode b_Lg_addGrant 7 = .ok (.putfield 7, 3) := by decide +kernel
theorem d_Lg_addGrant_10 : decode b_Lg_addGrant 10 = .ok (.aload_n 0, 1) := by decide +kernel
theorem d_Lg_addGrant_11 : decode b_Lg_addGrant 11 = .ok (.aload_n 0, 1) := by decide +kernel
theorem d_Lg_addGrant_12 : decode b_Lg_addGrant 12 = .ok (.getfield 13, 3) := by decide +kernel
theorem d_Lg_addGrant_15 : decode b_Lg_addGrant 15 = .ok (.iload_n 1, 1) := by decide +kernel
theorem d_Lg_addGrant_16 : decode b_Lg_addGrant 16 = .ok (.ixor, 1) := by decide +kernel
theorem d_Lg_addGrant_17 : decode b_Lg_addGrant 17 = .ok (.bipush 31, 2) := by decide +kernel
theorem d_Lg_addGrant_19 : decode b_Lg_addGrant 19 = .ok (.imul, 1) := by decide +kernel
theorem d_Lg_addGrant_20 : decode b_Lg_addGrant 20 = .ok (.bipush 8, 2) := by decide +kernel
theorem d_Lg_addGrant_22 : decode b_Lg_addGrant 22 = .ok (.iload_n 2, 1) := by decide +kernel
theorem d_Lg_addGrant_23 : decode b_Lg_addGrant 23 = .ok (.imul, 1) := by decide +kernel
theorem d_Lg_addGrant_24 : decode b_Lg_addGrant 24 = .ok (.iadd, 1) := by decide +kernel
theorem d_Lg_addGrant_25 : decode b_Lg_addGrant 25 = .ok (.iload_n 3, 1) := by decide +kernel
theorem d_Lg_addGrant_26 : decode b_Lg_addGrant 26 = .ok (.iadd, 1) := by decide +kernel
theorem d_Lg_addGrant_27 : decode b_Lg_addGrant 27 = .ok (.bipush 31, 2) := by decide +kernel
theorem d_Lg_addGrant_29 : decode b_Lg_addGrant 29 = .ok (.imul, 1) := by decide +kernel
theorem d_Lg_addGrant_30 : decode b_Lg_addGrant 30 = .ok (.iload 4, 2) := by decide +kernel
theorem d_Lg_addGrant_32 : decode b_Lg_addGrant 32 = .ok (.iadd, 1) := by decide +kernel
theorem d_Lg_addGrant_33 : decode b_Lg_addGrant 33 = .ok (.putfield 13, 3) := by decide +kernel
theorem d_Lg_addGrant_36 : decode b_Lg_addGrant 36 = .ok (.return_, 1) := by decide +kernel
theorem d_Ck_init_0 : decode b_Ck_init 0 = .ok (.aload_n 0, 1) := by decide +kernel
theorem d_Ck_init_1 : decode b_Ck_init 1 = .ok (.invokespecial 3, 3) := by decide +kernel
theorem d_Ck_init_4 : decode b_Ck_init 4 = .ok (.aload_n 0, 1) := by decide +kernel
theorem d_Ck_init_5 : decode b_Ck_init 5 = .ok (.bipush 40, 2) := by decide +kernel
theorem d_Ck_init_7 : decode b_Ck_init 7 = .ok (.anewarray 9, 3) := by decide +kernel
theorem d_Ck_init_10 : decode b_Ck_init 10 = .ok (.putfield 11, 3) := by decide +kernel
theorem d_Ck_init_13 : decode b_Ck_init 13 = .ok (.aload_n 0, 1) := by decide +kernel
theorem d_Ck_init_14 : decode b_Ck_init 14 = .ok (.aload_n 1, 1) := by decide +kernel
theorem d_Ck_init_15 : decode b_Ck_init 15 = .ok (.putfield 17, 3) := by decide +kernel
theorem d_Ck_init_18 : decode b_Ck_init 18 = .ok (.iconst 0, 1) := by decide +kernel
theorem d_Ck_init_19 : decode b_Ck_init 19 = .ok (.istore_n 2, 1) := by decide +kernel
theorem d_Ck_init_20 : decode b_Ck_init 20 = .ok (.iload_n 2, 1) := by decide +kernel
theorem d_Ck_init_21 : decode b_Ck_init 21 = .ok (.bipush 40, 2) := by decide +kernel
theorem d_Ck_init_23 : decode b_Ck_init 23 = .ok (.if_icmp .ge 22, 3) := by decide +kernel
theorem d_Ck_init_26 : decode b_Ck_init 26 = .ok (.aload_n 0, 1) := by decide +kernel
theorem d_Ck_init_27 : decode b_Ck_init 27 = .ok (.getfield 11, 3) := by decide +kernel
theorem d_Ck_init_30 : decode b_Ck_init 30 = .ok (.iload_n 2, 1) := by decide +kernel
theorem d_Ck_init_31 : decode b_Ck_init 31 = .ok (.new 9, 3) := by decide +kernel
theorem d_Ck_init_34 : decode b_Ck_init 34 = .ok (.dup, 1) := by decide +kernel
theorem d_Ck_init_35 : decode b_Ck_init 35 = .ok (.invokespecial 21, 3) := by decide +kernel
theorem d_Ck_init_38 : decode b_Ck_init 38 = .ok (.aastore, 1) := by decide +kernel
theorem d_Ck_init_39 : decode b_Ck_init 39 = .ok (.iinc 2 1, 3) := by decide +kernel
theorem d_Ck_init_42 : decode b_Ck_init 42 = .ok (.goto (-22), 3) := by decide +kernel
theorem d_Ck_init_45 : decode b_Ck_init 45 = .ok (.return_, 1) := by decide +kernel
theorem d_Ck_accepts_0 : decode b_Ck_accepts 0 = .ok (.aload_n 1, 1) := by decide +kernel
theorem d_Ck_accepts_1 : decode b_Ck_accepts 1 = .ok (.invokevirtual 22, 3) := by decide +kernel
theorem d_Ck_accepts_4 : decode b_Ck_accepts 4 = .ok (.istore 6, 2) := by decide +kernel
theorem d_Ck_accepts_6 : decode b_Ck_accepts 6 = .ok (.iconst 0, 1) := by decide +kernel
theorem d_Ck_accepts_7 : decode b_Ck_accepts 7 = .ok (.istore 7, 2) := by decide +kernel
theorem d_Ck_accepts_9 : decode b_Ck_accepts 9 = .ok (.iload 7, 2) := by decide +kernel
theorem d_Ck_accepts_11 : decode b_Ck_accepts 11 = .ok (.iload 6, 2) := by decide +kernel
theorem d_Ck_accepts_13 : decode b_Ck_accepts 13 = .ok (.if_icmp .ge 38, 3) := by decide +kernel
theorem d_Ck_accepts_16 : decode b_Ck_accepts 16 = .ok (.aload_n 0, 1) := by decide +kernel
theorem d_Ck_accepts_17 : decode b_Ck_accepts 17 = .ok (.aload_n 1, 1) := by decide +kernel
theorem d_Ck_accepts_18 : decode b_Ck_accepts 18 = .ok (.iload 7, 2) := by decide +kernel
theorem d_Ck_accepts_20 : decode b_Ck_accepts 20 = .ok (.invokevirtual 28, 3) := by decide +kernel
theorem d_Ck_accepts_23 : decode b_Ck_accepts 23 = .ok (.aload_n 1, 1) := by decide +kernel
theorem d_Ck_accepts_24 : decode b_Ck_accepts 24 = .ok (.iload 7, 2) := by decide +kernel
theorem d_Ck_accepts_26 : decode b_Ck_accepts 26 = .ok (.invokevirtual 32, 3) := by decide +kernel
theorem d_Ck_accepts_29 : decode b_Ck_accepts 29 = .ok (.aload_n 1, 1) := by decide +kernel
theorem d_Ck_accepts_30 : decode b_Ck_accepts 30 = .ok (.iload 7, 2) := by decide +kernel
theorem d_Ck_accepts_32 : decode b_Ck_accepts 32 = .ok (.invokevirtual 35, 3) := by decide +kernel
theorem d_Ck_accepts_35 : decode b_Ck_accepts 35 = .ok (.iload 7, 2) := by decide +kernel
theorem d_Ck_accepts_37 : decode b_Ck_accepts 37 = .ok (.invokevirtual 38, 3) := by decide +kernel
theorem d_Ck_accepts_40 : decode b_Ck_accepts 40 = .ok (.ifCond .ne 5, 3) := by decide +kernel
theorem d_Ck_accepts_43 : decode b_Ck_accepts 43 = .ok (.iconst 0, 1) := by decide +kernel
theorem d_Ck_accepts_44 : decode b_Ck_accepts 44 = .ok (.ireturn, 1) := by decide +kernel
theorem d_Ck_accepts_45 : decode b_Ck_accepts 45 = .ok (.iinc 7 1, 3) := by decide +kernel
theorem d_Ck_accepts_48 : decode b_Ck_accepts 48 = .ok (.goto (-39), 3) := by decide +kernel
theorem d_Ck_accepts_51 : decode b_Ck_accepts 51 = .ok (.iload 6, 2) := by decide +kernel
theorem d_Ck_accepts_53 : decode b_Ck_accepts 53 = .ok (.ifCond .le 28, 3) := by decide +kernel
theorem d_Ck_accepts_56 : decode b_Ck_accepts 56 = .ok (.aload_n 0, 1) := by decide +kernel
theorem d_Ck_accepts_57 : decode b_Ck_accepts 57 = .ok (.getfield 11, 3) := by decide +kernel
theorem d_Ck_accepts_60 : decode b_Ck_accepts 60 = .ok (.iload 6, 2) := by decide +kernel
theorem d_Ck_accepts_62 : decode b_Ck_accepts 62 = .ok (.iconst 1, 1) := by decide +kernel
theorem d_Ck_accepts_63 : decode b_Ck_accepts 63 = .ok (.isub, 1) := by decide +kernel
theorem d_Ck_accepts_64 : decode b_Ck_accepts 64 = .ok (.aaload, 1) := by decide +kernel
theorem d_Ck_accepts_65 : decode b_Ck_accepts 65 = .ok (.iload_n 2, 1) := by decide +kernel
theorem d_Ck_accepts_66 : decode b_Ck_accepts 66 = .ok (.iload_n 3, 1) := by decide +kernel
theorem d_Ck_accepts_67 : decode b_Ck_accepts 67 = .ok (.iload 4, 2) := by decide +kernel
theorem d_Ck_accepts_69 : decode b_Ck_accepts 69 = .ok (.iload 5, 2) := by decide +kernel
theorem d_Ck_accepts_71 : decode b_Ck_accepts 71 = .ok (.invokevirtual 42, 3) := by decide +kernel
theorem d_Ck_accepts_74 : decode b_Ck_accepts 74 = .ok (.ifCond .eq 7, 3) := by decide +kernel
theorem d_Ck_accepts_77 : decode b_Ck_accepts 77 = .ok (.iconst 1, 1) := by decide +kernel
theorem d_Ck_accepts_78 : decode b_Ck_accepts 78 = .ok (.goto 4, 3) := by decide +kernel
theorem d_Ck_accepts_81 : decode b_Ck_accepts 81 = .ok (.iconst 0, 1) := by decide +kernel
theorem d_Ck_accepts_82 : decode b_Ck_accepts 82 = .ok (.ireturn, 1) := by decide +kernel
theorem d_Ck_follows_0 : decode b_Ck_follows 0 = .ok (.iload_n 1, 1) := by decide +kernel
theorem d_Ck_follows_1 : decode b_Ck_follows 1 = .ok (.iconst 1, 1) := by decide +kernel
theorem d_Ck_follows_2 : decode b_Ck_follows 2 = .ok (.if_icmp .ne 22, 3) := by decide +kernel
theorem d_Ck_follows_5 : decode b_Ck_follows 5 = .ok (.aload_n 0, 1) := by decide +kernel
theorem d_Ck_follows_6 : decode b_Ck_follows 6 = .ok (.getfield 17, 3) := by decide +kernel
theorem d_Ck_follows_9 : decode b_Ck_follows 9 = .ok (.iload_n 2, 1) := by decide +kernel
theorem d_Ck_follows_10 : decode b_Ck_follows 10 = .ok (.invokevirtual 45, 3) := by decide +kernel
theorem d_Ck_follows_13 : decode b_Ck_follows 13 = .ok (.aload_n 0, 1) := by decide +kernel
theorem d_Ck_follows_14 : decode b_Ck_follows 14 = .ok (.getfield 11, 3) := by decide +kernel
theorem d_Ck_follows_17 : decode b_Ck_follows 17 = .ok (.iload 4, 2) := by decide +kernel
theorem d_Ck_follows_19 : decode b_Ck_follows 19 = .ok (.aaload, 1) := by decide +kernel
theorem d_Ck_follows_20 : decode b_Ck_follows 20 = .ok (.invokestatic 51, 3) := by decide +kernel
theorem d_Ck_follows_23 : decode b_Ck_follows 23 = .ok (.ireturn, 1) := by decide +kernel
theorem d_Ck_follows_24 : decode b_Ck_follows 24 = .ok (.iload_n 3, 1) := by decide +kernel
theorem d_Ck_follows_25 : decode b_Ck_follows 25 = .ok (.ifCond .lt 9, 3) := by decide +kernel
theorem d_Ck_follows_28 : decode b_Ck_follows 28 = .ok (.iload_n 3, 1) := by decide +kernel
theorem d_Ck_follows_29 : decode b_Ck_follows 29 = .ok (.iload 4, 2) := by decide +kernel
theorem d_Ck_follows_31 : decode b_Ck_follows 31 = .ok (.if_icmp .lt 5, 3) := by decide +kernel
theorem d_Ck_follows_34 : decode b_Ck_follows 34 = .ok (.iconst 0, 1) := by decide +kernel
theorem d_Ck_follows_35 : decode b_Ck_follows 35 = .ok (.ireturn, 1) := by decide +kernel
theorem d_Ck_follows_36 : decode b_Ck_follows 36 = .ok (.iload_n 1, 1) := by decide +kernel
theorem d_Ck_follows_37 : decode b_Ck_follows 37 = .ok (.bipush 7, 2) := by decide +kernel
theorem d_Ck_follows_39 : decode b_Ck_follows 39 = .ok (.if_icmp .ne 28, 3) := by decide +kernel
theorem d_Ck_follows_42 : decode b_Ck_follows 42 = .ok (.aload_n 0, 1) := by decide +kernel
theorem d_Ck_follows_43 : decode b_Ck_follows 43 = .ok (.getfield 17, 3) := by decide +kernel
theorem d_Ck_follows_46 : decode b_Ck_follows 46 = .ok (.iload_n 2, 1) := by decide +kernel
theorem d_Ck_follows_47 : decode b_Ck_follows 47 = .ok (.invokevirtual 45, 3) := by decide +kernel
theorem d_Ck_follows_50 : decode b_Ck_follows 50 = .ok (.aload_n 0, 1) := by decide +kernel
theorem d_Ck_follows_51 : decode b_Ck_follows 51 = .ok (.getfield 11, 3) := by decide +kernel
theorem d_Ck_follows_54 : decode b_Ck_follows 54 = .ok (.iload_n 3, 1) := by decide +kernel
theorem d_Ck_follows_55 : decode b_Ck_follows 55 = .ok (.aaload, 1) := by decide +kernel
theorem d_Ck_follows_56 : decode b_Ck_follows 56 = .ok (.aload_n 0, 1) := by decide +kernel
theorem d_Ck_follows_57 : decode b_Ck_follows 57 = .ok (.getfield 11, 3) := by decide +kernel
theorem d_Ck_follows_60 : decode b_Ck_follows 60 = .ok (.iload 4, 2) := by decide +kernel
theorem d_Ck_follows_62 : decode b_Ck_follows 62 = .ok (.aaload, 1) := by decide +kernel
theorem d_Ck_follows_63 : decode b_Ck_follows 63 = .ok (.invokestatic 55, 3) := by decide +kernel
theorem d_Ck_follows_66 : decode b_Ck_follows 66 = .ok (.ireturn, 1) := by decide +kernel
theorem d_Ck_follows_67 : decode b_Ck_follows 67 = .ok (.iload_n 2, 1) := by decide +kernel
theorem d_Ck_follows_68 : decode b_Ck_follows 68 = .ok (.ifCond .lt 39, 3) := by decide +kernel
theorem d_Ck_follows_71 : decode b_Ck_follows 71 = .ok (.iload_n 2, 1) := by decide +kernel
theorem d_Ck_follows_72 : decode b_Ck_follows 72 = .ok (.iload 4, 2) := by decide +kernel
theorem d_Ck_follows_74 : decode b_Ck_follows 74 = .ok (.if_icmp .ge 33, 3) := by decide +kernel
theorem d_Ck_follows_77 : decode b_Ck_follows 77 = .ok (.iload_n 1, 1) := by decide +kernel
theorem d_Ck_follows_78 : decode b_Ck_follows 78 = .ok (.aload_n 0, 1) := by decide +kernel
theorem d_Ck_follows_79 : decode b_Ck_follows 79 = .ok (.getfield 11, 3) := by decide +kernel
theorem d_Ck_follows_82 : decode b_Ck_follows 82 = .ok (.iload_n 2, 1) := by decide +kernel
theorem d_Ck_follows_83 : decode b_Ck_follows 83 = .ok (.aaload, 1) := by decide +kernel
theorem d_Ck_follows_84 : decode b_Ck_follows 84 = .ok (.aload_n 0, 1) := by decide +kernel
theorem d_Ck_follows_85 : decode b_Ck_follows 85 = .ok (.getfield 11, 3) := by decide +kernel
theorem d_Ck_follows_88 : decode b_Ck_follows 88 = .ok (.iload_n 3, 1) := by decide +kernel
theorem d_Ck_follows_89 : decode b_Ck_follows 89 = .ok (.aaload, 1) := by decide +kernel
theorem d_Ck_follows_90 : decode b_Ck_follows 90 = .ok (.aload_n 0, 1) := by decide +kernel
theorem d_Ck_follows_91 : decode b_Ck_follows 91 = .ok (.getfield 11, 3) := by decide +kernel
theorem d_Ck_follows_94 : decode b_Ck_follows 94 = .ok (.iload 4, 2) := by decide +kernel
theorem d_Ck_follows_96 : decode b_Ck_follows 96 = .ok (.aaload, 1) := by decide +kernel
theorem d_Ck_follows_97 : decode b_Ck_follows 97 = .ok (.invokestatic 59, 3) := by decide +kernel
theorem d_Ck_follows_100 : decode b_Ck_follows 100 = .ok (.ifCond .eq 7, 3) := by decide +kernel
theorem d_Ck_follows_103 : decode b_Ck_follows 103 = .ok (.iconst 1, 1) := by decide +kernel
theorem d_Ck_follows_104 : decode b_Ck_follows 104 = .ok (.goto 4, 3) := by decide +kernel
theorem d_Ck_follows_107 : decode b_Ck_follows 107 = .ok (.iconst 0, 1) := by decide +kernel
theorem d_Ck_follows_108 : decode b_Ck_follows 108 = .ok (.ireturn, 1) := by decide +kernel
theorem d_Ck_isSaid_0 : decode b_Ck_isSaid 0 = .ok (.aload_n 0, 1) := by decide +kernel
theorem d_Ck_isSaid_1 : decode b_Ck_isSaid 1 = .ok (.ifnull 11, 3) := by decide +kernel
theorem d_Ck_isSaid_4 : decode b_Ck_isSaid 4 = .ok (.aload_n 0, 1) := by decide +kernel
theorem d_Ck_isSaid_5 : decode b_Ck_isSaid 5 = .ok (.getfield 63, 3) := by decide +kernel
theorem d_Ck_isSaid_8 : decode b_Ck_isSaid 8 = .ok (.iconst 3, 1) := by decide +kernel
theorem d_Ck_isSaid_9 : decode b_Ck_isSaid 9 = .ok (.if_icmp .ne 5, 3) := by decide +kernel
theorem d_Ck_isSaid_12 : decode b_Ck_isSaid 12 = .ok (.iconst 0, 1) := by decide +kernel
theorem d_Ck_isSaid_13 : decode b_Ck_isSaid 13 = .ok (.ireturn, 1) := by decide +kernel
theorem d_Ck_isSaid_14 : decode b_Ck_isSaid 14 = .ok (.aload_n 1, 1) := by decide +kernel
theorem d_Ck_isSaid_15 : decode b_Ck_isSaid 15 = .ok (.aload_n 0, 1) := by decide +kernel
theorem d_Ck_isSaid_16 : decode b_Ck_isSaid 16 = .ok (.invokevirtual 69, 3) := by decide +kernel
theorem d_Ck_isSaid_19 : decode b_Ck_isSaid 19 = .ok (.iconst 1, 1) := by decide +kernel
theorem d_Ck_isSaid_20 : decode b_Ck_isSaid 20 = .ok (.ireturn, 1) := by decide +kernel
theorem d_Ck_isImplied_0 : decode b_Ck_isImplied 0 = .ok (.aload_n 0, 1) := by decide +kernel
theorem d_Ck_isImplied_1 : decode b_Ck_isImplied 1 = .ok (.ifnull 18, 3) := by decide +kernel
theorem d_Ck_isImplied_4 : decode b_Ck_isImplied 4 = .ok (.aload_n 0, 1) := by decide +kernel
theorem d_Ck_isImplied_5 : decode b_Ck_isImplied 5 = .ok (.getfield 63, 3) := by decide +kernel
theorem d_Ck_isImplied_8 : decode b_Ck_isImplied 8 = .ok (.iconst 3, 1) := by decide +kernel
theorem d_Ck_isImplied_9 : decode b_Ck_isImplied 9 = .ok (.if_icmp .ne 10, 3) := by decide +kernel
theorem d_Ck_isImplied_12 : decode b_Ck_isImplied 12 = .ok (.aload_n 1, 1) := by decide +kernel
theorem d_Ck_isImplied_13 : decode b_Ck_isImplied 13 = .ok (.getfield 73, 3) := by decide +kernel
theorem d_Ck_isImplied_16 : decode b_Ck_isImplied 16 = .ok (.ifCond .eq 5, 3) := by decide +kernel
theorem d_Ck_isImplied_19 : decode b_Ck_isImplied 19 = .ok (.iconst 0, 1) := by decide +kernel
theorem d_Ck_isImplied_20 : decode b_Ck_isImplied 20 = .ok (.ireturn, 1) := by decide +kernel
theorem d_Ck_isImplied_21 : decode b_Ck_isImplied 21 = .ok (.aload_n 1, 1) := by decide +kernel
theorem d_Ck_isImplied_22 : decode b_Ck_isImplied 22 = .ok (.getfield 74, 3) := by decide +kernel
theorem d_Ck_isImplied_25 : decode b_Ck_isImplied 25 = .ok (.aload_n 0, 1) := by decide +kernel
theorem d_Ck_isImplied_26 : decode b_Ck_isImplied 26 = .ok (.getfield 77, 3) := by decide +kernel
theorem d_Ck_isImplied_29 : decode b_Ck_isImplied 29 = .ok (.if_icmp .ne 16, 3) := by decide +kernel
theorem d_Ck_isImplied_32 : decode b_Ck_isImplied 32 = .ok (.aload_n 1, 1) := by decide +kernel
theorem d_Ck_isImplied_33 : decode b_Ck_isImplied 33 = .ok (.getfield 80, 3) := by decide +kernel
theorem d_Ck_isImplied_36 : decode b_Ck_isImplied 36 = .ok (.aload_n 0, 1) := by decide +kernel
theorem d_Ck_isImplied_37 : decode b_Ck_isImplied 37 = .ok (.getfield 83, 3) := by decide +kernel
theorem d_Ck_isImplied_40 : decode b_Ck_isImplied 40 = .ok (.iconst 0, 1) := by decide +kernel
theorem d_Ck_isImplied_41 : decode b_Ck_isImplied 41 = .ok (.iaload, 1) := by decide +kernel
theorem d_Ck_isImplied_42 : decode b_Ck_isImplied 42 = .ok (.if_icmp .eq 5, 3) := by decide +kernel
theorem d_Ck_isImplied_45 : decode b_Ck_isImplied 45 = .ok (.iconst 0, 1) := by decide +kernel
theorem d_Ck_isImplied_46 : decode b_Ck_isImplied 46 = .ok (.ireturn, 1) := by decide +kernel
theorem d_Ck_isImplied_47 : decode b_Ck_isImplied 47 = .ok (.aload_n 2, 1) := by decide +kernel
theorem d_Ck_isImplied_48 : decode b_Ck_isImplied 48 = .ok (.aload_n 1, 1) := by decide +kernel
theorem d_Ck_isImplied_49 : decode b_Ck_isImplied 49 = .ok (.invokevirtual 87, 3) := by decide +kernel
theorem d_Ck_isImplied_52 : decode b_Ck_isImplied 52 = .ok (.aload_n 2, 1) := by decide +kernel
theorem d_Ck_isImplied_53 : decode b_Ck_isImplied 53 = .ok (.aload_n 0, 1) := by decide +kernel
theorem d_Ck_isImplied_54 : decode b_Ck_isImplied 54 = .ok (.getfield 83, 3) := by decide +kernel
theorem d_Ck_isImplied_57 : decode b_Ck_isImplied 57 = .ok (.iconst 1, 1) := by decide +kernel
theorem d_Ck_isImplied_58 : decode b_Ck_isImplied 58 = .ok (.iaload, 1) := by decide +kernel
theorem d_Ck_isImplied_59 : decode b_Ck_isImplied 59 = .ok (.putfield 80, 3) := by decide +kernel
theorem d_Ck_isImplied_62 : decode b_Ck_isImplied 62 = .ok (.iconst 1, 1) := by decide +kernel
theorem d_Ck_isImplied_63 : decode b_Ck_isImplied 63 = .ok (.ireturn, 1) := by decide +kernel
theorem d_Ck_isJoined_0 : decode b_Ck_isJoined 0 = .ok (.iload_n 0, 1) := by decide +kernel
theorem d_Ck_isJoined_1 : decode b_Ck_isJoined 1 = .ok (.tableswitch 196 2 6 #[35, 65, 103, 134, 165], 35) := by decide +kernel
theorem d_Ck_isJoined_36 : decode b_Ck_isJoined 36 = .ok (.aload_n 1, 1) := by decide +kernel
theorem d_Ck_isJoined_37 : decode b_Ck_isJoined 37 = .ok (.getfield 73, 3) := by decide +kernel
theorem d_Ck_isJoined_40 : decode b_Ck_isJoined 40 = .ok (.iconst 1, 1) := by decide +kernel
theorem d_Ck_isJoined_41 : decode b_Ck_isJoined 41 = .ok (.if_icmp .ne 23, 3) := by decide +kernel
theorem d_Ck_isJoined_44 : decode b_Ck_isJoined 44 = .ok (.aload_n 2, 1) := by decide +kernel
theorem d_Ck_isJoined_45 : decode b_Ck_isJoined 45 = .ok (.getfield 73, 3) := by decide +kernel
theorem d_Ck_isJoined_48 : decode b_Ck_isJoined 48 = .ok (.ifCond .ne 16, 3) := by decide +kernel
theorem d_Ck_isJoined_51 : decode b_Ck_isJoined 51 = .ok (.aload_n 1, 1) := by decide +kernel
theorem d_Ck_isJoined_52 : decode b_Ck_isJoined 52 = .ok (.aload_n 2, 1) := by decide +kernel
theorem d_Ck_isJoined_53 : decode b_Ck_isJoined 53 = .ok (.aload_n 3, 1) := by decide +kernel
theorem d_Ck_isJoined_54 : decode b_Ck_isJoined 54 = .ok (.invokestatic 91, 3) := by decide +kernel
theorem d_Ck_isJoined_57 : decode b_Ck_isJoined 57 = .ok (.ifCond .eq 7, 3) := by decide +kernel
theorem d_Ck_isJoined_60 : decode b_Ck_isJoined 60 = .ok (.iconst 1, 1) := by decide +kernel
theorem d_Ck_isJoined_61 : decode b_Ck_isJoined 61 = .ok (.goto 4, 3) := by decide +kernel
theorem d_Ck_isJoined_64 : decode b_Ck_isJoined 64 = .ok (.iconst 0, 1) := by decide +kernel
theorem d_Ck_isJoined_65 : decode b_Ck_isJoined 65 = .ok (.ireturn, 1) := by decide +kernel
theorem d_Ck_isJoined_66 : decode b_Ck_isJoined 66 = .ok (.aload_n 1, 1) := by decide +kernel
theorem d_Ck_isJoined_67 : decode b_Ck_isJoined 67 = .ok (.getfield 73, 3) := by decide +kernel
theorem d_Ck_isJoined_70 : decode b_Ck_isJoined 70 = .ok (.iconst 2, 1) := by decide +kernel
theorem d_Ck_isJoined_71 : decode b_Ck_isJoined 71 = .ok (.if_icmp .ne 31, 3) := by decide +kernel
theorem d_Ck_isJoined_74 : decode b_Ck_isJoined 74 = .ok (.aload_n 2, 1) := by decide +kernel
theorem d_Ck_isJoined_75 : decode b_Ck_isJoined 75 = .ok (.getfield 73, 3) := by decide +kernel
theorem d_Ck_isJoined_78 : decode b_Ck_isJoined 78 = .ok (.ifCond .ne 24, 3) := by decide +kernel
theorem d_Ck_isJoined_81 : decode b_Ck_isJoined 81 = .ok (.aload_n 1, 1) := by decide +kernel
theorem d_Ck_isJoined_82 : decode b_Ck_isJoined 82 = .ok (.aload_n 2, 1) := by decide +kernel
theorem d_Ck_isJoined_83 : decode b_Ck_isJoined 83 = .ok (.invokevirtual 95, 3) := by decide +kernel
theorem d_Ck_isJoined_86 : decode b_Ck_isJoined 86 = .ok (.ifCond .eq 16, 3) := by decide +kernel
theorem d_Ck_isJoined_89 : decode b_Ck_isJoined 89 = .ok (.aload_n 1, 1) := by decide +kernel
theorem d_Ck_isJoined_90 : decode b_Ck_isJoined 90 = .ok (.aload_n 2, 1) := by decide +kernel
theorem d_Ck_isJoined_91 : decode b_Ck_isJoined 91 = .ok (.aload_n 3, 1) := by decide +kernel
theorem d_Ck_isJoined_92 : decode b_Ck_isJoined 92 = .ok (.invokestatic 91, 3) := by decide +kernel
theorem d_Ck_isJoined_95 : decode b_Ck_isJoined 95 = .ok (.ifCond .eq 7, 3) := by decide +kernel
theorem d_Ck_isJoined_98 : decode b_Ck_isJoined 98 = .ok (.iconst 1, 1) := by decide +kernel
theorem d_Ck_isJoined_99 : decode b_Ck_isJoined 99 = .ok (.goto 4, 3) := by decide +kernel
theorem d_Ck_isJoined_102 : decode b_Ck_isJoined 102 = .ok (.iconst 0, 1) := by decide +kernel
theorem d_Ck_isJoined_103 : decode b_Ck_isJoined 103 = .ok (.ireturn, 1) := by decide +kernel
theorem d_Ck_isJoined_104 : decode b_Ck_isJoined 104 = .ok (.aload_n 1, 1) := by decide +kernel
theorem d_Ck_isJoined_105 : decode b_Ck_isJoined 105 = .ok (.getfield 73, 3) := by decide +kernel
theorem d_Ck_isJoined_108 : decode b_Ck_isJoined 108 = .ok (.iconst 2, 1) := by decide +kernel
theorem d_Ck_isJoined_109 : decode b_Ck_isJoined 109 = .ok (.if_icmp .ne 24, 3) := by decide +kernel
theorem d_Ck_isJoined_112 : decode b_Ck_isJoined 112 = .ok (.aload_n 2, 1) := by decide +kernel
theorem d_Ck_isJoined_113 : decode b_Ck_isJoined 113 = .ok (.getfield 73, 3) := by decide +kernel
theorem d_Ck_isJoined_116 : decode b_Ck_isJoined 116 = .ok (.iconst 2, 1) := by decide +kernel
theorem d_Ck_isJoined_117 : decode b_Ck_isJoined 117 = .ok (.if_icmp .ne 16, 3) := by decide +kernel
theorem d_Ck_isJoined_120 : decode b_Ck_isJoined 120 = .ok (.aload_n 1, 1) := by decide +kernel
theorem d_Ck_isJoined_121 : decode b_Ck_isJoined 121 = .ok (.aload_n 2, 1) := by decide +kernel
theorem d_Ck_isJoined_122 : decode b_Ck_isJoined 122 = .ok (.aload_n 3, 1) := by decide +kernel
theorem d_Ck_isJoined_123 : decode b_Ck_isJoined 123 = .ok (.invokestatic 99, 3) := by decide +kernel
theorem d_Ck_isJoined_126 : decode b_Ck_isJoined 126 = .ok (.ifCond .eq 7, 3) := by decide +kernel
theorem d_Ck_isJoined_129 : decode b_Ck_isJoined 129 = .ok (.iconst 1, 1) := by decide +kernel
theorem d_Ck_isJoined_130 : decode b_Ck_isJoined 130 = .ok (.goto 4, 3) := by decide +kernel
theorem d_Ck_isJoined_133 : decode b_Ck_isJoined 133 = .ok (.iconst 0, 1) := by decide +kernel
theorem d_Ck_isJoined_134 : decode b_Ck_isJoined 134 = .ok (.ireturn, 1) := by decide +kernel
theorem d_Ck_isJoined_135 : decode b_Ck_isJoined 135 = .ok (.aload_n 1, 1) := by decide +kernel
theorem d_Ck_isJoined_136 : decode b_Ck_isJoined 136 = .ok (.getfield 73, 3) := by decide +kernel
theorem d_Ck_isJoined_139 : decode b_Ck_isJoined 139 = .ok (.iconst 1, 1) := by decide +kernel
theorem d_Ck_isJoined_140 : decode b_Ck_isJoined 140 = .ok (.if_icmp .ne 24, 3) := by decide +kernel
theorem d_Ck_isJoined_143 : decode b_Ck_isJoined 143 = .ok (.aload_n 2, 1) := by decide +kernel
theorem d_Ck_isJoined_144 : decode b_Ck_isJoined 144 = .ok (.getfield 73, 3) := by decide +kernel
theorem d_Ck_isJoined_147 : decode b_Ck_isJoined 147 = .ok (.iconst 2, 1) := by decide +kernel
theorem d_Ck_isJoined_148 : decode b_Ck_isJoined 148 = .ok (.if_icmp .ne 16, 3) := by decide +kernel
theorem d_Ck_isJoined_151 : decode b_Ck_isJoined 151 = .ok (.aload_n 1, 1) := by decide +kernel
theorem d_Ck_isJoined_152 : decode b_Ck_isJoined 152 = .ok (.aload_n 2, 1) := by decide +kernel
theorem d_Ck_isJoined_153 : decode b_Ck_isJoined 153 = .ok (.aload_n 3, 1) := by decide +kernel
theorem d_Ck_isJoined_154 : decode b_Ck_isJoined 154 = .ok (.invokestatic 91, 3) := by decide +kernel
theorem d_Ck_isJoined_157 : decode b_Ck_isJoined 157 = .ok (.ifCond .eq 7, 3) := by decide +kernel
theorem d_Ck_isJoined_160 : decode b_Ck_isJoined 160 = .ok (.iconst 1, 1) := by decide +kernel
theorem d_Ck_isJoined_161 : decode b_Ck_isJoined 161 = .ok (.goto 4, 3) := by decide +kernel
theorem d_Ck_isJoined_164 : decode b_Ck_isJoined 164 = .ok (.iconst 0, 1) := by decide +kernel
theorem d_Ck_isJoined_165 : decode b_Ck_isJoined 165 = .ok (.ireturn, 1) := by decide +kernel
theorem d_Ck_isJoined_166 : decode b_Ck_isJoined 166 = .ok (.aload_n 1, 1) := by decide +kernel
theorem d_Ck_isJoined_167 : decode b_Ck_isJoined 167 = .ok (.getfield 73, 3) := by decide +kernel
theorem d_Ck_isJoined_170 : decode b_Ck_isJoined 170 = .ok (.iconst 1, 1) := by decide +kernel
theorem d_Ck_isJoined_171 : decode b_Ck_isJoined 171 = .ok (.if_icmp .ne 24, 3) := by decide +kernel
theorem d_Ck_isJoined_174 : decode b_Ck_isJoined 174 = .ok (.aload_n 2, 1) := by decide +kernel
theorem d_Ck_isJoined_175 : decode b_Ck_isJoined 175 = .ok (.getfield 73, 3) := by decide +kernel
theorem d_Ck_isJoined_178 : decode b_Ck_isJoined 178 = .ok (.iconst 1, 1) := by decide +kernel
theorem d_Ck_isJoined_179 : decode b_Ck_isJoined 179 = .ok (.if_icmp .ne 16, 3) := by decide +kernel
theorem d_Ck_isJoined_182 : decode b_Ck_isJoined 182 = .ok (.aload_n 2, 1) := by decide +kernel
theorem d_Ck_isJoined_183 : decode b_Ck_isJoined 183 = .ok (.aload_n 1, 1) := by decide +kernel
theorem d_Ck_isJoined_184 : decode b_Ck_isJoined 184 = .ok (.aload_n 3, 1) := by decide +kernel
theorem d_Ck_isJoined_185 : decode b_Ck_isJoined 185 = .ok (.invokestatic 91, 3) := by decide +kernel
theorem d_Ck_isJoined_188 : decode b_Ck_isJoined 188 = .ok (.ifCond .eq 7, 3) := by decide +kernel
theorem d_Ck_isJoined_191 : decode b_Ck_isJoined 191 = .ok (.iconst 1, 1) := by decide +kernel
theorem d_Ck_isJoined_192 : decode b_Ck_isJoined 192 = .ok (.goto 4, 3) := by decide +kernel
theorem d_Ck_isJoined_195 : decode b_Ck_isJoined 195 = .ok (.iconst 0, 1) := by decide +kernel
theorem d_Ck_isJoined_196 : decode b_Ck_isJoined 196 = .ok (.ireturn, 1) := by decide +kernel
theorem d_Ck_isJoined_197 : decode b_Ck_isJoined 197 = .ok (.iconst 0, 1) := by decide +kernel
theorem d_Ck_isJoined_198 : decode b_Ck_isJoined 198 = .ok (.ireturn, 1) := by decide +kernel
theorem d_Ck_isTrustedDeeper_0 : decode b_Ck_isTrustedDeeper 0 = .ok (.aload_n 0, 1) := by decide +kernel
theorem d_Ck_isTrustedDeeper_1 : decode b_Ck_isTrustedDeeper 1 = .ok (.getfield 102, 3) := by decide +kernel
theorem d_Ck_isTrustedDeeper_4 : decode b_Ck_isTrustedDeeper 4 = .ok (.ifCond .le 20, 3) := by decide +kernel
theorem d_Ck_isTrustedDeeper_7 : decode b_Ck_isTrustedDeeper 7 = .ok (.aload_n 0, 1) := by decide +kernel
theorem d_Ck_isTrustedDeeper_8 : decode b_Ck_isTrustedDeeper 8 = .ok (.aload_n 1, 1) := by decide +kernel
theorem d_Ck_isTrustedDeeper_9 : decode b_Ck_isTrustedDeeper 9 = .ok (.invokevirtual 95, 3) := by decide +kernel
theorem d_Ck_isTrustedDeeper_12 : decode b_Ck_isTrustedDeeper 12 = .ok (.ifCond .eq 12, 3) := by decide +kernel
theorem d_Ck_isTrustedDeeper_15 : decode b_Ck_isTrustedDeeper 15 = .ok (.aload_n 0, 1) := by decide +kernel
theorem d_Ck_isTrustedDeeper_16 : decode b_Ck_isTrustedDeeper 16 = .ok (.aload_n 1, 1) := by decide +kernel
theorem d_Ck_isTrustedDeeper_17 : decode b_Ck_isTrustedDeeper 17 = .ok (.aload_n 2, 1) := by decide +kernel
theorem d_Ck_isTrustedDeeper_18 : decode b_Ck_isTrustedDeeper 18 = .ok (.invokestatic 91, 3) := by decide +kernel
theorem d_Ck_isTrustedDeeper_21 : decode b_Ck_isTrustedDeeper 21 = .ok (.ifCond .ne 5, 3) := by decide +kernel
theorem d_Ck_isTrustedDeeper_24 : decode b_Ck_isTrustedDeeper 24 = .ok (.iconst 0, 1) := by decide +kernel
theorem d_Ck_isTrustedDeeper_25 : decode b_Ck_isTrustedDeeper 25 = .ok (.ireturn, 1) := by decide +kernel
theorem d_Ck_isTrustedDeeper_26 : decode b_Ck_isTrustedDeeper 26 = .ok (.aload_n 2, 1) := by decide +kernel
theorem d_Ck_isTrustedDeeper_27 : decode b_Ck_isTrustedDeeper 27 = .ok (.aload_n 0, 1) := by decide +kernel
theorem d_Ck_isTrustedDeeper_28 : decode b_Ck_isTrustedDeeper 28 = .ok (.getfield 102, 3) := by decide +kernel
theorem d_Ck_isTrustedDeeper_31 : decode b_Ck_isTrustedDeeper 31 = .ok (.iconst 1, 1) := by decide +kernel
theorem d_Ck_isTrustedDeeper_32 : decode b_Ck_isTrustedDeeper 32 = .ok (.isub, 1) := by decide +kernel
theorem d_Ck_isTrustedDeeper_33 : decode b_Ck_isTrustedDeeper 33 = .ok (.aload_n 1, 1) := by decide +kernel
theorem d_Ck_isTrustedDeeper_34 : decode b_Ck_isTrustedDeeper 34 = .ok (.getfield 102, 3) := by decide +kernel
theorem d_Ck_isTrustedDeeper_37 : decode b_Ck_isTrustedDeeper 37 = .ok (.invokestatic 105, 3) := by decide +kernel
theorem d_Ck_isTrustedDeeper_40 : decode b_Ck_isTrustedDeeper 40 = .ok (.putfield 102, 3) := by decide +kernel
theorem d_Ck_isTrustedDeeper_43 : decode b_Ck_isTrustedDeeper 43 = .ok (.iconst 1, 1) := by decide +kernel
theorem d_Ck_isTrustedDeeper_44 : decode b_Ck_isTrustedDeeper 44 = .ok (.ireturn, 1) := by decide +kernel
theorem d_Ck_isHandedOn_0 : decode b_Ck_isHandedOn 0 = .ok (.aload_n 0, 1) := by decide +kernel
theorem d_Ck_isHandedOn_1 : decode b_Ck_isHandedOn 1 = .ok (.getfield 111, 3) := by decide +kernel
theorem d_Ck_isHandedOn_4 : decode b_Ck_isHandedOn 4 = .ok (.aload_n 1, 1) := by decide +kernel
theorem d_Ck_isHandedOn_5 : decode b_Ck_isHandedOn 5 = .ok (.getfield 74, 3) := by decide +kernel
theorem d_Ck_isHandedOn_8 : decode b_Ck_isHandedOn 8 = .ok (.if_icmp .eq 5, 3) := by decide +kernel
theorem d_Ck_isHandedOn_11 : decode b_Ck_isHandedOn 11 = .ok (.iconst 0, 1) := by decide +kernel
theorem d_Ck_isHandedOn_12 : decode b_Ck_isHandedOn 12 = .ok (.ireturn, 1) := by decide +kernel
theorem d_Ck_isHandedOn_13 : decode b_Ck_isHandedOn 13 = .ok (.aload_n 2, 1) := by decide +kernel
theorem d_Ck_isHandedOn_14 : decode b_Ck_isHandedOn 14 = .ok (.aload_n 1, 1) := by decide +kernel
theorem d_Ck_isHandedOn_15 : decode b_Ck_isHandedOn 15 = .ok (.invokevirtual 87, 3) := by decide +kernel
theorem d_Ck_isHandedOn_18 : decode b_Ck_isHandedOn 18 = .ok (.aload_n 2, 1) := by decide +kernel
theorem d_Ck_isHandedOn_19 : decode b_Ck_isHandedOn 19 = .ok (.aload_n 0, 1) := by decide +kernel
theorem d_Ck_isHandedOn_20 : decode b_Ck_isHandedOn 20 = .ok (.getfield 74, 3) := by decide +kernel
theorem d_Ck_isHandedOn_23 : decode b_Ck_isHandedOn 23 = .ok (.putfield 74, 3) := by decide +kernel
theorem d_Ck_isHandedOn_26 : decode b_Ck_isHandedOn 26 = .ok (.iconst 1, 1) := by decide +kernel
theorem d_Ck_isHandedOn_27 : decode b_Ck_isHandedOn 27 = .ok (.ireturn, 1) := by decide +kernel
theorem d_Cr_init_0 : decode b_Cr_init 0 = .ok (.aload_n 0, 1) := by decide +kernel
theorem d_Cr_init_1 : decode b_Cr_init 1 = .ok (.invokespecial 3, 3) := by decide +kernel
theorem d_Cr_init_4 : decode b_Cr_init 4 = .ok (.aload_n 0, 1) := by decide +kernel
theorem d_Cr_init_5 : decode b_Cr_init 5 = .ok (.iconst 4, 1) := by decide +kernel
theorem d_Cr_init_6 : decode b_Cr_init 6 = .ok (.newarray .int, 2) := by decide +kernel
theorem d_Cr_init_8 : decode b_Cr_init 8 = .ok (.putfield 11, 3) := by decide +kernel
theorem d_Cr_init_11 : decode b_Cr_init 11 = .ok (.aload_n 0, 1) := by decide +kernel
theorem d_Cr_init_12 : decode b_Cr_init 12 = .ok (.iload_n 1, 1) := by decide +kernel
theorem d_Cr_init_13 : decode b_Cr_init 13 = .ok (.putfield 15, 3) := by decide +kernel
theorem d_Cr_init_16 : decode b_Cr_init 16 = .ok (.aload_n 0, 1) := by decide +kernel
theorem d_Cr_init_17 : decode b_Cr_init 17 = .ok (.iload_n 2, 1) := by decide +kernel
theorem d_Cr_init_18 : decode b_Cr_init 18 = .ok (.putfield 19, 3) := by decide +kernel
theorem d_Cr_init_21 : decode b_Cr_init 21 = .ok (.aload_n 0, 1) := by decide +kernel
theorem d_Cr_init_22 : decode b_Cr_init 22 = .ok (.iload 4, 2) := by decide +kernel
theorem d_Cr_init_24 : decode b_Cr_init 24 = .ok (.putfield 22, 3) := by decide +kernel
theorem d_Cr_init_27 : decode b_Cr_init 27 = .ok (.aload_n 0, 1) := by decide +kernel
theorem d_Cr_init_28 : decode b_Cr_init 28 = .ok (.iload 5, 2) := by decide +kernel
theorem d_Cr_init_30 : decode b_Cr_init 30 = .ok (.putfield 25, 3) := by decide +kernel
theorem d_Cr_init_33 : decode b_Cr_init 33 = .ok (.iconst 0, 1) := by decide +kernel
theorem d_Cr_init_34 : decode b_Cr_init 34 = .ok (.istore 6, 2) := by decide +kernel
theorem d_Cr_init_36 : decode b_Cr_init 36 = .ok (.iload 6, 2) := by decide +kernel
theorem d_Cr_init_38 : decode b_Cr_init 38 = .ok (.iconst 4, 1) := by decide +kernel
theorem d_Cr_init_39 : decode b_Cr_init 39 = .ok (.if_icmp .ge 40, 3) := by decide +kernel
theorem d_Cr_init_42 : decode b_Cr_init 42 = .ok (.aload_n 0, 1) := by decide +kernel
theorem d_Cr_init_43 : decode b_Cr_init 43 = .ok (.getfield 11, 3) := by decide +kernel
theorem d_Cr_init_46 : decode b_Cr_init 46 = .ok (.iload 6, 2) := by decide +kernel
theorem d_Cr_init_48 : decode b_Cr_init 48 = .ok (.iload_n 2, 1) := by decide +kernel
theorem d_Cr_init_49 : decode b_Cr_init 49 = .ok (.invokestatic 28, 3) := by decide +kernel
theorem d_Cr_init_52 : decode b_Cr_init 52 = .ok (.ifCond .eq 12, 3) := by decide +kernel
theorem d_Cr_init_55 : decode b_Cr_init 55 = .ok (.iload_n 2, 1) := by decide +kernel
theorem d_Cr_init_56 : decode b_Cr_init 56 = .ok (.iload 6, 2) := by decide +kernel
theorem d_Cr_init_58 : decode b_Cr_init 58 = .ok (.invokestatic 32, 3) := by decide +kernel
theorem d_Cr_init_61 : decode b_Cr_init 61 = .ok (.ifCond .le 10, 3) := by decide +kernel
theorem d_Cr_init_64 : decode b_Cr_init 64 = .ok (.aload_n 3, 1) := by decide +kernel
theorem d_Cr_init_65 : decode b_Cr_init 65 = .ok (.iload 6, 2) := by decide +kernel
theorem d_Cr_init_67 : decode b_Cr_init 67 = .ok (.iaload, 1) := by decide +kernel
theorem d_Cr_init_68 : decode b_Cr_init 68 = .ok (.goto 4, 3) := by decide +kernel
theorem d_Cr_init_71 : decode b_Cr_init 71 = .ok (.iconst 0, 1) := by decide +kernel
theorem d_Cr_init_72 : decode b_Cr_init 72 = .ok (.iastore, 1) := by decide +kernel
theorem d_Cr_init_73 : decode b_Cr_init 73 = .ok (.iinc 6 1, 3) := by decide +kernel
theorem d_Cr_init_76 : decode b_Cr_init 76 = .ok (.goto (-40), 3) := by decide +kernel
theorem d_Cr_init_79 : decode b_Cr_init 79 = .ok (.return_, 1) := by decide +kernel
theorem d_Cr_isKind_0 : decode b_Cr_isKind 0 = .ok (.iload_n 0, 1) := by decide +kernel
theorem d_Cr_isKind_1 : decode b_Cr_isKind 1 = .ok (.ifCond .lt 12, 3) := by decide +kernel
theorem d_Cr_isKind_4 : decode b_Cr_isKind 4 = .ok (.iload_n 0, 1) := by decide +kernel
theorem d_Cr_isKind_5 : decode b_Cr_isKind 5 = .ok (.iconst 4, 1) := by decide +kernel
theorem d_Cr_isKind_6 : decode b_Cr_isKind 6 = .ok (.if_icmp .ge 7, 3) := by decide +kernel
theorem d_Cr_isKind_9 : decode b_Cr_isKind 9 = .ok (.iconst 1, 1) := by decide +kernel
theorem d_Cr_isKind_10 : decode b_Cr_isKind 10 = .ok (.goto 4, 3) := by decide +kernel
theorem d_Cr_isKind_13 : decode b_Cr_isKind 13 = .ok (.iconst 0, 1) := by decide +kernel
theorem d_Cr_isKind_14 : decode b_Cr_isKind 14 = .ok (.ireturn, 1) := by decide +kernel
theorem d_Cr_limit_0 : decode b_Cr_limit 0 = .ok (.getstatic 36, 3) := by decide +kernel
theorem d_Cr_limit_3 : decode b_Cr_limit 3 = .ok (.iconst 4, 1) := by decide +kernel
theorem d_Cr_limit_4 : decode b_Cr_limit 4 = .ok (.iload_n 0, 1) := by decide +kernel
theorem d_Cr_limit_5 : decode b_Cr_limit 5 = .ok (.imul, 1) := by decide +kernel
theorem d_Cr_limit_6 : decode b_Cr_limit 6 = .ok (.iload_n 1, 1) := by decide +kernel
theorem d_Cr_limit_7 : decode b_Cr_limit 7 = .ok (.iadd, 1) := by decide +kernel
theorem d_Cr_limit_8 : decode b_Cr_limit 8 = .ok (.iaload, 1) := by decide +kernel
theorem d_Cr_limit_9 : decode b_Cr_limit 9 = .ok (.ireturn, 1) := by decide +kernel
theorem d_Cr_isWellFormed_0 : decode b_Cr_isWellFormed 0 = .ok (.aload_n 0, 1) := by decide +kernel
theorem d_Cr_isWellFormed_1 : decode b_Cr_isWellFormed 1 = .ok (.getfield 15, 3) := by decide +kernel
theorem d_Cr_isWellFormed_4 : decode b_Cr_isWellFormed 4 = .ok (.invokestatic 39, 3) := by decide +kernel
theorem d_Cr_isWellFormed_7 : decode b_Cr_isWellFormed 7 = .ok (.ifCond .eq 13, 3) := by decide +kernel
theorem d_Cr_isWellFormed_10 : decode b_Cr_isWellFormed 10 = .ok (.aload_n 0, 1) := by decide +kernel
theorem d_Cr_isWellFormed_11 : decode b_Cr_isWellFormed 11 = .ok (.getfield 19, 3) := by decide +kernel
theorem d_Cr_isWellFormed_14 : decode b_Cr_isWellFormed 14 = .ok (.invokestatic 28, 3) := by decide +kernel
theorem d_Cr_isWellFormed_17 : decode b_Cr_isWellFormed 17 = .ok (.ifCond .ne 5, 3) := by decide +kernel
theorem d_Cr_isWellFormed_20 : decode b_Cr_isWellFormed 20 = .ok (.iconst 0, 1) := by decide +kernel
theorem d_Cr_isWellFormed_21 : decode b_Cr_isWellFormed 21 = .ok (.ireturn, 1) := by decide +kernel
theorem d_Cr_isWellFormed_22 : decode b_Cr_isWellFormed 22 = .ok (.iconst 0, 1) := by decide +kernel
theorem d_Cr_isWellFormed_23 : decode b_Cr_isWellFormed 23 = .ok (.istore_n 1, 1) := by decide +kernel
theorem d_Cr_isWellFormed_24 : decode b_Cr_isWellFormed 24 = .ok (.iload_n 1, 1) := by decide +kernel
theorem d_Cr_isWellFormed_25 : decode b_Cr_isWellFormed 25 = .ok (.iconst 4, 1) := by decide +kernel
theorem d_Cr_isWellFormed_26 : decode b_Cr_isWellFormed 26 = .ok (.if_icmp .ge 43, 3) := by decide +kernel
theorem d_Cr_isWellFormed_29 : decode b_Cr_isWellFormed 29 = .ok (.aload_n 0, 1) := by decide +kernel
theorem d_Cr_isWellFormed_30 : decode b_Cr_isWellFormed 30 = .ok (.getfield 19, 3) := by decide +kernel
theorem d_Cr_isWellFormed_33 : decode b_Cr_isWellFormed 33 = .ok (.iload_n 1, 1) := by decide +kernel
theorem d_Cr_isWellFormed_34 : decode b_Cr_isWellFormed 34 = .ok (.invokestatic 32, 3) := by decide +kernel
theorem d_Cr_isWellFormed_37 : decode b_Cr_isWellFormed 37 = .ok (.istore_n 2, 1) := by decide +kernel
theorem d_Cr_isWellFormed_38 : decode b_Cr_isWellFormed 38 = .ok (.iload_n 2, 1) := by decide +kernel
theorem d_Cr_isWellFormed_39 : decode b_Cr_isWellFormed 39 = .ok (.ifCond .le 24, 3) := by decide +kernel
theorem d_Cr_isWellFormed_42 : decode b_Cr_isWellFormed 42 = .ok (.aload_n 0, 1) := by decide +kernel
theorem d_Cr_isWellFormed_43 : decode b_Cr_isWellFormed 43 = .ok (.getfield 11, 3) := by decide +kernel
theorem d_Cr_isWellFormed_46 : decode b_Cr_isWellFormed 46 = .ok (.iload_n 1, 1) := by decide +kernel
theorem d_Cr_isWellFormed_47 : decode b_Cr_isWellFormed 47 = .ok (.iaload, 1) := by decide +kernel
theorem d_Cr_isWellFormed_48 : decode b_Cr_isWellFormed 48 = .ok (.ifCond .lt 13, 3) := by decide +kernel
theorem d_Cr_isWellFormed_51 : decode b_Cr_isWellFormed 51 = .ok (.aload_n 0, 1) := by decide +kernel
theorem d_Cr_isWellFormed_52 : decode b_Cr_isWellFormed 52 = .ok (.getfield 11, 3) := by decide +kernel
theorem d_Cr_isWellFormed_55 : decode b_Cr_isWellFormed 55 = .ok (.iload_n 1, 1) := by decide +kernel
theorem d_Cr_isWellFormed_56 : decode b_Cr_isWellFormed 56 = .ok (.iaload, 1) := by decide +kernel
theorem d_Cr_isWellFormed_57 : decode b_Cr_isWellFormed 57 = .ok (.iload_n 2, 1) := by decide +kernel
theorem d_Cr_isWellFormed_58 : decode b_Cr_isWellFormed 58 = .ok (.if_icmp .lt 5, 3) := by decide +kernel
theorem d_Cr_isWellFormed_61 : decode b_Cr_isWellFormed 61 = .ok (.iconst 0, 1) := by decide +kernel
theorem d_Cr_isWellFormed_62 : decode b_Cr_isWellFormed 62 = .ok (.ireturn, 1) := by decide +kernel
theorem d_Cr_isWellFormed_63 : decode b_Cr_isWellFormed 63 = .ok (.iinc 1 1, 3) := by decide +kernel
theorem d_Cr_isWellFormed_66 : decode b_Cr_isWellFormed 66 = .ok (.goto (-42), 3) := by decide +kernel
theorem d_Cr_isWellFormed_69 : decode b_Cr_isWellFormed 69 = .ok (.iconst 1, 1) := by decide +kernel
theorem d_Cr_isWellFormed_70 : decode b_Cr_isWellFormed 70 = .ok (.ireturn, 1) := by decide +kernel
theorem d_Cr_isValidAt_0 : decode b_Cr_isValidAt 0 = .ok (.aload_n 0, 1) := by decide +kernel
theorem d_Cr_isValidAt_1 : decode b_Cr_isValidAt 1 = .ok (.getfield 42, 3) := by decide +kernel
theorem d_Cr_isValidAt_4 : decode b_Cr_isValidAt 4 = .ok (.ifCond .ne 23, 3) := by decide +kernel
theorem d_Cr_isValidAt_7 : decode b_Cr_isValidAt 7 = .ok (.aload_n 0, 1) := by decide +kernel
theorem d_Cr_isValidAt_8 : decode b_Cr_isValidAt 8 = .ok (.getfield 22, 3) := by decide +kernel
theorem d_Cr_isValidAt_11 : decode b_Cr_isValidAt 11 = .ok (.iload_n 1, 1) := by decide +kernel
theorem d_Cr_isValidAt_12 : decode b_Cr_isValidAt 12 = .ok (.if_icmp .gt 15, 3) := by decide +kernel
theorem d_Cr_isValidAt_15 : decode b_Cr_isValidAt 15 = .ok (.iload_n 1, 1) := by decide +kernel
theorem d_Cr_isValidAt_16 : decode b_Cr_isValidAt 16 = .ok (.aload_n 0, 1) := by decide +kernel
theorem d_Cr_isValidAt_17 : decode b_Cr_isValidAt 17 = .ok (.getfield 25, 3) := by decide +kernel
theorem d_Cr_isValidAt_20 : decode b_Cr_isValidAt 20 = .ok (.if_icmp .gt 7, 3) := by decide +kernel
theorem d_Cr_isValidAt_23 : decode b_Cr_isValidAt 23 = .ok (.iconst 1, 1) := by decide +kernel
theorem d_Cr_isValidAt_24 : decode b_Cr_isValidAt 24 = .ok (.goto 4, 3) := by decide +kernel
theorem d_Cr_isValidAt_27 : decode b_Cr_isValidAt 27 = .ok (.iconst 0, 1) := by decide +kernel
theorem d_Cr_isValidAt_28 : decode b_Cr_isValidAt 28 = .ok (.ireturn, 1) := by decide +kernel
theorem d_Cr_mark_0 : decode b_Cr_mark 0 = .ok (.iconst 0, 1) := by decide +kernel
theorem d_Cr_mark_1 : decode b_Cr_mark 1 = .ok (.aload_n 0, 1) := by decide +kernel
theorem d_Cr_mark_2 : decode b_Cr_mark 2 = .ok (.getfield 15, 3) := by decide +kernel
theorem d_Cr_mark_5 : decode b_Cr_mark 5 = .ok (.invokestatic 46, 3) := by decide +kernel
theorem d_Cr_mark_8 : decode b_Cr_mark 8 = .ok (.aload_n 0, 1) := by decide +kernel
theorem d_Cr_mark_9 : decode b_Cr_mark 9 = .ok (.getfield 19, 3) := by decide +kernel
theorem d_Cr_mark_12 : decode b_Cr_mark 12 = .ok (.invokestatic 46, 3) := by decide +kernel
theorem d_Cr_mark_15 : decode b_Cr_mark 15 = .ok (.istore_n 1, 1) := by decide +kernel
theorem d_Cr_mark_16 : decode b_Cr_mark 16 = .ok (.iconst 0, 1) := by decide +kernel
theorem d_Cr_mark_17 : decode b_Cr_mark 17 = .ok (.istore_n 2, 1) := by decide +kernel
theorem d_Cr_mark_18 : decode b_Cr_mark 18 = .ok (.iload_n 2, 1) := by decide +kernel
theorem d_Cr_mark_19 : decode b_Cr_mark 19 = .ok (.iconst 4, 1) := by decide +kernel
theorem d_Cr_mark_20 : decode b_Cr_mark 20 = .ok (.if_icmp .ge 20, 3) := by decide +kernel
theorem d_Cr_mark_23 : decode b_Cr_mark 23 = .ok (.iload_n 1, 1) := by decide +kernel
theorem d_Cr_mark_24 : decode b_Cr_mark 24 = .ok (.aload_n 0, 1) := by decide +kernel
theorem d_Cr_mark_25 : decode b_Cr_mark 25 = .ok (.getfield 11, 3) := by decide +kernel
theorem d_Cr_mark_28 : decode b_Cr_mark 28 = .ok (.iload_n 2, 1) := by decide +kernel
theorem d_Cr_mark_29 : decode b_Cr_mark 29 = .ok (.iaload, 1) := by decide +kernel
theorem d_Cr_mark_30 : decode b_Cr_mark 30 = .ok (.invokestatic 46, 3) := by decide +kernel
theorem d_Cr_mark_33 : decode b_Cr_mark 33 = .ok (.istore_n 1, 1) := by decide +kernel
theorem d_Cr_mark_34 : decode b_Cr_mark 34 = .ok (.iinc 2 1, 3) := by decide +kernel
theorem d_Cr_mark_37 : decode b_Cr_mark 37 = .ok (.goto (-19), 3) := by decide +kernel
theorem d_Cr_mark_40 : decode b_Cr_mark 40 = .ok (.iload_n 1, 1) := by decide +kernel
theorem d_Cr_mark_41 : decode b_Cr_mark 41 = .ok (.aload_n 0, 1) := by decide +kernel
theorem d_Cr_mark_42 : decode b_Cr_mark 42 = .ok (.getfield 22, 3) := by decide +kernel
theorem d_Cr_mark_45 : decode b_Cr_mark 45 = .ok (.invokestatic 46, 3) := by decide +kernel
theorem d_Cr_mark_48 : decode b_Cr_mark 48 = .ok (.aload_n 0, 1) := by decide +kernel
theorem d_Cr_mark_49 : decode b_Cr_mark 49 = .ok (.getfield 25, 3) := by decide +kernel
theorem d_Cr_mark_52 : decode b_Cr_mark 52 = .ok (.invokestatic 46, 3) := by decide +kernel
theorem d_Cr_mark_55 : decode b_Cr_mark 55 = .ok (.ireturn, 1) := by decide +kernel
theorem d_Cr_mix_0 : decode b_Cr_mix 0 = .ok (.iload_n 0, 1) := by decide +kernel
theorem d_Cr_mix_1 : decode b_Cr_mix 1 = .ok (.iload_n 1, 1) := by decide +kernel
theorem d_Cr_mix_2 : decode b_Cr_mix 2 = .ok (.ixor, 1) := by decide +kernel
theorem d_Cr_mix_3 : decode b_Cr_mix 3 = .ok (.ldc 49, 2) := by decide +kernel
theorem d_Cr_mix_5 : decode b_Cr_mix 5 = .ok (.imul, 1) := by decide +kernel
theorem d_Cr_mix_6 : decode b_Cr_mix 6 = .ok (.istore_n 2, 1) := by decide +kernel
theorem d_Cr_mix_7 : decode b_Cr_mix 7 = .ok (.iload_n 2, 1) := by decide +kernel
theorem d_Cr_mix_8 : decode b_Cr_mix 8 = .ok (.iload_n 2, 1) := by decide +kernel
theorem d_Cr_mix_9 : decode b_Cr_mix 9 = .ok (.bipush 15, 2) := by decide +kernel
theorem d_Cr_mix_11 : decode b_Cr_mix 11 = .ok (.iushr, 1) := by decide +kernel
theorem d_Cr_mix_12 : decode b_Cr_mix 12 = .ok (.ixor, 1) := by decide +kernel
theorem d_Cr_mix_13 : decode b_Cr_mix 13 = .ok (.ireturn, 1) := by decide +kernel
theorem d_Cs_init_0 : decode b_Cs_init 0 = .ok (.aload_n 0, 1) := by decide +kernel
theorem d_Cs_init_1 : decode b_Cs_init 1 = .ok (.invokespecial 1, 3) := by decide +kernel
theorem d_Cs_init_4 : decode b_Cs_init 4 = .ok (.aload_n 0, 1) := by decide +kernel
theorem d_Cs_init_5 : decode b_Cs_init 5 = .ok (.new 7, 3) := by decide +kernel
theorem d_Cs_init_8 : decode b_Cs_init 8 = .ok (.dup, 1) := by decide +kernel
theorem d_Cs_init_9 : decode b_Cs_init 9 = .ok (.invokespecial 9, 3) := by decide +kernel
theorem d_Cs_init_12 : decode b_Cs_init 12 = .ok (.putfield 10, 3) := by decide +kernel
theorem d_Cs_init_15 : decode b_Cs_init 15 = .ok (.return_, 1) := by decide +kernel
theorem d_Cs_count_0 : decode b_Cs_count 0 = .ok (.aload_n 0, 1) := by decide +kernel
theorem d_Cs_count_1 : decode b_Cs_count 1 = .ok (.getfield 10, 3) := by decide +kernel
theorem d_Cs_count_4 : decode b_Cs_count 4 = .ok (.invokevirtual 16, 3) := by decide +kernel
theorem d_Cs_count_7 : decode b_Cs_count 7 = .ok (.ireturn, 1) := by decide +kernel
theorem d_Cs_take_0 : decode b_Cs_take 0 = .ok (.aload_n 0, 1) := by decide +kernel
theorem d_Cs_take_1 : decode b_Cs_take 1 = .ok (.getfield 10, 3) := by decide +kernel
theorem d_Cs_take_4 : decode b_Cs_take 4 = .ok (.aload_n 1, 1) := by decide +kernel
theorem d_Cs_take_5 : decode b_Cs_take 5 = .ok (.invokevirtual 20, 3) := by decide +kernel
theorem d_Cs_take_8 : decode b_Cs_take 8 = .ok (.pop, 1) := by decide +kernel
theorem d_Cs_take_9 : decode b_Cs_take 9 = .ok (.aload_n 0, 1) := by decide +kernel
theorem d_Cs_take_10 : decode b_Cs_take 10 = .ok (.getfield 10, 3) := by decide +kernel
theorem d_Cs_take_13 : decode b_Cs_take 13 = .ok (.invokevirtual 16, 3) := by decide +kernel
theorem d_Cs_take_16 : decode b_Cs_take 16 = .ok (.ireturn, 1) := by decide +kernel
theorem d_Cs_letTimeGoOn_0 : decode b_Cs_letTimeGoOn 0 = .ok (.aload_n 0, 1) := by decide +kernel
theorem d_Cs_letTimeGoOn_1 : decode b_Cs_letTimeGoOn 1 = .ok (.dup, 1) := by decide +kernel
theorem d_Cs_letTimeGoOn_2 : decode b_Cs_letTimeGoOn 2 = .ok (.getfield 24, 3) := by decide +kernel
theorem d_Cs_letTimeGoOn_5 : decode b_Cs_letTimeGoOn 5 = .ok (.iload_n 1, 1) := by decide +kernel
theorem d_Cs_letTimeGoOn_6 : decode b_Cs_letTimeGoOn 6 = .ok (.iadd, 1) := by decide +kernel
theorem d_Cs_letTimeGoOn_7 : decode b_Cs_letTimeGoOn 7 = .ok (.putfield 24, 3) := by decide +kernel
theorem d_Cs_letTimeGoOn_10 : decode b_Cs_letTimeGoOn 10 = .ok (.aload_n 0, 1) := by decide +kernel
theorem d_Cs_letTimeGoOn_11 : decode b_Cs_letTimeGoOn 11 = .ok (.getfield 24, 3) := by decide +kernel
theorem d_Cs_letTimeGoOn_14 : decode b_Cs_letTimeGoOn 14 = .ok (.ireturn, 1) := by decide +kernel
theorem d_Cs_find_0 : decode b_Cs_find 0 = .ok (.iload_n 1, 1) := by decide +kernel
theorem d_Cs_find_1 : decode b_Cs_find 1 = .ok (.iconst 1, 1) := by decide +kernel
theorem d_Cs_find_2 : decode b_Cs_find 2 = .ok (.if_icmp .lt 30, 3) := by decide +kernel
theorem d_Cs_find_5 : decode b_Cs_find 5 = .ok (.iload_n 1, 1) := by decide +kernel
theorem d_Cs_find_6 : decode b_Cs_find 6 = .ok (.aload_n 0, 1) := by decide +kernel
theorem d_Cs_find_7 : decode b_Cs_find 7 = .ok (.getfield 10, 3) := by decide +kernel
theorem d_Cs_find_10 : decode b_Cs_find 10 = .ok (.invokevirtual 16, 3) := by decide +kernel
theorem d_Cs_find_13 : decode b_Cs_find 13 = .ok (.if_icmp .gt 19, 3) := by decide +kernel
theorem d_Cs_find_16 : decode b_Cs_find 16 = .ok (.aload_n 0, 1) := by decide +kernel
theorem d_Cs_find_17 : decode b_Cs_find 17 = .ok (.getfield 10, 3) := by decide +kernel
theorem d_Cs_find_20 : decode b_Cs_find 20 = .ok (.iload_n 1, 1) := by decide +kernel
theorem d_Cs_find_21 : decode b_Cs_find 21 = .ok (.iconst 1, 1) := by decide +kernel
theorem d_Cs_find_22 : decode b_Cs_find 22 = .ok (.isub, 1) := by decide +kernel
theorem d_Cs_find_23 : decode b_Cs_find 23 = .ok (.invokevirtual 28, 3) := by decide +kernel
theorem d_Cs_find_26 : decode b_Cs_find 26 = .ok (.checkcast 32, 3) := by decide +kernel
theorem d_Cs_find_29 : decode b_Cs_find 29 = .ok (.goto 4, 3) := by decide +kernel
theorem d_Cs_find_32 : decode b_Cs_find 32 = .ok (.aconst_null, 1) := by decide +kernel
theorem d_Cs_find_33 : decode b_Cs_find 33 = .ok (.areturn, 1) := by decide +kernel
theorem d_Cs_findValid_0 : decode b_Cs_findValid 0 = .ok (.aload_n 0, 1) := by decide +kernel
theorem d_Cs_findValid_1 : decode b_Cs_findValid 1 = .ok (.iload_n 1, 1) := by decide +kernel
theorem d_Cs_findValid_2 : decode b_Cs_findValid 2 = .ok (.invokevirtual 34, 3) := by decide +kernel
theorem d_Cs_findValid_5 : decode b_Cs_findValid 5 = .ok (.astore_n 2, 1) := by decide +kernel
theorem d_Cs_findValid_6 : decode b_Cs_findValid 6 = .ok (.aload_n 2, 1) := by decide +kernel
theorem d_Cs_findValid_7 : decode b_Cs_findValid 7 = .ok (.ifnull 18, 3) := by decide +kernel
theorem d_Cs_findValid_10 : decode b_Cs_findValid 10 = .ok (.aload_n 2, 1) := by decide +kernel
theorem d_Cs_findValid_11 : decode b_Cs_findValid 11 = .ok (.aload_n 0, 1) := by decide +kernel
theorem d_Cs_findValid_12 : decode b_Cs_findValid 12 = .ok (.getfield 24, 3) := by decide +kernel
theorem d_Cs_findValid_15 : decode b_Cs_findValid 15 = .ok (.invokevirtual 38, 3) := by decide +kernel
theorem d_Cs_findValid_18 : decode b_Cs_findValid 18 = .ok (.ifCond .eq 7, 3) := by decide +kernel
theorem d_Cs_findValid_21 : decode b_Cs_findValid 21 = .ok (.aload_n 2, 1) := by decide +kernel
theorem d_Cs_findValid_22 : decode b_Cs_findValid 22 = .ok (.goto 4, 3) := by decide +kernel
theorem d_Cs_findValid_25 : decode b_Cs_findValid 25 = .ok (.aconst_null, 1) := by decide +kernel
theorem d_Cs_findValid_26 : decode b_Cs_findValid 26 = .ok (.areturn, 1) := by decide +kernel
theorem d_Fa_init_0 : decode b_Fa_init 0 = .ok (.aload_n 0, 1) := by decide +kernel
theorem d_Fa_init_1 : decode b_Fa_init 1 = .ok (.invokespecial 3, 3) := by decide +kernel
theorem d_Fa_init_4 : decode b_Fa_init 4 = .ok (.return_, 1) := by decide +kernel
theorem d_Fa_becomeSaidBy_0 : decode b_Fa_becomeSaidBy 0 = .ok (.aload_n 0, 1) := by decide +kernel
theorem d_Fa_becomeSaidBy_1 : decode b_Fa_becomeSaidBy 1 = .ok (.aload_n 1, 1) := by decide +kernel
theorem d_Fa_becomeSaidBy_2 : decode b_Fa_becomeSaidBy 2 = .ok (.getfield 9, 3) := by decide +kernel
theorem d_Fa_becomeSaidBy_5 : decode b_Fa_becomeSaidBy 5 = .ok (.putfield 15, 3) := by decide +kernel
theorem d_Fa_becomeSaidBy_8 : decode b_Fa_becomeSaidBy 8 = .ok (.aload_n 0, 1) := by decide +kernel
theorem d_Fa_becomeSaidBy_9 : decode b_Fa_becomeSaidBy 9 = .ok (.aload_n 1, 1) := by decide +kernel
theorem d_Fa_becomeSaidBy_10 : decode b_Fa_becomeSaidBy 10 = .ok (.getfield 18, 3) := by decide +kernel
theorem d_Fa_becomeSaidBy_13 : decode b_Fa_becomeSaidBy 13 = .ok (.putfield 21, 3) := by decide +kernel
theorem d_Fa_becomeSaidBy_16 : decode b_Fa_becomeSaidBy 16 = .ok (.aload_n 0, 1) := by decide +kernel
theorem d_Fa_becomeSaidBy_17 : decode b_Fa_becomeSaidBy 17 = .ok (.aload_n 1, 1) := by decide +kernel
theorem d_Fa_becomeSaidBy_18 : decode b_Fa_becomeSaidBy 18 = .ok (.getfield 24, 3) := by decide +kernel
theorem d_Fa_becomeSaidBy_21 : decode b_Fa_becomeSaidBy 21 = .ok (.iconst 0, 1) := by decide +kernel
theorem d_Fa_becomeSaidBy_22 : decode b_Fa_becomeSaidBy 22 = .ok (.iaload, 1) := by decide +kernel
theorem d_Fa_becomeSaidBy_23 : decode b_Fa_becomeSaidBy 23 = .ok (.putfield 28, 3) := by decide +kernel
theorem d_Fa_becomeSaidBy_26 : decode b_Fa_becomeSaidBy 26 = .ok (.aload_n 0, 1) := by decide +kernel
theorem d_Fa_becomeSaidBy_27 : decode b_Fa_becomeSaidBy 27 = .ok (.aload_n 1, 1) := by decide +kernel
theorem d_Fa_becomeSaidBy_28 : decode b_Fa_becomeSaidBy 28 = .ok (.getfield 24, 3) := by decide +kernel
theorem d_Fa_becomeSaidBy_31 : decode b_Fa_becomeSaidBy 31 = .ok (.iconst 1, 1) := by decide +kernel
theorem d_Fa_becomeSaidBy_32 : decode b_Fa_becomeSaidBy 32 = .ok (.iaload, 1) := by decide +kernel
theorem d_Fa_becomeSaidBy_33 : decode b_Fa_becomeSaidBy 33 = .ok (.putfield 31, 3) := by decide +kernel
theorem d_Fa_becomeSaidBy_36 : decode b_Fa_becomeSaidBy 36 = .ok (.aload_n 0, 1) := by decide +kernel
theorem d_Fa_becomeSaidBy_37 : decode b_Fa_becomeSaidBy 37 = .ok (.aload_n 1, 1) := by decide +kernel
theorem d_Fa_becomeSaidBy_38 : decode b_Fa_becomeSaidBy 38 = .ok (.getfield 24, 3) := by decide +kernel
theorem d_Fa_becomeSaidBy_41 : decode b_Fa_becomeSaidBy 41 = .ok (.iconst 2, 1) := by decide +kernel
theorem d_Fa_becomeSaidBy_42 : decode b_Fa_becomeSaidBy 42 = .ok (.iaload, 1) := by decide +kernel
theorem d_Fa_becomeSaidBy_43 : decode b_Fa_becomeSaidBy 43 = .ok (.putfield 34, 3) := by decide +kernel
theorem d_Fa_becomeSaidBy_46 : decode b_Fa_becomeSaidBy 46 = .ok (.aload_n 0, 1) := by decide +kernel
theorem d_Fa_becomeSaidBy_47 : decode b_Fa_becomeSaidBy 47 = .ok (.aload_n 1, 1) := by decide +kernel
theorem d_Fa_becomeSaidBy_48 : decode b_Fa_becomeSaidBy 48 = .ok (.getfield 24, 3) := by decide +kernel
theorem d_Fa_becomeSaidBy_51 : decode b_Fa_becomeSaidBy 51 = .ok (.iconst 3, 1) := by decide +kernel
theorem d_Fa_becomeSaidBy_52 : decode b_Fa_becomeSaidBy 52 = .ok (.iaload, 1) := by decide +kernel
theorem d_Fa_becomeSaidBy_53 : decode b_Fa_becomeSaidBy 53 = .ok (.putfield 37, 3) := by decide +kernel
theorem d_Fa_becomeSaidBy_56 : decode b_Fa_becomeSaidBy 56 = .ok (.return_, 1) := by decide +kernel
theorem d_Fa_become_0 : decode b_Fa_become 0 = .ok (.aload_n 0, 1) := by decide +kernel
theorem d_Fa_become_1 : decode b_Fa_become 1 = .ok (.aload_n 1, 1) := by decide +kernel
theorem d_Fa_become_2 : decode b_Fa_become 2 = .ok (.getfield 15, 3) := by decide +kernel
theorem d_Fa_become_5 : decode b_Fa_become 5 = .ok (.putfield 15, 3) := by decide +kernel
theorem d_Fa_become_8 : decode b_Fa_become 8 = .ok (.aload_n 0, 1) := by decide +kernel
theorem d_Fa_become_9 : decode b_Fa_become 9 = .ok (.aload_n 1, 1) := by decide +kernel
theorem d_Fa_become_10 : decode b_Fa_become 10 = .ok (.getfield 21, 3) := by decide +kernel
theorem d_Fa_become_13 : decode b_Fa_become 13 = .ok (.putfield 21, 3) := by decide +kernel
theorem d_Fa_become_16 : decode b_Fa_become 16 = .ok (.aload_n 0, 1) := by decide +kernel
theorem d_Fa_become_17 : decode b_Fa_become 17 = .ok (.aload_n 1, 1) := by decide +kernel
theorem d_Fa_become_18 : decode b_Fa_become 18 = .ok (.getfield 28, 3) := by decide +kernel
theorem d_Fa_become_21 : decode b_Fa_become 21 = .ok (.putfield 28, 3) := by decide +kernel
theorem d_Fa_become_24 : decode b_Fa_become 24 = .ok (.aload_n 0, 1) := by decide +kernel
theorem d_Fa_become_25 : decode b_Fa_become 25 = .ok (.aload_n 1, 1) := by decide +kernel
theorem d_Fa_become_26 : decode b_Fa_become 26 = .ok (.getfield 31, 3) := by decide +kernel
theorem d_Fa_become_29 : decode b_Fa_become 29 = .ok (.putfield 31, 3) := by decide +kernel
theorem d_Fa_become_32 : decode b_Fa_become 32 = .ok (.aload_n 0, 1) := by decide +kernel
theorem d_Fa_become_33 : decode b_Fa_become 33 = .ok (.aload_n 1, 1) := by decide +kernel
theorem d_Fa_become_34 : decode b_Fa_become 34 = .ok (.getfield 34, 3) := by decide +kernel
theorem d_Fa_become_37 : decode b_Fa_become 37 = .ok (.putfield 34, 3) := by decide +kernel
theorem d_Fa_become_40 : decode b_Fa_become 40 = .ok (.aload_n 0, 1) := by decide +kernel
theorem d_Fa_become_41 : decode b_Fa_become 41 = .ok (.aload_n 1, 1) := by decide +kernel
theorem d_Fa_become_42 : decode b_Fa_become 42 = .ok (.getfield 37, 3) := by decide +kernel
theorem d_Fa_become_45 : decode b_Fa_become 45 = .ok (.putfield 37, 3) := by decide +kernel
theorem d_Fa_become_48 : decode b_Fa_become 48 = .ok (.return_, 1) := by decide +kernel
theorem d_Fa_isMay_0 : decode b_Fa_isMay 0 = .ok (.aload_n 0, 1) := by decide +kernel
theorem d_Fa_isMay_1 : decode b_Fa_isMay 1 = .ok (.getfield 15, 3) := by decide +kernel
theorem d_Fa_isMay_4 : decode b_Fa_isMay 4 = .ok (.ifCond .ne 40, 3) := by decide +kernel
theorem d_Fa_isMay_7 : decode b_Fa_isMay 7 = .ok (.aload_n 0, 1) := by decide +kernel
theorem d_Fa_isMay_8 : decode b_Fa_isMay 8 = .ok (.getfield 21, 3) := by decide +kernel
theorem d_Fa_isMay_11 : decode b_Fa_isMay 11 = .ok (.iload_n 1, 1) := by decide +kernel
theorem d_Fa_isMay_12 : decode b_Fa_isMay 12 = .ok (.if_icmp .ne 32, 3) := by decide +kernel
theorem d_Fa_isMay_15 : decode b_Fa_isMay 15 = .ok (.aload_n 0, 1) := by decide +kernel
theorem d_Fa_isMay_16 : decode b_Fa_isMay 16 = .ok (.getfield 28, 3) := by decide +kernel
theorem d_Fa_isMay_19 : decode b_Fa_isMay 19 = .ok (.iload_n 2, 1) := by decide +kernel
theorem d_Fa_isMay_20 : decode b_Fa_isMay 20 = .ok (.if_icmp .ne 24, 3) := by decide +kernel
theorem d_Fa_isMay_23 : decode b_Fa_isMay 23 = .ok (.aload_n 0, 1) := by decide +kernel
theorem d_Fa_isMay_24 : decode b_Fa_isMay 24 = .ok (.getfield 31, 3) := by decide +kernel
theorem d_Fa_isMay_27 : decode b_Fa_isMay 27 = .ok (.iload_n 3, 1) := by decide +kernel
theorem d_Fa_isMay_28 : decode b_Fa_isMay 28 = .ok (.if_icmp .ne 16, 3) := by decide +kernel
theorem d_Fa_isMay_31 : decode b_Fa_isMay 31 = .ok (.aload_n 0, 1) := by decide +kernel
theorem d_Fa_isMay_32 : decode b_Fa_isMay 32 = .ok (.getfield 34, 3) := by decide +kernel
theorem d_Fa_isMay_35 : decode b_Fa_isMay 35 = .ok (.iload 4, 2) := by decide +kernel
theorem d_Fa_isMay_37 : decode b_Fa_isMay 37 = .ok (.if_icmp .ne 7, 3) := by decide +kernel
theorem d_Fa_isMay_40 : decode b_Fa_isMay 40 = .ok (.iconst 1, 1) := by decide +kernel
theorem d_Fa_isMay_41 : decode b_Fa_isMay 41 = .ok (.goto 4, 3) := by decide +kernel
theorem d_Fa_isMay_44 : decode b_Fa_isMay 44 = .ok (.iconst 0, 1) := by decide +kernel
theorem d_Fa_isMay_45 : decode b_Fa_isMay 45 = .ok (.ireturn, 1) := by decide +kernel
theorem d_Fa_isOfSameThing_0 : decode b_Fa_isOfSameThing 0 = .ok (.aload_n 0, 1) := by decide +kernel
theorem d_Fa_isOfSameThing_1 : decode b_Fa_isOfSameThing 1 = .ok (.getfield 31, 3) := by decide +kernel
theorem d_Fa_isOfSameThing_4 : decode b_Fa_isOfSameThing 4 = .ok (.aload_n 1, 1) := by decide +kernel
theorem d_Fa_isOfSameThing_5 : decode b_Fa_isOfSameThing 5 = .ok (.getfield 31, 3) := by decide +kernel
theorem d_Fa_isOfSameThing_8 : decode b_Fa_isOfSameThing 8 = .ok (.if_icmp .ne 18, 3) := by decide +kernel
theorem d_Fa_isOfSameThing_11 : decode b_Fa_isOfSameThing 11 = .ok (.aload_n 0, 1) := by decide +kernel
theorem d_Fa_isOfSameThing_12 : decode b_Fa_isOfSameThing 12 = .ok (.getfield 34, 3) := by decide +kernel
theorem d_Fa_isOfSameThing_15 : decode b_Fa_isOfSameThing 15 = .ok (.aload_n 1, 1) := by decide +kernel
theorem d_Fa_isOfSameThing_16 : decode b_Fa_isOfSameThing 16 = .ok (.getfield 34, 3) := by decide +kernel
theorem d_Fa_isOfSameThing_19 : decode b_Fa_isOfSameThing 19 = .ok (.if_icmp .ne 7, 3) := by decide +kernel
theorem d_Fa_isOfSameThing_22 : decode b_Fa_isOfSameThing 22 = .ok (.iconst 1, 1) := by decide +kernel
theorem d_Fa_isOfSameThing_23 : decode b_Fa_isOfSameThing 23 = .ok (.goto 4, 3) := by decide +kernel
theorem d_Fa_isOfSameThing_26 : decode b_Fa_isOfSameThing 26 = .ok (.iconst 0, 1) := by decide +kernel
theorem d_Fa_isOfSameThing_27 : decode b_Fa_isOfSameThing 27 = .ok (.ireturn, 1) := by decide +kernel
theorem d_Fu_init_0 : decode b_Fu_init 0 = .ok (.aload_n 0, 1) := by decide +kernel
theorem d_Fu_init_1 : decode b_Fu_init 1 = .ok (.invokespecial 1, 3) := by decide +kernel
theorem d_Fu_init_4 : decode b_Fu_init 4 = .ok (.aload_n 0, 1) := by decide +kernel
theorem d_Fu_init_5 : decode b_Fu_init 5 = .ok (.iconst (-1), 1) := by decide +kernel
theorem d_Fu_init_6 : decode b_Fu_init 6 = .ok (.putfield 9, 3) := by decide +kernel
theorem d_Fu_init_9 : decode b_Fu_init 9 = .ok (.return_, 1) := by decide +kernel
theorem d_Fu_light_0 : decode b_Fu_light 0 = .ok (.aload_n 0, 1) := by decide +kernel
theorem d_Fu_light_1 : decode b_Fu_light 1 = .ok (.iload_n 1, 1) := by decide +kernel
theorem d_Fu_light_2 : decode b_Fu_light 2 = .ok (.putfield 9, 3) := by decide +kernel
theorem d_Fu_light_5 : decode b_Fu_light 5 = .ok (.return_, 1) := by decide +kernel
theorem d_Fu_burnsThrough_0 : decode b_Fu_burnsThrough 0 = .ok (.aload_n 0, 1) := by decide +kernel
theorem d_Fu_burnsThrough_1 : decode b_Fu_burnsThrough 1 = .ok (.getfield 9, 3) := by decide +kernel
theorem d_Fu_burnsThrough_4 : decode b_Fu_burnsThrough 4 = .ok (.iconst (-1), 1) := by decide +kernel
theorem d_Fu_burnsThrough_5 : decode b_Fu_burnsThrough 5 = .ok (.if_icmp .ne 5, 3) := by decide +kernel
theorem d_Fu_burnsThrough_8 : decode b_Fu_burnsThrough 8 = .ok (.iconst 0, 1) := by decide +kernel
theorem d_Fu_burnsThrough_9 : decode b_Fu_burnsThrough 9 = .ok (.ireturn, 1) := by decide +kernel
theorem d_Fu_burnsThrough_10 : decode b_Fu_burnsThrough 10 = .ok (.aload_n 0, 1) := by decide +kernel
theorem d_Fu_burnsThrough_11 : decode b_Fu_burnsThrough 11 = .ok (.dup, 1) := by decide +kernel
theorem d_Fu_burnsThrough_12 : decode b_Fu_burnsThrough 12 = .ok (.getfield 9, 3) := by decide +kernel
theorem d_Fu_burnsThrough_15 : decode b_Fu_burnsThrough 15 = .ok (.iconst 1, 1) := by decide +kernel
theorem d_Fu_burnsThrough_16 : decode b_Fu_burnsThrough 16 = .ok (.isub, 1) := by decide +kernel
theorem d_Fu_burnsThrough_17 : decode b_Fu_burnsThrough 17 = .ok (.putfield 9, 3) := by decide +kernel
theorem d_Fu_burnsThrough_20 : decode b_Fu_burnsThrough 20 = .ok (.aload_n 0, 1) := by decide +kernel
theorem d_Fu_burnsThrough_21 : decode b_Fu_burnsThrough 21 = .ok (.getfield 9, 3) := by decide +kernel
theorem d_Fu_burnsThrough_24 : decode b_Fu_burnsThrough 24 = .ok (.iconst (-1), 1) := by decide +kernel
theorem d_Fu_burnsThrough_25 : decode b_Fu_burnsThrough 25 = .ok (.if_icmp .ne 7, 3) := by decide +kernel
theorem d_Fu_burnsThrough_28 : decode b_Fu_burnsThrough 28 = .ok (.iconst 1, 1) := by decide +kernel
theorem d_Fu_burnsThrough_29 : decode b_Fu_burnsThrough 29 = .ok (.goto 4, 3) := by decide +kernel
theorem d_Fu_burnsThrough_32 : decode b_Fu_burnsThrough 32 = .ok (.iconst 0, 1) := by decide +kernel
theorem d_Fu_burnsThrough_33 : decode b_Fu_burnsThrough 33 = .ok (.ireturn, 1) := by decide +kernel
theorem d_Pf_init_0 : decode b_Pf_init 0 = .ok (.aload_n 0, 1) := by decide +kernel
theorem d_Pf_init_1 : decode b_Pf_init 1 = .ok (.invokespecial 3, 3) := by decide +kernel
theorem d_Pf_init_4 : decode b_Pf_init 4 = .ok (.aload_n 0, 1) := by decide +kernel
theorem d_Pf_init_5 : decode b_Pf_init 5 = .ok (.bipush 40, 2) := by decide +kernel
theorem d_Pf_init_7 : decode b_Pf_init 7 = .ok (.newarray .int, 2) := by decide +kernel
theorem d_Pf_init_9 : decode b_Pf_init 9 = .ok (.putfield 9, 3) := by decide +kernel
theorem d_Pf_init_12 : decode b_Pf_init 12 = .ok (.aload_n 0, 1) := by decide +kernel
theorem d_Pf_init_13 : decode b_Pf_init 13 = .ok (.bipush 40, 2) := by decide +kernel
theorem d_Pf_init_15 : decode b_Pf_init 15 = .ok (.newarray .int, 2) := by decide +kernel
theorem d_Pf_init_17 : decode b_Pf_init 17 = .ok (.putfield 15, 3) := by decide +kernel
theorem d_Pf_init_20 : decode b_Pf_init 20 = .ok (.aload_n 0, 1) := by decide +kernel
theorem d_Pf_init_21 : decode b_Pf_init 21 = .ok (.bipush 40, 2) := by decide +kernel
theorem d_Pf_init_23 : decode b_Pf_init 23 = .ok (.newarray .int, 2) := by decide +kernel
theorem d_Pf_init_25 : decode b_Pf_init 25 = .ok (.putfield 18, 3) := by decide +kernel
theorem d_Pf_init_28 : decode b_Pf_init 28 = .ok (.return_, 1) := by decide +kernel
theorem d_Pf_length_0 : decode b_Pf_length 0 = .ok (.aload_n 0, 1) := by decide +kernel
theorem d_Pf_length_1 : decode b_Pf_length 1 = .ok (.getfield 21, 3) := by decide +kernel
theorem d_Pf_length_4 : decode b_Pf_length 4 = .ok (.ireturn, 1) := by decide +kernel
theorem d_Pf_hasStep_0 : decode b_Pf_hasStep 0 = .ok (.iload_n 1, 1) := by decide +kernel
theorem d_Pf_hasStep_1 : decode b_Pf_hasStep 1 = .ok (.ifCond .lt 15, 3) := by decide +kernel
theorem d_Pf_hasStep_4 : decode b_Pf_hasStep 4 = .ok (.iload_n 1, 1) := by decide +kernel
theorem d_Pf_hasStep_5 : decode b_Pf_hasStep 5 = .ok (.aload_n 0, 1) := by decide +kernel
theorem d_Pf_hasStep_6 : decode b_Pf_hasStep 6 = .ok (.getfield 21, 3) := by decide +kernel
theorem d_Pf_hasStep_9 : decode b_Pf_hasStep 9 = .ok (.if_icmp .ge 7, 3) := by decide +kernel
theorem d_Pf_hasStep_12 : decode b_Pf_hasStep 12 = .ok (.iconst 1, 1) := by decide +kernel
theorem d_Pf_hasStep_13 : decode b_Pf_hasStep 13 = .ok (.goto 4, 3) := by decide +kernel
theorem d_Pf_hasStep_16 : decode b_Pf_hasStep 16 = .ok (.iconst 0, 1) := by decide +kernel
theorem d_Pf_hasStep_17 : decode b_Pf_hasStep 17 = .ok (.ireturn, 1) := by decide +kernel
theorem d_Pf_ruleAt_0 : decode b_Pf_ruleAt 0 = .ok (.aload_n 0, 1) := by decide +kernel
theorem d_Pf_ruleAt_1 : decode b_Pf_ruleAt 1 = .ok (.getfield 9, 3) := by decide +kernel
theorem d_Pf_ruleAt_4 : decode b_Pf_ruleAt 4 = .ok (.iload_n 1, 1) := by decide +kernel
theorem d_Pf_ruleAt_5 : decode b_Pf_ruleAt 5 = .ok (.iaload, 1) := by decide +kernel
theorem d_Pf_ruleAt_6 : decode b_Pf_ruleAt 6 = .ok (.ireturn, 1) := by decide +kernel
theorem d_Pf_xAt_0 : decode b_Pf_xAt 0 = .ok (.aload_n 0, 1) := by decide +kernel
theorem d_Pf_xAt_1 : decode b_Pf_xAt 1 = .ok (.getfield 15, 3) := by decide +kernel
theorem d_Pf_xAt_4 : decode b_Pf_xAt 4 = .ok (.iload_n 1, 1) := by decide +kernel
theorem d_Pf_xAt_5 : decode b_Pf_xAt 5 = .ok (.iaload, 1) := by decide +kernel
theorem d_Pf_xAt_6 : decode b_Pf_xAt 6 = .ok (.ireturn, 1) := by decide +kernel
theorem d_Pf_yAt_0 : decode b_Pf_yAt 0 = .ok (.aload_n 0, 1) := by decide +kernel
theorem d_Pf_yAt_1 : decode b_Pf_yAt 1 = .ok (.getfield 18, 3) := by decide +kernel
theorem d_Pf_yAt_4 : decode b_Pf_yAt 4 = .ok (.iload_n 1, 1) := by decide +kernel
theorem d_Pf_yAt_5 : decode b_Pf_yAt 5 = .ok (.iaload, 1) := by decide +kernel
theorem d_Pf_yAt_6 : decode b_Pf_yAt 6 = .ok (.ireturn, 1) := by decide +kernel
theorem d_Pf_append_0 : decode b_Pf_append 0 = .ok (.aload_n 0, 1) := by decide +kernel
theorem d_Pf_append_1 : decode b_Pf_append 1 = .ok (.getfield 21, 3) := by decide +kernel
theorem d_Pf_append_4 : decode b_Pf_append 4 = .ok (.bipush 40, 2) := by decide +kernel
theorem d_Pf_append_6 : decode b_Pf_append 6 = .ok (.if_icmp .lt 5, 3) := by decide +kernel
theorem d_Pf_append_9 : decode b_Pf_append 9 = .ok (.iconst (-1), 1) := by decide +kernel
theorem d_Pf_append_10 : decode b_Pf_append 10 = .ok (.ireturn, 1) := by decide +kernel
theorem d_Pf_append_11 : decode b_Pf_append 11 = .ok (.aload_n 0, 1) := by decide +kernel
theorem d_Pf_append_12 : decode b_Pf_append 12 = .ok (.getfield 9, 3) := by decide +kernel
theorem d_Pf_append_15 : decode b_Pf_append 15 = .ok (.aload_n 0, 1) := by decide +kernel
theorem d_Pf_append_16 : decode b_Pf_append 16 = .ok (.getfield 21, 3) := by decide +kernel
theorem d_Pf_append_19 : decode b_Pf_append 19 = .ok (.iload_n 1, 1) := by decide +kernel
theorem d_Pf_append_20 : decode b_Pf_append 20 = .ok (.iastore, 1) := by decide +kernel
theorem d_Pf_append_21 : decode b_Pf_append 21 = .ok (.aload_n 0, 1) := by decide +kernel
theorem d_Pf_append_22 : decode b_Pf_append 22 = .ok (.getfield 15, 3) := by decide +kernel
theorem d_Pf_append_25 : decode b_Pf_append 25 = .ok (.aload_n 0, 1) := by decide +kernel
theorem d_Pf_append_26 : decode b_Pf_append 26 = .ok (.getfield 21, 3) := by decide +kernel
theorem d_Pf_append_29 : decode b_Pf_append 29 = .ok (.iload_n 2, 1) := by decide +kernel
theorem d_Pf_append_30 : decode b_Pf_append 30 = .ok (.iastore, 1) := by decide +kernel
theorem d_Pf_append_31 : decode b_Pf_append 31 = .ok (.aload_n 0, 1) := by decide +kernel
theorem d_Pf_append_32 : decode b_Pf_append 32 = .ok (.getfield 18, 3) := by decide +kernel
theorem d_Pf_append_35 : decode b_Pf_append 35 = .ok (.aload_n 0, 1) := by decide +kernel
theorem d_Pf_append_36 : decode b_Pf_append 36 = .ok (.getfield 21, 3) := by decide +kernel
theorem d_Pf_append_39 : decode b_Pf_append 39 = .ok (.iload_n 3, 1) := by decide +kernel
theorem d_Pf_append_40 : decode b_Pf_append 40 = .ok (.iastore, 1) := by decide +kernel
theorem d_Pf_append_41 : decode b_Pf_append 41 = .ok (.aload_n 0, 1) := by decide +kernel
theorem d_Pf_append_42 : decode b_Pf_append 42 = .ok (.dup, 1) := by decide +kernel
theorem d_Pf_append_43 : decode b_Pf_append 43 = .ok (.getfield 21, 3) := by decide +kernel
theorem d_Pf_append_46 : decode b_Pf_append 46 = .ok (.iconst 1, 1) := by decide +kernel
theorem d_Pf_append_47 : decode b_Pf_append 47 = .ok (.iadd, 1) := by decide +kernel
theorem d_Pf_append_48 : decode b_Pf_append 48 = .ok (.putfield 21, 3) := by decide +kernel
theorem d_Pf_append_51 : decode b_Pf_append 51 = .ok (.aload_n 0, 1) := by decide +kernel
theorem d_Pf_append_52 : decode b_Pf_append 52 = .ok (.getfield 21, 3) := by decide +kernel
theorem d_Pf_append_55 : decode b_Pf_append 55 = .ok (.iconst 1, 1) := by decide +kernel
theorem d_Pf_append_56 : decode b_Pf_append 56 = .ok (.isub, 1) := by decide +kernel
theorem d_Pf_append_57 : decode b_Pf_append 57 = .ok (.ireturn, 1) := by decide +kernel
theorem d_Pf_makeEmpty_0 : decode b_Pf_makeEmpty 0 = .ok (.aload_n 0, 1) := by decide +kernel
theorem d_Pf_makeEmpty_1 : decode b_Pf_makeEmpty 1 = .ok (.getfield 21, 3) := by decide +kernel
theorem d_Pf_makeEmpty_4 : decode b_Pf_makeEmpty 4 = .ok (.istore_n 1, 1) := by decide +kernel
theorem d_Pf_makeEmpty_5 : decode b_Pf_makeEmpty 5 = .ok (.aload_n 0, 1) := by decide +kernel
theorem d_Pf_makeEmpty_6 : decode b_Pf_makeEmpty 6 = .ok (.iconst 0, 1) := by decide +kernel
theorem d_Pf_makeEmpty_7 : decode b_Pf_makeEmpty 7 = .ok (.putfield 21, 3) := by decide +kernel
theorem d_Pf_makeEmpty_10 : decode b_Pf_makeEmpty 10 = .ok (.iload_n 1, 1) := by decide +kernel
theorem d_Pf_makeEmpty_11 : decode b_Pf_makeEmpty 11 = .ok (.ireturn, 1) := by decide +kernel
theorem d_Pf_become_0 : decode b_Pf_become 0 = .ok (.aload_n 1, 1) := by decide +kernel
theorem d_Pf_become_1 : decode b_Pf_become 1 = .ok (.getfield 9, 3) := by decide +kernel
theorem d_Pf_become_4 : decode b_Pf_become 4 = .ok (.iconst 0, 1) := by decide +kernel
theorem d_Pf_become_5 : decode b_Pf_become 5 = .ok (.aload_n 0, 1) := by decide +kernel
theorem d_Pf_become_6 : decode b_Pf_become 6 = .ok (.getfield 9, 3) := by decide +kernel
theorem d_Pf_become_9 : decode b_Pf_become 9 = .ok (.iconst 0, 1) := by decide +kernel
theorem d_Pf_become_10 : decode b_Pf_become 10 = .ok (.aload_n 1, 1) := by decide +kernel
theorem d_Pf_become_11 : decode b_Pf_become 11 = .ok (.getfield 21, 3) := by decide +kernel
theorem d_Pf_become_14 : decode b_Pf_become 14 = .ok (.invokestatic 25, 3) := by decide +kernel
theorem d_Pf_become_17 : decode b_Pf_become 17 = .ok (.aload_n 1, 1) := by decide +kernel
theorem d_Pf_become_18 : decode b_Pf_become 18 = .ok (.getfield 15, 3) := by decide +kernel
theorem d_Pf_become_21 : decode b_Pf_become 21 = .ok (.iconst 0, 1) := by decide +kernel
theorem d_Pf_become_22 : decode b_Pf_become 22 = .ok (.aload_n 0, 1) := by decide +kernel
theorem d_Pf_become_23 : decode b_Pf_become 23 = .ok (.getfield 15, 3) := by decide +kernel
theorem d_Pf_become_26 : decode b_Pf_become 26 = .ok (.iconst 0, 1) := by decide +kernel
theorem d_Pf_become_27 : decode b_Pf_become 27 = .ok (.aload_n 1, 1) := by decide +kernel
theorem d_Pf_become_28 : decode b_Pf_become 28 = .ok (.getfield 21, 3) := by decide +kernel
theorem d_Pf_become_31 : decode b_Pf_become 31 = .ok (.invokestatic 25, 3) := by decide +kernel
theorem d_Pf_become_34 : decode b_Pf_become 34 = .ok (.aload_n 1, 1) := by decide +kernel
theorem d_Pf_become_35 : decode b_Pf_become 35 = .ok (.getfield 18, 3) := by decide +kernel
theorem d_Pf_become_38 : decode b_Pf_become 38 = .ok (.iconst 0, 1) := by decide +kernel
theorem d_Pf_become_39 : decode b_Pf_become 39 = .ok (.aload_n 0, 1) := by decide +kernel
theorem d_Pf_become_40 : decode b_Pf_become 40 = .ok (.getfield 18, 3) := by decide +kernel
theorem d_Pf_become_43 : decode b_Pf_become 43 = .ok (.iconst 0, 1) := by decide +kernel
theorem d_Pf_become_44 : decode b_Pf_become 44 = .ok (.aload_n 1, 1) := by decide +kernel
theorem d_Pf_become_45 : decode b_Pf_become 45 = .ok (.getfield 21, 3) := by decide +kernel
theorem d_Pf_become_48 : decode b_Pf_become 48 = .ok (.invokestatic 25, 3) := by decide +kernel
theorem d_Pf_become_51 : decode b_Pf_become 51 = .ok (.aload_n 0, 1) := by decide +kernel
theorem d_Pf_become_52 : decode b_Pf_become 52 = .ok (.aload_n 1, 1) := by decide +kernel
theorem d_Pf_become_53 : decode b_Pf_become 53 = .ok (.getfield 21, 3) := by decide +kernel
theorem d_Pf_become_56 : decode b_Pf_become 56 = .ok (.putfield 21, 3) := by decide +kernel
theorem d_Pf_become_59 : decode b_Pf_become 59 = .ok (.return_, 1) := by decide +kernel
