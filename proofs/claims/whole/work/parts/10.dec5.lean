theorem d_Mo_newVoice_0 : decode b_Mo_newVoice 0 = .ok (.iload_n 1, 1) := by decide +kernel
theorem d_Mo_newVoice_1 : decode b_Mo_newVoice 1 = .ok (.iload_n 2, 1) := by decide +kernel
theorem d_Mo_newVoice_2 : decode b_Mo_newVoice 2 = .ok (.invokestatic 157, 3) := by decide +kernel
theorem d_Mo_newVoice_5 : decode b_Mo_newVoice 5 = .ok (.istore_n 3, 1) := by decide +kernel
theorem d_Mo_newVoice_6 : decode b_Mo_newVoice 6 = .ok (.aload_n 0, 1) := by decide +kernel
theorem d_Mo_newVoice_7 : decode b_Mo_newVoice 7 = .ok (.getfield 71, 3) := by decide +kernel
theorem d_Mo_newVoice_10 : decode b_Mo_newVoice 10 = .ok (.iload_n 3, 1) := by decide +kernel
theorem d_Mo_newVoice_11 : decode b_Mo_newVoice 11 = .ok (.iaload, 1) := by decide +kernel
theorem d_Mo_newVoice_12 : decode b_Mo_newVoice 12 = .ok (.ifCond .le 5, 3) := by decide +kernel
theorem d_Mo_newVoice_15 : decode b_Mo_newVoice 15 = .ok (.iconst 0, 1) := by decide +kernel
theorem d_Mo_newVoice_16 : decode b_Mo_newVoice 16 = .ok (.ireturn, 1) := by decide +kernel
theorem d_Mo_newVoice_17 : decode b_Mo_newVoice 17 = .ok (.iconst 0, 1) := by decide +kernel
theorem d_Mo_newVoice_18 : decode b_Mo_newVoice 18 = .ok (.istore 4, 2) := by decide +kernel
theorem d_Mo_newVoice_20 : decode b_Mo_newVoice 20 = .ok (.iload 4, 2) := by decide +kernel
theorem d_Mo_newVoice_22 : decode b_Mo_newVoice 22 = .ok (.bipush 6, 2) := by decide +kernel
theorem d_Mo_newVoice_24 : decode b_Mo_newVoice 24 = .ok (.if_icmp .ge 55, 3) := by decide +kernel
theorem d_Mo_newVoice_27 : decode b_Mo_newVoice 27 = .ok (.aload_n 0, 1) := by decide +kernel
theorem d_Mo_newVoice_28 : decode b_Mo_newVoice 28 = .ok (.iload_n 1, 1) := by decide +kernel
theorem d_Mo_newVoice_29 : decode b_Mo_newVoice 29 = .ok (.iload 4, 2) := by decide +kernel
theorem d_Mo_newVoice_31 : decode b_Mo_newVoice 31 = .ok (.invokestatic 157, 3) := by decide +kernel
theorem d_Mo_newVoice_34 : decode b_Mo_newVoice 34 = .ok (.invokevirtual 168, 3) := by decide +kernel
theorem d_Mo_newVoice_37 : decode b_Mo_newVoice 37 = .ok (.ifCond .eq 36, 3) := by decide +kernel
theorem d_Mo_newVoice_40 : decode b_Mo_newVoice 40 = .ok (.aload_n 0, 1) := by decide +kernel
theorem d_Mo_newVoice_41 : decode b_Mo_newVoice 41 = .ok (.iload 4, 2) := by decide +kernel
theorem d_Mo_newVoice_43 : decode b_Mo_newVoice 43 = .ok (.iload_n 2, 1) := by decide +kernel
theorem d_Mo_newVoice_44 : decode b_Mo_newVoice 44 = .ok (.invokestatic 157, 3) := by decide +kernel
theorem d_Mo_newVoice_47 : decode b_Mo_newVoice 47 = .ok (.invokevirtual 168, 3) := by decide +kernel
theorem d_Mo_newVoice_50 : decode b_Mo_newVoice 50 = .ok (.ifCond .eq 23, 3) := by decide +kernel
theorem d_Mo_newVoice_53 : decode b_Mo_newVoice 53 = .ok (.aload_n 0, 1) := by decide +kernel
theorem d_Mo_newVoice_54 : decode b_Mo_newVoice 54 = .ok (.iload_n 3, 1) := by decide +kernel
theorem d_Mo_newVoice_55 : decode b_Mo_newVoice 55 = .ok (.bipush 6, 2) := by decide +kernel
theorem d_Mo_newVoice_57 : decode b_Mo_newVoice 57 = .ok (.iload_n 1, 1) := by decide +kernel
theorem d_Mo_newVoice_58 : decode b_Mo_newVoice 58 = .ok (.iload 4, 2) := by decide +kernel
theorem d_Mo_newVoice_60 : decode b_Mo_newVoice 60 = .ok (.invokestatic 157, 3) := by decide +kernel
theorem d_Mo_newVoice_63 : decode b_Mo_newVoice 63 = .ok (.iload 4, 2) := by decide +kernel
theorem d_Mo_newVoice_65 : decode b_Mo_newVoice 65 = .ok (.iload_n 2, 1) := by decide +kernel
theorem d_Mo_newVoice_66 : decode b_Mo_newVoice 66 = .ok (.invokestatic 157, 3) := by decide +kernel
theorem d_Mo_newVoice_69 : decode b_Mo_newVoice 69 = .ok (.invokevirtual 164, 3) := by decide +kernel
theorem d_Mo_newVoice_72 : decode b_Mo_newVoice 72 = .ok (.ireturn, 1) := by decide +kernel
theorem d_Mo_newVoice_73 : decode b_Mo_newVoice 73 = .ok (.iinc 4 1, 3) := by decide +kernel
theorem d_Mo_newVoice_76 : decode b_Mo_newVoice 76 = .ok (.goto (-56), 3) := by decide +kernel
theorem d_Mo_newVoice_79 : decode b_Mo_newVoice 79 = .ok (.iconst 0, 1) := by decide +kernel
theorem d_Mo_newVoice_80 : decode b_Mo_newVoice 80 = .ok (.ireturn, 1) := by decide +kernel
theorem d_Mo_goesOn_0 : decode b_Mo_goesOn 0 = .ok (.iconst 0, 1) := by decide +kernel
theorem d_Mo_goesOn_1 : decode b_Mo_goesOn 1 = .ok (.istore_n 1, 1) := by decide +kernel
theorem d_Mo_goesOn_2 : decode b_Mo_goesOn 2 = .ok (.aload_n 0, 1) := by decide +kernel
theorem d_Mo_goesOn_3 : decode b_Mo_goesOn 3 = .ok (.dup, 1) := by decide +kernel
theorem d_Mo_goesOn_4 : decode b_Mo_goesOn 4 = .ok (.getfield 144, 3) := by decide +kernel
theorem d_Mo_goesOn_7 : decode b_Mo_goesOn 7 = .ok (.iconst 1, 1) := by decide +kernel
theorem d_Mo_goesOn_8 : decode b_Mo_goesOn 8 = .ok (.iadd, 1) := by decide +kernel
theorem d_Mo_goesOn_9 : decode b_Mo_goesOn 9 = .ok (.putfield 144, 3) := by decide +kernel
theorem d_Mo_goesOn_12 : decode b_Mo_goesOn 12 = .ok (.iconst 0, 1) := by decide +kernel
theorem d_Mo_goesOn_13 : decode b_Mo_goesOn 13 = .ok (.istore_n 2, 1) := by decide +kernel
theorem d_Mo_goesOn_14 : decode b_Mo_goesOn 14 = .ok (.iload_n 2, 1) := by decide +kernel
theorem d_Mo_goesOn_15 : decode b_Mo_goesOn 15 = .ok (.bipush 6, 2) := by decide +kernel
theorem d_Mo_goesOn_17 : decode b_Mo_goesOn 17 = .ok (.if_icmp .ge 128, 3) := by decide +kernel
theorem d_Mo_goesOn_20 : decode b_Mo_goesOn 20 = .ok (.iconst 0, 1) := by decide +kernel
theorem d_Mo_goesOn_21 : decode b_Mo_goesOn 21 = .ok (.istore_n 3, 1) := by decide +kernel
theorem d_Mo_goesOn_22 : decode b_Mo_goesOn 22 = .ok (.iload_n 3, 1) := by decide +kernel
theorem d_Mo_goesOn_23 : decode b_Mo_goesOn 23 = .ok (.bipush 6, 2) := by decide +kernel
theorem d_Mo_goesOn_25 : decode b_Mo_goesOn 25 = .ok (.if_icmp .ge 114, 3) := by decide +kernel
theorem d_Mo_goesOn_28 : decode b_Mo_goesOn 28 = .ok (.iconst 0, 1) := by decide +kernel
theorem d_Mo_goesOn_29 : decode b_Mo_goesOn 29 = .ok (.istore 4, 2) := by decide +kernel
theorem d_Mo_goesOn_31 : decode b_Mo_goesOn 31 = .ok (.iload 4, 2) := by decide +kernel
theorem d_Mo_goesOn_33 : decode b_Mo_goesOn 33 = .ok (.iconst 4, 1) := by decide +kernel
theorem d_Mo_goesOn_34 : decode b_Mo_goesOn 34 = .ok (.if_icmp .ge 76, 3) := by decide +kernel
theorem d_Mo_goesOn_37 : decode b_Mo_goesOn 37 = .ok (.aload_n 0, 1) := by decide +kernel
theorem d_Mo_goesOn_38 : decode b_Mo_goesOn 38 = .ok (.iload_n 2, 1) := by decide +kernel
theorem d_Mo_goesOn_39 : decode b_Mo_goesOn 39 = .ok (.iload_n 3, 1) := by decide +kernel
theorem d_Mo_goesOn_40 : decode b_Mo_goesOn 40 = .ok (.iload 4, 2) := by decide +kernel
theorem d_Mo_goesOn_42 : decode b_Mo_goesOn 42 = .ok (.invokevirtual 171, 3) := by decide +kernel
theorem d_Mo_goesOn_45 : decode b_Mo_goesOn 45 = .ok (.istore 5, 2) := by decide +kernel
theorem d_Mo_goesOn_47 : decode b_Mo_goesOn 47 = .ok (.iload_n 1, 1) := by decide +kernel
theorem d_Mo_goesOn_48 : decode b_Mo_goesOn 48 = .ok (.ifCond .ne 8, 3) := by decide +kernel
theorem d_Mo_goesOn_51 : decode b_Mo_goesOn 51 = .ok (.iload 5, 2) := by decide +kernel
theorem d_Mo_goesOn_53 : decode b_Mo_goesOn 53 = .ok (.ifCond .eq 7, 3) := by decide +kernel
theorem d_Mo_goesOn_56 : decode b_Mo_goesOn 56 = .ok (.iconst 1, 1) := by decide +kernel
theorem d_Mo_goesOn_57 : decode b_Mo_goesOn 57 = .ok (.goto 4, 3) := by decide +kernel
theorem d_Mo_goesOn_60 : decode b_Mo_goesOn 60 = .ok (.iconst 0, 1) := by decide +kernel
theorem d_Mo_goesOn_61 : decode b_Mo_goesOn 61 = .ok (.istore_n 1, 1) := by decide +kernel
theorem d_Mo_goesOn_62 : decode b_Mo_goesOn 62 = .ok (.iconst 0, 1) := by decide +kernel
theorem d_Mo_goesOn_63 : decode b_Mo_goesOn 63 = .ok (.istore 6, 2) := by decide +kernel
theorem d_Mo_goesOn_65 : decode b_Mo_goesOn 65 = .ok (.iload 6, 2) := by decide +kernel
theorem d_Mo_goesOn_67 : decode b_Mo_goesOn 67 = .ok (.iconst 4, 1) := by decide +kernel
theorem d_Mo_goesOn_68 : decode b_Mo_goesOn 68 = .ok (.if_icmp .ge 36, 3) := by decide +kernel
theorem d_Mo_goesOn_71 : decode b_Mo_goesOn 71 = .ok (.aload_n 0, 1) := by decide +kernel
theorem d_Mo_goesOn_72 : decode b_Mo_goesOn 72 = .ok (.iload_n 2, 1) := by decide +kernel
theorem d_Mo_goesOn_73 : decode b_Mo_goesOn 73 = .ok (.iload_n 3, 1) := by decide +kernel
theorem d_Mo_goesOn_74 : decode b_Mo_goesOn 74 = .ok (.iload 4, 2) := by decide +kernel
theorem d_Mo_goesOn_76 : decode b_Mo_goesOn 76 = .ok (.iload 6, 2) := by decide +kernel
theorem d_Mo_goesOn_78 : decode b_Mo_goesOn 78 = .ok (.invokevirtual 174, 3) := by decide +kernel
theorem d_Mo_goesOn_81 : decode b_Mo_goesOn 81 = .ok (.istore 7, 2) := by decide +kernel
theorem d_Mo_goesOn_83 : decode b_Mo_goesOn 83 = .ok (.iload_n 1, 1) := by decide +kernel
theorem d_Mo_goesOn_84 : decode b_Mo_goesOn 84 = .ok (.ifCond .ne 8, 3) := by decide +kernel
theorem d_Mo_goesOn_87 : decode b_Mo_goesOn 87 = .ok (.iload 7, 2) := by decide +kernel
theorem d_Mo_goesOn_89 : decode b_Mo_goesOn 89 = .ok (.ifCond .eq 7, 3) := by decide +kernel
theorem d_Mo_goesOn_92 : decode b_Mo_goesOn 92 = .ok (.iconst 1, 1) := by decide +kernel
theorem d_Mo_goesOn_93 : decode b_Mo_goesOn 93 = .ok (.goto 4, 3) := by decide +kernel
theorem d_Mo_goesOn_96 : decode b_Mo_goesOn 96 = .ok (.iconst 0, 1) := by decide +kernel
theorem d_Mo_goesOn_97 : decode b_Mo_goesOn 97 = .ok (.istore_n 1, 1) := by decide +kernel
theorem d_Mo_goesOn_98 : decode b_Mo_goesOn 98 = .ok (.iinc 6 1, 3) := by decide +kernel
theorem d_Mo_goesOn_101 : decode b_Mo_goesOn 101 = .ok (.goto (-36), 3) := by decide +kernel
theorem d_Mo_goesOn_104 : decode b_Mo_goesOn 104 = .ok (.iinc 4 1, 3) := by decide +kernel
theorem d_Mo_goesOn_107 : decode b_Mo_goesOn 107 = .ok (.goto (-76), 3) := by decide +kernel
theorem d_Mo_goesOn_110 : decode b_Mo_goesOn 110 = .ok (.aload_n 0, 1) := by decide +kernel
theorem d_Mo_goesOn_111 : decode b_Mo_goesOn 111 = .ok (.iload_n 2, 1) := by decide +kernel
theorem d_Mo_goesOn_112 : decode b_Mo_goesOn 112 = .ok (.iload_n 3, 1) := by decide +kernel
theorem d_Mo_goesOn_113 : decode b_Mo_goesOn 113 = .ok (.invokevirtual 177, 3) := by decide +kernel
theorem d_Mo_goesOn_116 : decode b_Mo_goesOn 116 = .ok (.istore 4, 2) := by decide +kernel
theorem d_Mo_goesOn_118 : decode b_Mo_goesOn 118 = .ok (.iload_n 1, 1) := by decide +kernel
theorem d_Mo_goesOn_119 : decode b_Mo_goesOn 119 = .ok (.ifCond .ne 8, 3) := by decide +kernel
theorem d_Mo_goesOn_122 : decode b_Mo_goesOn 122 = .ok (.iload 4, 2) := by decide +kernel
theorem d_Mo_goesOn_124 : decode b_Mo_goesOn 124 = .ok (.ifCond .eq 7, 3) := by decide +kernel
theorem d_Mo_goesOn_127 : decode b_Mo_goesOn 127 = .ok (.iconst 1, 1) := by decide +kernel
theorem d_Mo_goesOn_128 : decode b_Mo_goesOn 128 = .ok (.goto 4, 3) := by decide +kernel
theorem d_Mo_goesOn_131 : decode b_Mo_goesOn 131 = .ok (.iconst 0, 1) := by decide +kernel
theorem d_Mo_goesOn_132 : decode b_Mo_goesOn 132 = .ok (.istore_n 1, 1) := by decide +kernel
theorem d_Mo_goesOn_133 : decode b_Mo_goesOn 133 = .ok (.iinc 3 1, 3) := by decide +kernel
theorem d_Mo_goesOn_136 : decode b_Mo_goesOn 136 = .ok (.goto (-114), 3) := by decide +kernel
theorem d_Mo_goesOn_139 : decode b_Mo_goesOn 139 = .ok (.iinc 2 1, 3) := by decide +kernel
theorem d_Mo_goesOn_142 : decode b_Mo_goesOn 142 = .ok (.goto (-128), 3) := by decide +kernel
theorem d_Mo_goesOn_145 : decode b_Mo_goesOn 145 = .ok (.iload_n 1, 1) := by decide +kernel
theorem d_Mo_goesOn_146 : decode b_Mo_goesOn 146 = .ok (.ireturn, 1) := by decide +kernel
theorem d_Mo_proof_0 : decode b_Mo_proof 0 = .ok (.aload_n 0, 1) := by decide +kernel
theorem d_Mo_proof_1 : decode b_Mo_proof 1 = .ok (.iload_n 1, 1) := by decide +kernel
theorem d_Mo_proof_2 : decode b_Mo_proof 2 = .ok (.putfield 150, 3) := by decide +kernel
theorem d_Mo_proof_5 : decode b_Mo_proof 5 = .ok (.iconst 0, 1) := by decide +kernel
theorem d_Mo_proof_6 : decode b_Mo_proof 6 = .ok (.istore_n 3, 1) := by decide +kernel
theorem d_Mo_proof_7 : decode b_Mo_proof 7 = .ok (.iload_n 3, 1) := by decide +kernel
theorem d_Mo_proof_8 : decode b_Mo_proof 8 = .ok (.sipush 756, 3) := by decide +kernel
theorem d_Mo_proof_11 : decode b_Mo_proof 11 = .ok (.if_icmp .ge 23, 3) := by decide +kernel
theorem d_Mo_proof_14 : decode b_Mo_proof 14 = .ok (.aload_n 0, 1) := by decide +kernel
theorem d_Mo_proof_15 : decode b_Mo_proof 15 = .ok (.getfield 71, 3) := by decide +kernel
theorem d_Mo_proof_18 : decode b_Mo_proof 18 = .ok (.iload_n 3, 1) := by decide +kernel
theorem d_Mo_proof_19 : decode b_Mo_proof 19 = .ok (.iconst 0, 1) := by decide +kernel
theorem d_Mo_proof_20 : decode b_Mo_proof 20 = .ok (.iastore, 1) := by decide +kernel
theorem d_Mo_proof_21 : decode b_Mo_proof 21 = .ok (.aload_n 0, 1) := by decide +kernel
theorem d_Mo_proof_22 : decode b_Mo_proof 22 = .ok (.getfield 83, 3) := by decide +kernel
theorem d_Mo_proof_25 : decode b_Mo_proof 25 = .ok (.iload_n 3, 1) := by decide +kernel
theorem d_Mo_proof_26 : decode b_Mo_proof 26 = .ok (.iconst (-1), 1) := by decide +kernel
theorem d_Mo_proof_27 : decode b_Mo_proof 27 = .ok (.iastore, 1) := by decide +kernel
theorem d_Mo_proof_28 : decode b_Mo_proof 28 = .ok (.iinc 3 1, 3) := by decide +kernel
theorem d_Mo_proof_31 : decode b_Mo_proof 31 = .ok (.goto (-24), 3) := by decide +kernel
theorem d_Mo_proof_34 : decode b_Mo_proof 34 = .ok (.aload_n 0, 1) := by decide +kernel
theorem d_Mo_proof_35 : decode b_Mo_proof 35 = .ok (.iconst 1, 1) := by decide +kernel
theorem d_Mo_proof_36 : decode b_Mo_proof 36 = .ok (.putfield 144, 3) := by decide +kernel
theorem d_Mo_proof_39 : decode b_Mo_proof 39 = .ok (.aload_n 0, 1) := by decide +kernel
theorem d_Mo_proof_40 : decode b_Mo_proof 40 = .ok (.invokevirtual 181, 3) := by decide +kernel
theorem d_Mo_proof_43 : decode b_Mo_proof 43 = .ok (.iconst 1, 1) := by decide +kernel
theorem d_Mo_proof_44 : decode b_Mo_proof 44 = .ok (.istore_n 3, 1) := by decide +kernel
theorem d_Mo_proof_45 : decode b_Mo_proof 45 = .ok (.iload_n 3, 1) := by decide +kernel
theorem d_Mo_proof_46 : decode b_Mo_proof 46 = .ok (.ifCond .eq 11, 3) := by decide +kernel
theorem d_Mo_proof_49 : decode b_Mo_proof 49 = .ok (.aload_n 0, 1) := by decide +kernel
theorem d_Mo_proof_50 : decode b_Mo_proof 50 = .ok (.invokevirtual 184, 3) := by decide +kernel
theorem d_Mo_proof_53 : decode b_Mo_proof 53 = .ok (.istore_n 3, 1) := by decide +kernel
theorem d_Mo_proof_54 : decode b_Mo_proof 54 = .ok (.goto (-9), 3) := by decide +kernel
theorem d_Mo_proof_57 : decode b_Mo_proof 57 = .ok (.aload_n 0, 1) := by decide +kernel
theorem d_Mo_proof_58 : decode b_Mo_proof 58 = .ok (.iconst 0, 1) := by decide +kernel
theorem d_Mo_proof_59 : decode b_Mo_proof 59 = .ok (.putfield 187, 3) := by decide +kernel
theorem d_Mo_proof_62 : decode b_Mo_proof 62 = .ok (.aload_n 0, 1) := by decide +kernel
theorem d_Mo_proof_63 : decode b_Mo_proof 63 = .ok (.getfield 71, 3) := by decide +kernel
theorem d_Mo_proof_66 : decode b_Mo_proof 66 = .ok (.iload_n 2, 1) := by decide +kernel
theorem d_Mo_proof_67 : decode b_Mo_proof 67 = .ok (.iaload, 1) := by decide +kernel
theorem d_Mo_proof_68 : decode b_Mo_proof 68 = .ok (.ifCond .ne 5, 3) := by decide +kernel
theorem d_Mo_proof_71 : decode b_Mo_proof 71 = .ok (.iconst 0, 1) := by decide +kernel
theorem d_Mo_proof_72 : decode b_Mo_proof 72 = .ok (.ireturn, 1) := by decide +kernel
theorem d_Mo_proof_73 : decode b_Mo_proof 73 = .ok (.iconst 1, 1) := by decide +kernel
theorem d_Mo_proof_74 : decode b_Mo_proof 74 = .ok (.istore 4, 2) := by decide +kernel
theorem d_Mo_proof_76 : decode b_Mo_proof 76 = .ok (.aload_n 0, 1) := by decide +kernel
theorem d_Mo_proof_77 : decode b_Mo_proof 77 = .ok (.getfield 86, 3) := by decide +kernel
theorem d_Mo_proof_80 : decode b_Mo_proof 80 = .ok (.iconst 0, 1) := by decide +kernel
theorem d_Mo_proof_81 : decode b_Mo_proof 81 = .ok (.iload_n 2, 1) := by decide +kernel
theorem d_Mo_proof_82 : decode b_Mo_proof 82 = .ok (.iastore, 1) := by decide +kernel
theorem d_Mo_proof_83 : decode b_Mo_proof 83 = .ok (.iload 4, 2) := by decide +kernel
theorem d_Mo_proof_85 : decode b_Mo_proof 85 = .ok (.ifCond .le 54, 3) := by decide +kernel
theorem d_Mo_proof_88 : decode b_Mo_proof 88 = .ok (.aload_n 0, 1) := by decide +kernel
theorem d_Mo_proof_89 : decode b_Mo_proof 89 = .ok (.getfield 86, 3) := by decide +kernel
theorem d_Mo_proof_92 : decode b_Mo_proof 92 = .ok (.iload 4, 2) := by decide +kernel
theorem d_Mo_proof_94 : decode b_Mo_proof 94 = .ok (.iconst 1, 1) := by decide +kernel
theorem d_Mo_proof_95 : decode b_Mo_proof 95 = .ok (.isub, 1) := by decide +kernel
theorem d_Mo_proof_96 : decode b_Mo_proof 96 = .ok (.iaload, 1) := by decide +kernel
theorem d_Mo_proof_97 : decode b_Mo_proof 97 = .ok (.istore 5, 2) := by decide +kernel
theorem d_Mo_proof_99 : decode b_Mo_proof 99 = .ok (.aload_n 0, 1) := by decide +kernel
theorem d_Mo_proof_100 : decode b_Mo_proof 100 = .ok (.iload 5, 2) := by decide +kernel
theorem d_Mo_proof_102 : decode b_Mo_proof 102 = .ok (.invokevirtual 190, 3) := by decide +kernel
theorem d_Mo_proof_105 : decode b_Mo_proof 105 = .ok (.istore 6, 2) := by decide +kernel
theorem d_Mo_proof_107 : decode b_Mo_proof 107 = .ok (.iload 6, 2) := by decide +kernel
theorem d_Mo_proof_109 : decode b_Mo_proof 109 = .ok (.ifCond .lt 18, 3) := by decide +kernel
theorem d_Mo_proof_112 : decode b_Mo_proof 112 = .ok (.aload_n 0, 1) := by decide +kernel
theorem d_Mo_proof_113 : decode b_Mo_proof 113 = .ok (.getfield 86, 3) := by decide +kernel
theorem d_Mo_proof_116 : decode b_Mo_proof 116 = .ok (.iload 4, 2) := by decide +kernel
theorem d_Mo_proof_118 : decode b_Mo_proof 118 = .ok (.iload 6, 2) := by decide +kernel
theorem d_Mo_proof_120 : decode b_Mo_proof 120 = .ok (.iastore, 1) := by decide +kernel
theorem d_Mo_proof_121 : decode b_Mo_proof 121 = .ok (.iinc 4 1, 3) := by decide +kernel
theorem d_Mo_proof_124 : decode b_Mo_proof 124 = .ok (.goto 12, 3) := by decide +kernel
theorem d_Mo_proof_127 : decode b_Mo_proof 127 = .ok (.iinc 4 (-1), 3) := by decide +kernel
theorem d_Mo_proof_130 : decode b_Mo_proof 130 = .ok (.aload_n 0, 1) := by decide +kernel
theorem d_Mo_proof_131 : decode b_Mo_proof 131 = .ok (.iload 5, 2) := by decide +kernel
theorem d_Mo_proof_133 : decode b_Mo_proof 133 = .ok (.invokevirtual 193, 3) := by decide +kernel
theorem d_Mo_proof_136 : decode b_Mo_proof 136 = .ok (.goto (-53), 3) := by decide +kernel
theorem d_Mo_proof_139 : decode b_Mo_proof 139 = .ok (.aload_n 0, 1) := by decide +kernel
theorem d_Mo_proof_140 : decode b_Mo_proof 140 = .ok (.getfield 187, 3) := by decide +kernel
theorem d_Mo_proof_143 : decode b_Mo_proof 143 = .ok (.ireturn, 1) := by decide +kernel
theorem d_Mo_needed_0 : decode b_Mo_needed 0 = .ok (.aload_n 0, 1) := by decide +kernel
theorem d_Mo_needed_1 : decode b_Mo_needed 1 = .ok (.getfield 74, 3) := by decide +kernel
theorem d_Mo_needed_4 : decode b_Mo_needed 4 = .ok (.iload_n 1, 1) := by decide +kernel
theorem d_Mo_needed_5 : decode b_Mo_needed 5 = .ok (.iaload, 1) := by decide +kernel
theorem d_Mo_needed_6 : decode b_Mo_needed 6 = .ok (.iconst 1, 1) := by decide +kernel
theorem d_Mo_needed_7 : decode b_Mo_needed 7 = .ok (.if_icmp .le 35, 3) := by decide +kernel
theorem d_Mo_needed_10 : decode b_Mo_needed 10 = .ok (.aload_n 0, 1) := by decide +kernel
theorem d_Mo_needed_11 : decode b_Mo_needed 11 = .ok (.getfield 74, 3) := by decide +kernel
theorem d_Mo_needed_14 : decode b_Mo_needed 14 = .ok (.iload_n 1, 1) := by decide +kernel
theorem d_Mo_needed_15 : decode b_Mo_needed 15 = .ok (.iaload, 1) := by decide +kernel
theorem d_Mo_needed_16 : decode b_Mo_needed 16 = .ok (.bipush 7, 2) := by decide +kernel
theorem d_Mo_needed_18 : decode b_Mo_needed 18 = .ok (.if_icmp .ge 24, 3) := by decide +kernel
theorem d_Mo_needed_21 : decode b_Mo_needed 21 = .ok (.aload_n 0, 1) := by decide +kernel
theorem d_Mo_needed_22 : decode b_Mo_needed 22 = .ok (.getfield 83, 3) := by decide +kernel
theorem d_Mo_needed_25 : decode b_Mo_needed 25 = .ok (.aload_n 0, 1) := by decide +kernel
theorem d_Mo_needed_26 : decode b_Mo_needed 26 = .ok (.getfield 77, 3) := by decide +kernel
theorem d_Mo_needed_29 : decode b_Mo_needed 29 = .ok (.iload_n 1, 1) := by decide +kernel
theorem d_Mo_needed_30 : decode b_Mo_needed 30 = .ok (.iaload, 1) := by decide +kernel
theorem d_Mo_needed_31 : decode b_Mo_needed 31 = .ok (.iaload, 1) := by decide +kernel
theorem d_Mo_needed_32 : decode b_Mo_needed 32 = .ok (.ifCond .ge 10, 3) := by decide +kernel
theorem d_Mo_needed_35 : decode b_Mo_needed 35 = .ok (.aload_n 0, 1) := by decide +kernel
theorem d_Mo_needed_36 : decode b_Mo_needed 36 = .ok (.getfield 77, 3) := by decide +kernel
theorem d_Mo_needed_39 : decode b_Mo_needed 39 = .ok (.iload_n 1, 1) := by decide +kernel
theorem d_Mo_needed_40 : decode b_Mo_needed 40 = .ok (.iaload, 1) := by decide +kernel
theorem d_Mo_needed_41 : decode b_Mo_needed 41 = .ok (.ireturn, 1) := by decide +kernel
theorem d_Mo_needed_42 : decode b_Mo_needed 42 = .ok (.aload_n 0, 1) := by decide +kernel
theorem d_Mo_needed_43 : decode b_Mo_needed 43 = .ok (.getfield 74, 3) := by decide +kernel
theorem d_Mo_needed_46 : decode b_Mo_needed 46 = .ok (.iload_n 1, 1) := by decide +kernel
theorem d_Mo_needed_47 : decode b_Mo_needed 47 = .ok (.iaload, 1) := by decide +kernel
theorem d_Mo_needed_48 : decode b_Mo_needed 48 = .ok (.iconst 1, 1) := by decide +kernel
theorem d_Mo_needed_49 : decode b_Mo_needed 49 = .ok (.if_icmp .le 26, 3) := by decide +kernel
theorem d_Mo_needed_52 : decode b_Mo_needed 52 = .ok (.aload_n 0, 1) := by decide +kernel
theorem d_Mo_needed_53 : decode b_Mo_needed 53 = .ok (.getfield 83, 3) := by decide +kernel
theorem d_Mo_needed_56 : decode b_Mo_needed 56 = .ok (.aload_n 0, 1) := by decide +kernel
theorem d_Mo_needed_57 : decode b_Mo_needed 57 = .ok (.getfield 80, 3) := by decide +kernel
theorem d_Mo_needed_60 : decode b_Mo_needed 60 = .ok (.iload_n 1, 1) := by decide +kernel
theorem d_Mo_needed_61 : decode b_Mo_needed 61 = .ok (.iaload, 1) := by decide +kernel
theorem d_Mo_needed_62 : decode b_Mo_needed 62 = .ok (.iaload, 1) := by decide +kernel
theorem d_Mo_needed_63 : decode b_Mo_needed 63 = .ok (.ifCond .ge 12, 3) := by decide +kernel
theorem d_Mo_needed_66 : decode b_Mo_needed 66 = .ok (.aload_n 0, 1) := by decide +kernel
theorem d_Mo_needed_67 : decode b_Mo_needed 67 = .ok (.getfield 80, 3) := by decide +kernel
theorem d_Mo_needed_70 : decode b_Mo_needed 70 = .ok (.iload_n 1, 1) := by decide +kernel
theorem d_Mo_needed_71 : decode b_Mo_needed 71 = .ok (.iaload, 1) := by decide +kernel
theorem d_Mo_needed_72 : decode b_Mo_needed 72 = .ok (.goto 4, 3) := by decide +kernel
theorem d_Mo_needed_75 : decode b_Mo_needed 75 = .ok (.iconst (-1), 1) := by decide +kernel
theorem d_Mo_needed_76 : decode b_Mo_needed 76 = .ok (.ireturn, 1) := by decide +kernel
theorem d_Mo_note_0 : decode b_Mo_note 0 = .ok (.aload_n 0, 1) := by decide +kernel
theorem d_Mo_note_1 : decode b_Mo_note 1 = .ok (.getfield 83, 3) := by decide +kernel
theorem d_Mo_note_4 : decode b_Mo_note 4 = .ok (.iload_n 1, 1) := by decide +kernel
theorem d_Mo_note_5 : decode b_Mo_note 5 = .ok (.iaload, 1) := by decide +kernel
theorem d_Mo_note_6 : decode b_Mo_note 6 = .ok (.ifCond .lt 4, 3) := by decide +kernel
theorem d_Mo_note_9 : decode b_Mo_note 9 = .ok (.return_, 1) := by decide +kernel
theorem d_Mo_note_10 : decode b_Mo_note 10 = .ok (.aload_n 0, 1) := by decide +kernel
theorem d_Mo_note_11 : decode b_Mo_note 11 = .ok (.getfield 83, 3) := by decide +kernel
theorem d_Mo_note_14 : decode b_Mo_note 14 = .ok (.iload_n 1, 1) := by decide +kernel
theorem d_Mo_note_15 : decode b_Mo_note 15 = .ok (.aload_n 0, 1) := by decide +kernel
theorem d_Mo_note_16 : decode b_Mo_note 16 = .ok (.getfield 187, 3) := by decide +kernel
theorem d_Mo_note_19 : decode b_Mo_note 19 = .ok (.iastore, 1) := by decide +kernel
theorem d_Mo_note_20 : decode b_Mo_note 20 = .ok (.aload_n 0, 1) := by decide +kernel
theorem d_Mo_note_21 : decode b_Mo_note 21 = .ok (.getfield 62, 3) := by decide +kernel
theorem d_Mo_note_24 : decode b_Mo_note 24 = .ok (.aload_n 0, 1) := by decide +kernel
theorem d_Mo_note_25 : decode b_Mo_note 25 = .ok (.getfield 187, 3) := by decide +kernel
theorem d_Mo_note_28 : decode b_Mo_note 28 = .ok (.aload_n 0, 1) := by decide +kernel
theorem d_Mo_note_29 : decode b_Mo_note 29 = .ok (.getfield 74, 3) := by decide +kernel
theorem d_Mo_note_32 : decode b_Mo_note 32 = .ok (.iload_n 1, 1) := by decide +kernel
theorem d_Mo_note_33 : decode b_Mo_note 33 = .ok (.iaload, 1) := by decide +kernel
theorem d_Mo_note_34 : decode b_Mo_note 34 = .ok (.iastore, 1) := by decide +kernel
theorem d_Mo_note_35 : decode b_Mo_note 35 = .ok (.aload_n 0, 1) := by decide +kernel
theorem d_Mo_note_36 : decode b_Mo_note 36 = .ok (.getfield 65, 3) := by decide +kernel
theorem d_Mo_note_39 : decode b_Mo_note 39 = .ok (.aload_n 0, 1) := by decide +kernel
theorem d_Mo_note_40 : decode b_Mo_note 40 = .ok (.getfield 187, 3) := by decide +kernel
theorem d_Mo_note_43 : decode b_Mo_note 43 = .ok (.aload_n 0, 1) := by decide +kernel
theorem d_Mo_note_44 : decode b_Mo_note 44 = .ok (.getfield 74, 3) := by decide +kernel
theorem d_Mo_note_47 : decode b_Mo_note 47 = .ok (.iload_n 1, 1) := by decide +kernel
theorem d_Mo_note_48 : decode b_Mo_note 48 = .ok (.iaload, 1) := by decide +kernel
theorem d_Mo_note_49 : decode b_Mo_note 49 = .ok (.iconst 1, 1) := by decide +kernel
theorem d_Mo_note_50 : decode b_Mo_note 50 = .ok (.if_icmp .eq 14, 3) := by decide +kernel
theorem d_Mo_note_53 : decode b_Mo_note 53 = .ok (.aload_n 0, 1) := by decide +kernel
theorem d_Mo_note_54 : decode b_Mo_note 54 = .ok (.getfield 74, 3) := by decide +kernel
theorem d_Mo_note_57 : decode b_Mo_note 57 = .ok (.iload_n 1, 1) := by decide +kernel
theorem d_Mo_note_58 : decode b_Mo_note 58 = .ok (.iaload, 1) := by decide +kernel
theorem d_Mo_note_59 : decode b_Mo_note 59 = .ok (.bipush 7, 2) := by decide +kernel
theorem d_Mo_note_61 : decode b_Mo_note 61 = .ok (.if_icmp .ne 12, 3) := by decide +kernel
theorem d_Mo_note_64 : decode b_Mo_note 64 = .ok (.aload_n 0, 1) := by decide +kernel
theorem d_Mo_note_65 : decode b_Mo_note 65 = .ok (.getfield 77, 3) := by decide +kernel
theorem d_Mo_note_68 : decode b_Mo_note 68 = .ok (.iload_n 1, 1) := by decide +kernel
theorem d_Mo_note_69 : decode b_Mo_note 69 = .ok (.iaload, 1) := by decide +kernel
theorem d_Mo_note_70 : decode b_Mo_note 70 = .ok (.goto 14, 3) := by decide +kernel
theorem d_Mo_note_73 : decode b_Mo_note 73 = .ok (.aload_n 0, 1) := by decide +kernel
theorem d_Mo_note_74 : decode b_Mo_note 74 = .ok (.getfield 83, 3) := by decide +kernel
theorem d_Mo_note_77 : decode b_Mo_note 77 = .ok (.aload_n 0, 1) := by decide +kernel
theorem d_Mo_note_78 : decode b_Mo_note 78 = .ok (.getfield 77, 3) := by decide +kernel
theorem d_Mo_note_81 : decode b_Mo_note 81 = .ok (.iload_n 1, 1) := by decide +kernel
theorem d_Mo_note_82 : decode b_Mo_note 82 = .ok (.iaload, 1) := by decide +kernel
theorem d_Mo_note_83 : decode b_Mo_note 83 = .ok (.iaload, 1) := by decide +kernel
theorem d_Mo_note_84 : decode b_Mo_note 84 = .ok (.iastore, 1) := by decide +kernel
theorem d_Mo_note_85 : decode b_Mo_note 85 = .ok (.aload_n 0, 1) := by decide +kernel
theorem d_Mo_note_86 : decode b_Mo_note 86 = .ok (.getfield 68, 3) := by decide +kernel
theorem d_Mo_note_89 : decode b_Mo_note 89 = .ok (.aload_n 0, 1) := by decide +kernel
theorem d_Mo_note_90 : decode b_Mo_note 90 = .ok (.getfield 187, 3) := by decide +kernel
theorem d_Mo_note_93 : decode b_Mo_note 93 = .ok (.aload_n 0, 1) := by decide +kernel
theorem d_Mo_note_94 : decode b_Mo_note 94 = .ok (.getfield 74, 3) := by decide +kernel
theorem d_Mo_note_97 : decode b_Mo_note 97 = .ok (.iload_n 1, 1) := by decide +kernel
theorem d_Mo_note_98 : decode b_Mo_note 98 = .ok (.iaload, 1) := by decide +kernel
theorem d_Mo_note_99 : decode b_Mo_note 99 = .ok (.iconst 1, 1) := by decide +kernel
theorem d_Mo_note_100 : decode b_Mo_note 100 = .ok (.if_icmp .ne 7, 3) := by decide +kernel
theorem d_Mo_note_103 : decode b_Mo_note 103 = .ok (.iconst 0, 1) := by decide +kernel
theorem d_Mo_note_104 : decode b_Mo_note 104 = .ok (.goto 14, 3) := by decide +kernel
theorem d_Mo_note_107 : decode b_Mo_note 107 = .ok (.aload_n 0, 1) := by decide +kernel
theorem d_Mo_note_108 : decode b_Mo_note 108 = .ok (.getfield 83, 3) := by decide +kernel
theorem d_Mo_note_111 : decode b_Mo_note 111 = .ok (.aload_n 0, 1) := by decide +kernel
theorem d_Mo_note_112 : decode b_Mo_note 112 = .ok (.getfield 80, 3) := by decide +kernel
theorem d_Mo_note_115 : decode b_Mo_note 115 = .ok (.iload_n 1, 1) := by decide +kernel
theorem d_Mo_note_116 : decode b_Mo_note 116 = .ok (.iaload, 1) := by decide +kernel
theorem d_Mo_note_117 : decode b_Mo_note 117 = .ok (.iaload, 1) := by decide +kernel
theorem d_Mo_note_118 : decode b_Mo_note 118 = .ok (.iastore, 1) := by decide +kernel
theorem d_Mo_note_119 : decode b_Mo_note 119 = .ok (.aload_n 0, 1) := by decide +kernel
theorem d_Mo_note_120 : decode b_Mo_note 120 = .ok (.dup, 1) := by decide +kernel
theorem d_Mo_note_121 : decode b_Mo_note 121 = .ok (.getfield 187, 3) := by decide +kernel
theorem d_Mo_note_124 : decode b_Mo_note 124 = .ok (.iconst 1, 1) := by decide +kernel
theorem d_Mo_note_125 : decode b_Mo_note 125 = .ok (.iadd, 1) := by decide +kernel
theorem d_Mo_note_126 : decode b_Mo_note 126 = .ok (.putfield 187, 3) := by decide +kernel
theorem d_Mo_note_129 : decode b_Mo_note 129 = .ok (.return_, 1) := by decide +kernel
theorem d_Mo_fact_0 : decode b_Mo_fact 0 = .ok (.iload_n 0, 1) := by decide +kernel
theorem d_Mo_fact_1 : decode b_Mo_fact 1 = .ok (.bipush 8, 2) := by decide +kernel
theorem d_Mo_fact_3 : decode b_Mo_fact 3 = .ok (.imul, 1) := by decide +kernel
theorem d_Mo_fact_4 : decode b_Mo_fact 4 = .ok (.iload_n 1, 1) := by decide +kernel
theorem d_Mo_fact_5 : decode b_Mo_fact 5 = .ok (.iadd, 1) := by decide +kernel
theorem d_Mo_fact_6 : decode b_Mo_fact 6 = .ok (.bipush 8, 2) := by decide +kernel
theorem d_Mo_fact_8 : decode b_Mo_fact 8 = .ok (.imul, 1) := by decide +kernel
theorem d_Mo_fact_9 : decode b_Mo_fact 9 = .ok (.iload_n 2, 1) := by decide +kernel
theorem d_Mo_fact_10 : decode b_Mo_fact 10 = .ok (.iadd, 1) := by decide +kernel
theorem d_Mo_fact_11 : decode b_Mo_fact 11 = .ok (.bipush 8, 2) := by decide +kernel
theorem d_Mo_fact_13 : decode b_Mo_fact 13 = .ok (.imul, 1) := by decide +kernel
theorem d_Mo_fact_14 : decode b_Mo_fact 14 = .ok (.iload_n 3, 1) := by decide +kernel
theorem d_Mo_fact_15 : decode b_Mo_fact 15 = .ok (.iadd, 1) := by decide +kernel
theorem d_Mo_fact_16 : decode b_Mo_fact 16 = .ok (.bipush 8, 2) := by decide +kernel
theorem d_Mo_fact_18 : decode b_Mo_fact 18 = .ok (.imul, 1) := by decide +kernel
theorem d_Mo_fact_19 : decode b_Mo_fact 19 = .ok (.iload 4, 2) := by decide +kernel
theorem d_Mo_fact_21 : decode b_Mo_fact 21 = .ok (.iadd, 1) := by decide +kernel
theorem d_Mo_fact_22 : decode b_Mo_fact 22 = .ok (.bipush 8, 2) := by decide +kernel
theorem d_Mo_fact_24 : decode b_Mo_fact 24 = .ok (.imul, 1) := by decide +kernel
theorem d_Mo_fact_25 : decode b_Mo_fact 25 = .ok (.iload 5, 2) := by decide +kernel
theorem d_Mo_fact_27 : decode b_Mo_fact 27 = .ok (.iadd, 1) := by decide +kernel
theorem d_Mo_fact_28 : decode b_Mo_fact 28 = .ok (.ireturn, 1) := by decide +kernel
theorem d_Mo_item_0 : decode b_Mo_item 0 = .ok (.iload_n 0, 1) := by decide +kernel
theorem d_Mo_item_1 : decode b_Mo_item 1 = .ok (.bipush 15, 2) := by decide +kernel
theorem d_Mo_item_3 : decode b_Mo_item 3 = .ok (.iconst 3, 1) := by decide +kernel
theorem d_Mo_item_4 : decode b_Mo_item 4 = .ok (.iload_n 1, 1) := by decide +kernel
theorem d_Mo_item_5 : decode b_Mo_item 5 = .ok (.imul, 1) := by decide +kernel
theorem d_Mo_item_6 : decode b_Mo_item 6 = .ok (.isub, 1) := by decide +kernel
theorem d_Mo_item_7 : decode b_Mo_item 7 = .ok (.ishr, 1) := by decide +kernel
theorem d_Mo_item_8 : decode b_Mo_item 8 = .ok (.bipush 7, 2) := by decide +kernel
theorem d_Mo_item_10 : decode b_Mo_item 10 = .ok (.iand, 1) := by decide +kernel
theorem d_Mo_item_11 : decode b_Mo_item 11 = .ok (.ireturn, 1) := by decide +kernel
theorem d_Mo_stepFact_0 : decode b_Mo_stepFact 0 = .ok (.iload_n 2, 1) := by decide +kernel
theorem d_Mo_stepFact_1 : decode b_Mo_stepFact 1 = .ok (.iconst 0, 1) := by decide +kernel
theorem d_Mo_stepFact_2 : decode b_Mo_stepFact 2 = .ok (.iload_n 1, 1) := by decide +kernel
theorem d_Mo_stepFact_3 : decode b_Mo_stepFact 3 = .ok (.iconst 1, 1) := by decide +kernel
theorem d_Mo_stepFact_4 : decode b_Mo_stepFact 4 = .ok (.isub, 1) := by decide +kernel
theorem d_Mo_stepFact_5 : decode b_Mo_stepFact 5 = .ok (.invokestatic 106, 3) := by decide +kernel
theorem d_Mo_stepFact_8 : decode b_Mo_stepFact 8 = .ok (.ifCond .eq 12, 3) := by decide +kernel
theorem d_Mo_stepFact_11 : decode b_Mo_stepFact 11 = .ok (.aload_n 0, 1) := by decide +kernel
theorem d_Mo_stepFact_12 : decode b_Mo_stepFact 12 = .ok (.getfield 59, 3) := by decide +kernel
theorem d_Mo_stepFact_15 : decode b_Mo_stepFact 15 = .ok (.iload_n 2, 1) := by decide +kernel
theorem d_Mo_stepFact_16 : decode b_Mo_stepFact 16 = .ok (.iaload, 1) := by decide +kernel
theorem d_Mo_stepFact_17 : decode b_Mo_stepFact 17 = .ok (.goto 4, 3) := by decide +kernel
theorem d_Mo_stepFact_20 : decode b_Mo_stepFact 20 = .ok (.iconst 0, 1) := by decide +kernel
theorem d_Mo_stepFact_21 : decode b_Mo_stepFact 21 = .ok (.ireturn, 1) := by decide +kernel
theorem d_Mo_proved_0 : decode b_Mo_proved 0 = .ok (.aload_n 0, 1) := by decide +kernel
theorem d_Mo_proved_1 : decode b_Mo_proved 1 = .ok (.getfield 53, 3) := by decide +kernel
theorem d_Mo_proved_4 : decode b_Mo_proved 4 = .ok (.iload_n 1, 1) := by decide +kernel
theorem d_Mo_proved_5 : decode b_Mo_proved 5 = .ok (.iaload, 1) := by decide +kernel
theorem d_Mo_proved_6 : decode b_Mo_proved 6 = .ok (.istore_n 2, 1) := by decide +kernel
theorem d_Mo_proved_7 : decode b_Mo_proved 7 = .ok (.aload_n 0, 1) := by decide +kernel
theorem d_Mo_proved_8 : decode b_Mo_proved 8 = .ok (.getfield 50, 3) := by decide +kernel
theorem d_Mo_proved_11 : decode b_Mo_proved 11 = .ok (.iload_n 1, 1) := by decide +kernel
theorem d_Mo_proved_12 : decode b_Mo_proved 12 = .ok (.iaload, 1) := by decide +kernel
theorem d_Mo_proved_13 : decode b_Mo_proved 13 = .ok (.istore_n 3, 1) := by decide +kernel
theorem d_Mo_proved_14 : decode b_Mo_proved 14 = .ok (.iload_n 3, 1) := by decide +kernel
theorem d_Mo_proved_15 : decode b_Mo_proved 15 = .ok (.iconst 1, 1) := by decide +kernel
theorem d_Mo_proved_16 : decode b_Mo_proved 16 = .ok (.if_icmp .ne 21, 3) := by decide +kernel
theorem d_Mo_proved_19 : decode b_Mo_proved 19 = .ok (.aload_n 0, 1) := by decide +kernel
theorem d_Mo_proved_20 : decode b_Mo_proved 20 = .ok (.iload_n 2, 1) := by decide +kernel
theorem d_Mo_proved_21 : decode b_Mo_proved 21 = .ok (.invokevirtual 147, 3) := by decide +kernel
theorem d_Mo_proved_24 : decode b_Mo_proved 24 = .ok (.ifCond .eq 11, 3) := by decide +kernel
theorem d_Mo_proved_27 : decode b_Mo_proved 27 = .ok (.aload_n 0, 1) := by decide +kernel
theorem d_Mo_proved_28 : decode b_Mo_proved 28 = .ok (.iload_n 2, 1) := by decide +kernel
theorem d_Mo_proved_29 : decode b_Mo_proved 29 = .ok (.invokevirtual 197, 3) := by decide +kernel
theorem d_Mo_proved_32 : decode b_Mo_proved 32 = .ok (.goto 4, 3) := by decide +kernel
theorem d_Mo_proved_35 : decode b_Mo_proved 35 = .ok (.iconst 0, 1) := by decide +kernel
theorem d_Mo_proved_36 : decode b_Mo_proved 36 = .ok (.ireturn, 1) := by decide +kernel
theorem d_Mo_proved_37 : decode b_Mo_proved 37 = .ok (.aload_n 0, 1) := by decide +kernel
theorem d_Mo_proved_38 : decode b_Mo_proved 38 = .ok (.iload_n 1, 1) := by decide +kernel
theorem d_Mo_proved_39 : decode b_Mo_proved 39 = .ok (.aload_n 0, 1) := by decide +kernel
theorem d_Mo_proved_40 : decode b_Mo_proved 40 = .ok (.getfield 56, 3) := by decide +kernel
theorem d_Mo_proved_43 : decode b_Mo_proved 43 = .ok (.iload_n 1, 1) := by decide +kernel
theorem d_Mo_proved_44 : decode b_Mo_proved 44 = .ok (.iaload, 1) := by decide +kernel
theorem d_Mo_proved_45 : decode b_Mo_proved 45 = .ok (.invokevirtual 200, 3) := by decide +kernel
theorem d_Mo_proved_48 : decode b_Mo_proved 48 = .ok (.istore 4, 2) := by decide +kernel
theorem d_Mo_proved_50 : decode b_Mo_proved 50 = .ok (.iload_n 3, 1) := by decide +kernel
theorem d_Mo_proved_51 : decode b_Mo_proved 51 = .ok (.bipush 7, 2) := by decide +kernel
theorem d_Mo_proved_53 : decode b_Mo_proved 53 = .ok (.if_icmp .ne 107, 3) := by decide +kernel
theorem d_Mo_proved_56 : decode b_Mo_proved 56 = .ok (.aload_n 0, 1) := by decide +kernel
theorem d_Mo_proved_57 : decode b_Mo_proved 57 = .ok (.iload_n 2, 1) := by decide +kernel
theorem d_Mo_proved_58 : decode b_Mo_proved 58 = .ok (.invokevirtual 147, 3) := by decide +kernel
theorem d_Mo_proved_61 : decode b_Mo_proved 61 = .ok (.ifCond .eq 57, 3) := by decide +kernel
theorem d_Mo_proved_64 : decode b_Mo_proved 64 = .ok (.aload_n 0, 1) := by decide +kernel
theorem d_Mo_proved_65 : decode b_Mo_proved 65 = .ok (.getfield 23, 3) := by decide +kernel
theorem d_Mo_proved_68 : decode b_Mo_proved 68 = .ok (.iload_n 2, 1) := by decide +kernel
theorem d_Mo_proved_69 : decode b_Mo_proved 69 = .ok (.iaload, 1) := by decide +kernel
theorem d_Mo_proved_70 : decode b_Mo_proved 70 = .ok (.iconst 3, 1) := by decide +kernel
theorem d_Mo_proved_71 : decode b_Mo_proved 71 = .ok (.if_icmp .ne 47, 3) := by decide +kernel
theorem d_Mo_proved_74 : decode b_Mo_proved 74 = .ok (.iload 4, 2) := by decide +kernel
theorem d_Mo_proved_76 : decode b_Mo_proved 76 = .ok (.iconst 0, 1) := by decide +kernel
theorem d_Mo_proved_77 : decode b_Mo_proved 77 = .ok (.invokestatic 203, 3) := by decide +kernel
theorem d_Mo_proved_80 : decode b_Mo_proved 80 = .ok (.iconst 1, 1) := by decide +kernel
theorem d_Mo_proved_81 : decode b_Mo_proved 81 = .ok (.if_icmp .ne 37, 3) := by decide +kernel
theorem d_Mo_proved_84 : decode b_Mo_proved 84 = .ok (.iload 4, 2) := by decide +kernel
theorem d_Mo_proved_86 : decode b_Mo_proved 86 = .ok (.iconst 1, 1) := by decide +kernel
theorem d_Mo_proved_87 : decode b_Mo_proved 87 = .ok (.invokestatic 203, 3) := by decide +kernel
theorem d_Mo_proved_90 : decode b_Mo_proved 90 = .ok (.aload_n 0, 1) := by decide +kernel
theorem d_Mo_proved_91 : decode b_Mo_proved 91 = .ok (.getfield 20, 3) := by decide +kernel
theorem d_Mo_proved_94 : decode b_Mo_proved 94 = .ok (.iload_n 2, 1) := by decide +kernel
theorem d_Mo_proved_95 : decode b_Mo_proved 95 = .ok (.iaload, 1) := by decide +kernel
theorem d_Mo_proved_96 : decode b_Mo_proved 96 = .ok (.if_icmp .ne 22, 3) := by decide +kernel
theorem d_Mo_proved_99 : decode b_Mo_proved 99 = .ok (.iload 4, 2) := by decide +kernel
theorem d_Mo_proved_101 : decode b_Mo_proved 101 = .ok (.iconst 3, 1) := by decide +kernel
theorem d_Mo_proved_102 : decode b_Mo_proved 102 = .ok (.invokestatic 203, 3) := by decide +kernel
theorem d_Mo_proved_105 : decode b_Mo_proved 105 = .ok (.aload_n 0, 1) := by decide +kernel
theorem d_Mo_proved_106 : decode b_Mo_proved 106 = .ok (.getfield 26, 3) := by decide +kernel
theorem d_Mo_proved_109 : decode b_Mo_proved 109 = .ok (.iload_n 2, 1) := by decide +kernel
theorem d_Mo_proved_110 : decode b_Mo_proved 110 = .ok (.iaload, 1) := by decide +kernel
theorem d_Mo_proved_111 : decode b_Mo_proved 111 = .ok (.if_icmp .ne 7, 3) := by decide +kernel
theorem d_Mo_proved_114 : decode b_Mo_proved 114 = .ok (.iconst 1, 1) := by decide +kernel
theorem d_Mo_proved_115 : decode b_Mo_proved 115 = .ok (.goto 4, 3) := by decide +kernel
theorem d_Mo_proved_118 : decode b_Mo_proved 118 = .ok (.iconst 0, 1) := by decide +kernel
theorem d_Mo_proved_119 : decode b_Mo_proved 119 = .ok (.istore 5, 2) := by decide +kernel
theorem d_Mo_proved_121 : decode b_Mo_proved 121 = .ok (.iload 5, 2) := by decide +kernel
theorem d_Mo_proved_123 : decode b_Mo_proved 123 = .ok (.ifCond .eq 35, 3) := by decide +kernel
theorem d_Mo_proved_126 : decode b_Mo_proved 126 = .ok (.iconst 1, 1) := by decide +kernel
theorem d_Mo_proved_127 : decode b_Mo_proved 127 = .ok (.iload 4, 2) := by decide +kernel
theorem d_Mo_proved_129 : decode b_Mo_proved 129 = .ok (.iconst 1, 1) := by decide +kernel
theorem d_Mo_proved_130 : decode b_Mo_proved 130 = .ok (.invokestatic 203, 3) := by decide +kernel
theorem d_Mo_proved_133 : decode b_Mo_proved 133 = .ok (.iload 4, 2) := by decide +kernel
theorem d_Mo_proved_135 : decode b_Mo_proved 135 = .ok (.iconst 2, 1) := by decide +kernel
theorem d_Mo_proved_136 : decode b_Mo_proved 136 = .ok (.invokestatic 203, 3) := by decide +kernel
theorem d_Mo_proved_139 : decode b_Mo_proved 139 = .ok (.aload_n 0, 1) := by decide +kernel
theorem d_Mo_proved_140 : decode b_Mo_proved 140 = .ok (.getfield 29, 3) := by decide +kernel
theorem d_Mo_proved_143 : decode b_Mo_proved 143 = .ok (.iload_n 2, 1) := by decide +kernel
theorem d_Mo_proved_144 : decode b_Mo_proved 144 = .ok (.iaload, 1) := by decide +kernel
theorem d_Mo_proved_145 : decode b_Mo_proved 145 = .ok (.iload 4, 2) := by decide +kernel
theorem d_Mo_proved_147 : decode b_Mo_proved 147 = .ok (.iconst 4, 1) := by decide +kernel
theorem d_Mo_proved_148 : decode b_Mo_proved 148 = .ok (.invokestatic 203, 3) := by decide +kernel
theorem d_Mo_proved_151 : decode b_Mo_proved 151 = .ok (.iconst 0, 1) := by decide +kernel
theorem d_Mo_proved_152 : decode b_Mo_proved 152 = .ok (.invokestatic 206, 3) := by decide +kernel
theorem d_Mo_proved_155 : decode b_Mo_proved 155 = .ok (.goto 4, 3) := by decide +kernel
theorem d_Mo_proved_158 : decode b_Mo_proved 158 = .ok (.iconst 0, 1) := by decide +kernel
theorem d_Mo_proved_159 : decode b_Mo_proved 159 = .ok (.ireturn, 1) := by decide +kernel
theorem d_Mo_proved_160 : decode b_Mo_proved 160 = .ok (.iload_n 3, 1) := by decide +kernel
theorem d_Mo_proved_161 : decode b_Mo_proved 161 = .ok (.iconst 2, 1) := by decide +kernel
theorem d_Mo_proved_162 : decode b_Mo_proved 162 = .ok (.bipush 6, 2) := by decide +kernel
theorem d_Mo_proved_164 : decode b_Mo_proved 164 = .ok (.invokestatic 106, 3) := by decide +kernel
theorem d_Mo_proved_167 : decode b_Mo_proved 167 = .ok (.ifCond .ne 5, 3) := by decide +kernel
theorem d_Mo_proved_170 : decode b_Mo_proved 170 = .ok (.iconst 0, 1) := by decide +kernel
theorem d_Mo_proved_171 : decode b_Mo_proved 171 = .ok (.ireturn, 1) := by decide +kernel
theorem d_Mo_proved_172 : decode b_Mo_proved 172 = .ok (.aload_n 0, 1) := by decide +kernel
theorem d_Mo_proved_173 : decode b_Mo_proved 173 = .ok (.iload_n 1, 1) := by decide +kernel
theorem d_Mo_proved_174 : decode b_Mo_proved 174 = .ok (.iload_n 2, 1) := by decide +kernel
theorem d_Mo_proved_175 : decode b_Mo_proved 175 = .ok (.invokevirtual 200, 3) := by decide +kernel
theorem d_Mo_proved_178 : decode b_Mo_proved 178 = .ok (.istore 5, 2) := by decide +kernel
theorem d_Mo_proved_180 : decode b_Mo_proved 180 = .ok (.iload 5, 2) := by decide +kernel
theorem d_Mo_proved_182 : decode b_Mo_proved 182 = .ok (.iconst 0, 1) := by decide +kernel
theorem d_Mo_proved_183 : decode b_Mo_proved 183 = .ok (.invokestatic 203, 3) := by decide +kernel
theorem d_Mo_proved_186 : decode b_Mo_proved 186 = .ok (.istore 6, 2) := by decide +kernel
theorem d_Mo_proved_188 : decode b_Mo_proved 188 = .ok (.iload 4, 2) := by decide +kernel
theorem d_Mo_proved_190 : decode b_Mo_proved 190 = .ok (.iconst 0, 1) := by decide +kernel
theorem d_Mo_proved_191 : decode b_Mo_proved 191 = .ok (.invokestatic 203, 3) := by decide +kernel
theorem d_Mo_proved_194 : decode b_Mo_proved 194 = .ok (.istore 7, 2) := by decide +kernel
theorem d_Mo_proved_196 : decode b_Mo_proved 196 = .ok (.iload 6, 2) := by decide +kernel
theorem d_Mo_proved_198 : decode b_Mo_proved 198 = .ok (.iconst 2, 1) := by decide +kernel
theorem d_Mo_proved_199 : decode b_Mo_proved 199 = .ok (.if_icmp .ne 22, 3) := by decide +kernel
theorem d_Mo_proved_202 : decode b_Mo_proved 202 = .ok (.iload 5, 2) := by decide +kernel
theorem d_Mo_proved_204 : decode b_Mo_proved 204 = .ok (.iconst 1, 1) := by decide +kernel
theorem d_Mo_proved_205 : decode b_Mo_proved 205 = .ok (.invokestatic 203, 3) := by decide +kernel
theorem d_Mo_proved_208 : decode b_Mo_proved 208 = .ok (.iload 4, 2) := by decide +kernel
theorem d_Mo_proved_210 : decode b_Mo_proved 210 = .ok (.iconst 1, 1) := by decide +kernel
theorem d_Mo_proved_211 : decode b_Mo_proved 211 = .ok (.invokestatic 203, 3) := by decide +kernel
theorem d_Mo_proved_214 : decode b_Mo_proved 214 = .ok (.if_icmp .ne 7, 3) := by decide +kernel
theorem d_Mo_proved_217 : decode b_Mo_proved 217 = .ok (.iconst 1, 1) := by decide +kernel
theorem d_Mo_proved_218 : decode b_Mo_proved 218 = .ok (.goto 4, 3) := by decide +kernel
theorem d_Mo_proved_221 : decode b_Mo_proved 221 = .ok (.iconst 0, 1) := by decide +kernel
theorem d_Mo_proved_222 : decode b_Mo_proved 222 = .ok (.istore 8, 2) := by decide +kernel
theorem d_Mo_proved_224 : decode b_Mo_proved 224 = .ok (.iload 6, 2) := by decide +kernel
theorem d_Mo_proved_226 : decode b_Mo_proved 226 = .ok (.iconst 3, 1) := by decide +kernel
theorem d_Mo_proved_227 : decode b_Mo_proved 227 = .ok (.if_icmp .ne 52, 3) := by decide +kernel
theorem d_Mo_proved_230 : decode b_Mo_proved 230 = .ok (.iload 5, 2) := by decide +kernel
theorem d_Mo_proved_232 : decode b_Mo_proved 232 = .ok (.iconst 2, 1) := by decide +kernel
theorem d_Mo_proved_233 : decode b_Mo_proved 233 = .ok (.invokestatic 203, 3) := by decide +kernel
theorem d_Mo_proved_236 : decode b_Mo_proved 236 = .ok (.iload 4, 2) := by decide +kernel
theorem d_Mo_proved_238 : decode b_Mo_proved 238 = .ok (.iconst 1, 1) := by decide +kernel
theorem d_Mo_proved_239 : decode b_Mo_proved 239 = .ok (.invokestatic 203, 3) := by decide +kernel
theorem d_Mo_proved_242 : decode b_Mo_proved 242 = .ok (.if_icmp .ne 37, 3) := by decide +kernel
theorem d_Mo_proved_245 : decode b_Mo_proved 245 = .ok (.iload 5, 2) := by decide +kernel
theorem d_Mo_proved_247 : decode b_Mo_proved 247 = .ok (.iconst 3, 1) := by decide +kernel
theorem d_Mo_proved_248 : decode b_Mo_proved 248 = .ok (.invokestatic 203, 3) := by decide +kernel
theorem d_Mo_proved_251 : decode b_Mo_proved 251 = .ok (.iload 4, 2) := by decide +kernel
theorem d_Mo_proved_253 : decode b_Mo_proved 253 = .ok (.iconst 3, 1) := by decide +kernel
theorem d_Mo_proved_254 : decode b_Mo_proved 254 = .ok (.invokestatic 203, 3) := by decide +kernel
theorem d_Mo_proved_257 : decode b_Mo_proved 257 = .ok (.if_icmp .ne 22, 3) := by decide +kernel
theorem d_Mo_proved_260 : decode b_Mo_proved 260 = .ok (.iload 5, 2) := by decide +kernel
theorem d_Mo_proved_262 : decode b_Mo_proved 262 = .ok (.iconst 4, 1) := by decide +kernel
theorem d_Mo_proved_263 : decode b_Mo_proved 263 = .ok (.invokestatic 203, 3) := by decide +kernel
theorem d_Mo_proved_266 : decode b_Mo_proved 266 = .ok (.iload 4, 2) := by decide +kernel
theorem d_Mo_proved_268 : decode b_Mo_proved 268 = .ok (.iconst 4, 1) := by decide +kernel
theorem d_Mo_proved_269 : decode b_Mo_proved 269 = .ok (.invokestatic 203, 3) := by decide +kernel
theorem d_Mo_proved_272 : decode b_Mo_proved 272 = .ok (.if_icmp .ne 7, 3) := by decide +kernel
theorem d_Mo_proved_275 : decode b_Mo_proved 275 = .ok (.iconst 1, 1) := by decide +kernel
theorem d_Mo_proved_276 : decode b_Mo_proved 276 = .ok (.goto 4, 3) := by decide +kernel
theorem d_Mo_proved_279 : decode b_Mo_proved 279 = .ok (.iconst 0, 1) := by decide +kernel
theorem d_Mo_proved_280 : decode b_Mo_proved 280 = .ok (.istore 9, 2) := by decide +kernel
theorem d_Mo_proved_282 : decode b_Mo_proved 282 = .ok (.iload_n 3, 1) := by decide +kernel
theorem d_Mo_proved_283 : decode b_Mo_proved 283 = .ok (.iconst 2, 1) := by decide +kernel
theorem d_Mo_proved_284 : decode b_Mo_proved 284 = .ok (.if_icmp .ne 48, 3) := by decide +kernel
theorem d_Mo_proved_287 : decode b_Mo_proved 287 = .ok (.iload 8, 2) := by decide +kernel
theorem d_Mo_proved_289 : decode b_Mo_proved 289 = .ok (.ifCond .eq 41, 3) := by decide +kernel
theorem d_Mo_proved_292 : decode b_Mo_proved 292 = .ok (.iload 7, 2) := by decide +kernel
theorem d_Mo_proved_294 : decode b_Mo_proved 294 = .ok (.iconst 1, 1) := by decide +kernel
theorem d_Mo_proved_295 : decode b_Mo_proved 295 = .ok (.if_icmp .ne 35, 3) := by decide +kernel
theorem d_Mo_proved_298 : decode b_Mo_proved 298 = .ok (.iconst 1, 1) := by decide +kernel
theorem d_Mo_proved_299 : decode b_Mo_proved 299 = .ok (.iload 5, 2) := by decide +kernel
theorem d_Mo_proved_301 : decode b_Mo_proved 301 = .ok (.iconst 2, 1) := by decide +kernel
theorem d_Mo_proved_302 : decode b_Mo_proved 302 = .ok (.invokestatic 203, 3) := by decide +kernel
theorem d_Mo_proved_305 : decode b_Mo_proved 305 = .ok (.iload 4, 2) := by decide +kernel
theorem d_Mo_proved_307 : decode b_Mo_proved 307 = .ok (.iconst 2, 1) := by decide +kernel
theorem d_Mo_proved_308 : decode b_Mo_proved 308 = .ok (.invokestatic 203, 3) := by decide +kernel
theorem d_Mo_proved_311 : decode b_Mo_proved 311 = .ok (.iload 4, 2) := by decide +kernel
theorem d_Mo_proved_313 : decode b_Mo_proved 313 = .ok (.iconst 3, 1) := by decide +kernel
theorem d_Mo_proved_314 : decode b_Mo_proved 314 = .ok (.invokestatic 203, 3) := by decide +kernel
theorem d_Mo_proved_317 : decode b_Mo_proved 317 = .ok (.iload 4, 2) := by decide +kernel
theorem d_Mo_proved_319 : decode b_Mo_proved 319 = .ok (.iconst 4, 1) := by decide +kernel
theorem d_Mo_proved_320 : decode b_Mo_proved 320 = .ok (.invokestatic 203, 3) := by decide +kernel
theorem d_Mo_proved_323 : decode b_Mo_proved 323 = .ok (.iconst 0, 1) := by decide +kernel
theorem d_Mo_proved_324 : decode b_Mo_proved 324 = .ok (.invokestatic 206, 3) := by decide +kernel
theorem d_Mo_proved_327 : decode b_Mo_proved 327 = .ok (.goto 4, 3) := by decide +kernel
theorem d_Mo_proved_330 : decode b_Mo_proved 330 = .ok (.iconst 0, 1) := by decide +kernel
theorem d_Mo_proved_331 : decode b_Mo_proved 331 = .ok (.ireturn, 1) := by decide +kernel
theorem d_Mo_proved_332 : decode b_Mo_proved 332 = .ok (.iload_n 3, 1) := by decide +kernel
theorem d_Mo_proved_333 : decode b_Mo_proved 333 = .ok (.iconst 3, 1) := by decide +kernel
theorem d_Mo_proved_334 : decode b_Mo_proved 334 = .ok (.if_icmp .ne 48, 3) := by decide +kernel
theorem d_Mo_proved_337 : decode b_Mo_proved 337 = .ok (.iload 9, 2) := by decide +kernel
theorem d_Mo_proved_339 : decode b_Mo_proved 339 = .ok (.ifCond .eq 41, 3) := by decide +kernel
theorem d_Mo_proved_342 : decode b_Mo_proved 342 = .ok (.iload 7, 2) := by decide +kernel
theorem d_Mo_proved_344 : decode b_Mo_proved 344 = .ok (.iconst 1, 1) := by decide +kernel
theorem d_Mo_proved_345 : decode b_Mo_proved 345 = .ok (.if_icmp .ne 35, 3) := by decide +kernel
theorem d_Mo_proved_348 : decode b_Mo_proved 348 = .ok (.iconst 1, 1) := by decide +kernel
theorem d_Mo_proved_349 : decode b_Mo_proved 349 = .ok (.iload 5, 2) := by decide +kernel
theorem d_Mo_proved_351 : decode b_Mo_proved 351 = .ok (.iconst 1, 1) := by decide +kernel
theorem d_Mo_proved_352 : decode b_Mo_proved 352 = .ok (.invokestatic 203, 3) := by decide +kernel
theorem d_Mo_proved_355 : decode b_Mo_proved 355 = .ok (.iload 4, 2) := by decide +kernel
theorem d_Mo_proved_357 : decode b_Mo_proved 357 = .ok (.iconst 2, 1) := by decide +kernel
theorem d_Mo_proved_358 : decode b_Mo_proved 358 = .ok (.invokestatic 203, 3) := by decide +kernel
theorem d_Mo_proved_361 : decode b_Mo_proved 361 = .ok (.iload 4, 2) := by decide +kernel
theorem d_Mo_proved_363 : decode b_Mo_proved 363 = .ok (.iconst 3, 1) := by decide +kernel
theorem d_Mo_proved_364 : decode b_Mo_proved 364 = .ok (.invokestatic 203, 3) := by decide +kernel
theorem d_Mo_proved_367 : decode b_Mo_proved 367 = .ok (.iload 4, 2) := by decide +kernel
theorem d_Mo_proved_369 : decode b_Mo_proved 369 = .ok (.iconst 4, 1) := by decide +kernel
theorem d_Mo_proved_370 : decode b_Mo_proved 370 = .ok (.invokestatic 203, 3) := by decide +kernel
theorem d_Mo_proved_373 : decode b_Mo_proved 373 = .ok (.iconst 0, 1) := by decide +kernel
theorem d_Mo_proved_374 : decode b_Mo_proved 374 = .ok (.invokestatic 206, 3) := by decide +kernel
theorem d_Mo_proved_377 : decode b_Mo_proved 377 = .ok (.goto 4, 3) := by decide +kernel
theorem d_Mo_proved_380 : decode b_Mo_proved 380 = .ok (.iconst 0, 1) := by decide +kernel
theorem d_Mo_proved_381 : decode b_Mo_proved 381 = .ok (.ireturn, 1) := by decide +kernel
theorem d_Mo_proved_382 : decode b_Mo_proved 382 = .ok (.iload_n 3, 1) := by decide +kernel
theorem d_Mo_proved_383 : decode b_Mo_proved 383 = .ok (.iconst 5, 1) := by decide +kernel
theorem d_Mo_proved_384 : decode b_Mo_proved 384 = .ok (.if_icmp .ne 53, 3) := by decide +kernel
theorem d_Mo_proved_387 : decode b_Mo_proved 387 = .ok (.iload 8, 2) := by decide +kernel
theorem d_Mo_proved_389 : decode b_Mo_proved 389 = .ok (.ifCond .eq 46, 3) := by decide +kernel
theorem d_Mo_proved_392 : decode b_Mo_proved 392 = .ok (.iload 7, 2) := by decide +kernel
theorem d_Mo_proved_394 : decode b_Mo_proved 394 = .ok (.iconst 3, 1) := by decide +kernel
theorem d_Mo_proved_395 : decode b_Mo_proved 395 = .ok (.if_icmp .ne 40, 3) := by decide +kernel
theorem d_Mo_proved_398 : decode b_Mo_proved 398 = .ok (.iconst 3, 1) := by decide +kernel
theorem d_Mo_proved_399 : decode b_Mo_proved 399 = .ok (.iload 5, 2) := by decide +kernel
theorem d_Mo_proved_401 : decode b_Mo_proved 401 = .ok (.iconst 2, 1) := by decide +kernel
theorem d_Mo_proved_402 : decode b_Mo_proved 402 = .ok (.invokestatic 203, 3) := by decide +kernel
theorem d_Mo_proved_405 : decode b_Mo_proved 405 = .ok (.iload 4, 2) := by decide +kernel
theorem d_Mo_proved_407 : decode b_Mo_proved 407 = .ok (.iconst 2, 1) := by decide +kernel
theorem d_Mo_proved_408 : decode b_Mo_proved 408 = .ok (.invokestatic 203, 3) := by decide +kernel
theorem d_Mo_proved_411 : decode b_Mo_proved 411 = .ok (.iload 4, 2) := by decide +kernel
theorem d_Mo_proved_413 : decode b_Mo_proved 413 = .ok (.iconst 3, 1) := by decide +kernel
theorem d_Mo_proved_414 : decode b_Mo_proved 414 = .ok (.invokestatic 203, 3) := by decide +kernel
theorem d_Mo_proved_417 : decode b_Mo_proved 417 = .ok (.iload 4, 2) := by decide +kernel
theorem d_Mo_proved_419 : decode b_Mo_proved 419 = .ok (.iconst 4, 1) := by decide +kernel
theorem d_Mo_proved_420 : decode b_Mo_proved 420 = .ok (.invokestatic 203, 3) := by decide +kernel
theorem d_Mo_proved_423 : decode b_Mo_proved 423 = .ok (.iload 4, 2) := by decide +kernel
theorem d_Mo_proved_425 : decode b_Mo_proved 425 = .ok (.iconst 5, 1) := by decide +kernel
theorem d_Mo_proved_426 : decode b_Mo_proved 426 = .ok (.invokestatic 203, 3) := by decide +kernel
theorem d_Mo_proved_429 : decode b_Mo_proved 429 = .ok (.invokestatic 206, 3) := by decide +kernel
theorem d_Mo_proved_432 : decode b_Mo_proved 432 = .ok (.goto 4, 3) := by decide +kernel
theorem d_Mo_proved_435 : decode b_Mo_proved 435 = .ok (.iconst 0, 1) := by decide +kernel
theorem d_Mo_proved_436 : decode b_Mo_proved 436 = .ok (.ireturn, 1) := by decide +kernel
theorem d_Mo_proved_437 : decode b_Mo_proved 437 = .ok (.iload_n 3, 1) := by decide +kernel
theorem d_Mo_proved_438 : decode b_Mo_proved 438 = .ok (.bipush 6, 2) := by decide +kernel
theorem d_Mo_proved_440 : decode b_Mo_proved 440 = .ok (.if_icmp .ne 54, 3) := by decide +kernel
theorem d_Mo_proved_443 : decode b_Mo_proved 443 = .ok (.iload 6, 2) := by decide +kernel
theorem d_Mo_proved_445 : decode b_Mo_proved 445 = .ok (.iconst 2, 1) := by decide +kernel
theorem d_Mo_proved_446 : decode b_Mo_proved 446 = .ok (.if_icmp .ne 46, 3) := by decide +kernel
theorem d_Mo_proved_449 : decode b_Mo_proved 449 = .ok (.iload 7, 2) := by decide +kernel
theorem d_Mo_proved_451 : decode b_Mo_proved 451 = .ok (.iconst 2, 1) := by decide +kernel
theorem d_Mo_proved_452 : decode b_Mo_proved 452 = .ok (.if_icmp .ne 40, 3) := by decide +kernel
theorem d_Mo_proved_455 : decode b_Mo_proved 455 = .ok (.iload 5, 2) := by decide +kernel
theorem d_Mo_proved_457 : decode b_Mo_proved 457 = .ok (.iconst 2, 1) := by decide +kernel
theorem d_Mo_proved_458 : decode b_Mo_proved 458 = .ok (.invokestatic 203, 3) := by decide +kernel
theorem d_Mo_proved_461 : decode b_Mo_proved 461 = .ok (.iload 4, 2) := by decide +kernel
theorem d_Mo_proved_463 : decode b_Mo_proved 463 = .ok (.iconst 1, 1) := by decide +kernel
theorem d_Mo_proved_464 : decode b_Mo_proved 464 = .ok (.invokestatic 203, 3) := by decide +kernel
theorem d_Mo_proved_467 : decode b_Mo_proved 467 = .ok (.if_icmp .ne 25, 3) := by decide +kernel
theorem d_Mo_proved_470 : decode b_Mo_proved 470 = .ok (.iconst 2, 1) := by decide +kernel
theorem d_Mo_proved_471 : decode b_Mo_proved 471 = .ok (.iload 5, 2) := by decide +kernel
theorem d_Mo_proved_473 : decode b_Mo_proved 473 = .ok (.iconst 1, 1) := by decide +kernel
theorem d_Mo_proved_474 : decode b_Mo_proved 474 = .ok (.invokestatic 203, 3) := by decide +kernel
theorem d_Mo_proved_477 : decode b_Mo_proved 477 = .ok (.iload 4, 2) := by decide +kernel
theorem d_Mo_proved_479 : decode b_Mo_proved 479 = .ok (.iconst 2, 1) := by decide +kernel
theorem d_Mo_proved_480 : decode b_Mo_proved 480 = .ok (.invokestatic 203, 3) := by decide +kernel
theorem d_Mo_proved_483 : decode b_Mo_proved 483 = .ok (.iconst 0, 1) := by decide +kernel
theorem d_Mo_proved_484 : decode b_Mo_proved 484 = .ok (.iconst 0, 1) := by decide +kernel
theorem d_Mo_proved_485 : decode b_Mo_proved 485 = .ok (.iconst 0, 1) := by decide +kernel
theorem d_Mo_proved_486 : decode b_Mo_proved 486 = .ok (.invokestatic 206, 3) := by decide +kernel
theorem d_Mo_proved_489 : decode b_Mo_proved 489 = .ok (.goto 4, 3) := by decide +kernel
theorem d_Mo_proved_492 : decode b_Mo_proved 492 = .ok (.iconst 0, 1) := by decide +kernel
theorem d_Mo_proved_493 : decode b_Mo_proved 493 = .ok (.ireturn, 1) := by decide +kernel
theorem d_Mo_proved_494 : decode b_Mo_proved 494 = .ok (.iload 5, 2) := by decide +kernel
theorem d_Mo_proved_496 : decode b_Mo_proved 496 = .ok (.iconst 5, 1) := by decide +kernel
theorem d_Mo_proved_497 : decode b_Mo_proved 497 = .ok (.invokestatic 203, 3) := by decide +kernel
theorem d_Mo_proved_500 : decode b_Mo_proved 500 = .ok (.iconst 1, 1) := by decide +kernel
theorem d_Mo_proved_501 : decode b_Mo_proved 501 = .ok (.isub, 1) := by decide +kernel
theorem d_Mo_proved_502 : decode b_Mo_proved 502 = .ok (.istore 10, 2) := by decide +kernel
theorem d_Mo_proved_504 : decode b_Mo_proved 504 = .ok (.iload 4, 2) := by decide +kernel
theorem d_Mo_proved_506 : decode b_Mo_proved 506 = .ok (.iconst 5, 1) := by decide +kernel
theorem d_Mo_proved_507 : decode b_Mo_proved 507 = .ok (.invokestatic 203, 3) := by decide +kernel
theorem d_Mo_proved_510 : decode b_Mo_proved 510 = .ok (.istore 11, 2) := by decide +kernel
theorem d_Mo_proved_512 : decode b_Mo_proved 512 = .ok (.iload 9, 2) := by decide +kernel
theorem d_Mo_proved_514 : decode b_Mo_proved 514 = .ok (.ifCond .eq 59, 3) := by decide +kernel
theorem d_Mo_proved_517 : decode b_Mo_proved 517 = .ok (.iload 7, 2) := by decide +kernel
theorem d_Mo_proved_519 : decode b_Mo_proved 519 = .ok (.iconst 3, 1) := by decide +kernel
theorem d_Mo_proved_520 : decode b_Mo_proved 520 = .ok (.if_icmp .ne 53, 3) := by decide +kernel
theorem d_Mo_proved_523 : decode b_Mo_proved 523 = .ok (.iload 10, 2) := by decide +kernel
theorem d_Mo_proved_525 : decode b_Mo_proved 525 = .ok (.ifCond .lt 48, 3) := by decide +kernel
theorem d_Mo_proved_528 : decode b_Mo_proved 528 = .ok (.iconst 3, 1) := by decide +kernel
theorem d_Mo_proved_529 : decode b_Mo_proved 529 = .ok (.iload 5, 2) := by decide +kernel
theorem d_Mo_proved_531 : decode b_Mo_proved 531 = .ok (.iconst 1, 1) := by decide +kernel
theorem d_Mo_proved_532 : decode b_Mo_proved 532 = .ok (.invokestatic 203, 3) := by decide +kernel
theorem d_Mo_proved_535 : decode b_Mo_proved 535 = .ok (.iload 4, 2) := by decide +kernel
theorem d_Mo_proved_537 : decode b_Mo_proved 537 = .ok (.iconst 2, 1) := by decide +kernel
theorem d_Mo_proved_538 : decode b_Mo_proved 538 = .ok (.invokestatic 203, 3) := by decide +kernel
theorem d_Mo_proved_541 : decode b_Mo_proved 541 = .ok (.iload 4, 2) := by decide +kernel
theorem d_Mo_proved_543 : decode b_Mo_proved 543 = .ok (.iconst 3, 1) := by decide +kernel
theorem d_Mo_proved_544 : decode b_Mo_proved 544 = .ok (.invokestatic 203, 3) := by decide +kernel
theorem d_Mo_proved_547 : decode b_Mo_proved 547 = .ok (.iload 4, 2) := by decide +kernel
theorem d_Mo_proved_549 : decode b_Mo_proved 549 = .ok (.iconst 4, 1) := by decide +kernel
theorem d_Mo_proved_550 : decode b_Mo_proved 550 = .ok (.invokestatic 203, 3) := by decide +kernel
theorem d_Mo_proved_553 : decode b_Mo_proved 553 = .ok (.iload 10, 2) := by decide +kernel
theorem d_Mo_proved_555 : decode b_Mo_proved 555 = .ok (.iload 11, 2) := by decide +kernel
theorem d_Mo_proved_557 : decode b_Mo_proved 557 = .ok (.if_icmp .ge 8, 3) := by decide +kernel
theorem d_Mo_proved_560 : decode b_Mo_proved 560 = .ok (.iload 10, 2) := by decide +kernel
theorem d_Mo_proved_562 : decode b_Mo_proved 562 = .ok (.goto 5, 3) := by decide +kernel
theorem d_Mo_proved_565 : decode b_Mo_proved 565 = .ok (.iload 11, 2) := by decide +kernel
theorem d_Mo_proved_567 : decode b_Mo_proved 567 = .ok (.invokestatic 206, 3) := by decide +kernel
theorem d_Mo_proved_570 : decode b_Mo_proved 570 = .ok (.goto 4, 3) := by decide +kernel
theorem d_Mo_proved_573 : decode b_Mo_proved 573 = .ok (.iconst 0, 1) := by decide +kernel
theorem d_Mo_proved_574 : decode b_Mo_proved 574 = .ok (.ireturn, 1) := by decide +kernel
theorem d_Mo_spoken_0 : decode b_Mo_spoken 0 = .ok (.aload_n 0, 1) := by decide +kernel
theorem d_Mo_spoken_1 : decode b_Mo_spoken 1 = .ok (.getfield 23, 3) := by decide +kernel
theorem d_Mo_spoken_4 : decode b_Mo_spoken 4 = .ok (.iload_n 1, 1) := by decide +kernel
theorem d_Mo_spoken_5 : decode b_Mo_spoken 5 = .ok (.iaload, 1) := by decide +kernel
theorem d_Mo_spoken_6 : decode b_Mo_spoken 6 = .ok (.ifCond .ne 33, 3) := by decide +kernel
theorem d_Mo_spoken_9 : decode b_Mo_spoken 9 = .ok (.iconst 1, 1) := by decide +kernel
theorem d_Mo_spoken_10 : decode b_Mo_spoken 10 = .ok (.aload_n 0, 1) := by decide +kernel
theorem d_Mo_spoken_11 : decode b_Mo_spoken 11 = .ok (.getfield 20, 3) := by decide +kernel
theorem d_Mo_spoken_14 : decode b_Mo_spoken 14 = .ok (.iload_n 1, 1) := by decide +kernel
theorem d_Mo_spoken_15 : decode b_Mo_spoken 15 = .ok (.iaload, 1) := by decide +kernel
theorem d_Mo_spoken_16 : decode b_Mo_spoken 16 = .ok (.aload_n 0, 1) := by decide +kernel
theorem d_Mo_spoken_17 : decode b_Mo_spoken 17 = .ok (.getfield 26, 3) := by decide +kernel
theorem d_Mo_spoken_20 : decode b_Mo_spoken 20 = .ok (.iload_n 1, 1) := by decide +kernel
theorem d_Mo_spoken_21 : decode b_Mo_spoken 21 = .ok (.iaload, 1) := by decide +kernel
theorem d_Mo_spoken_22 : decode b_Mo_spoken 22 = .ok (.aload_n 0, 1) := by decide +kernel
theorem d_Mo_spoken_23 : decode b_Mo_spoken 23 = .ok (.getfield 29, 3) := by decide +kernel
theorem d_Mo_spoken_26 : decode b_Mo_spoken 26 = .ok (.iload_n 1, 1) := by decide +kernel
theorem d_Mo_spoken_27 : decode b_Mo_spoken 27 = .ok (.iaload, 1) := by decide +kernel
theorem d_Mo_spoken_28 : decode b_Mo_spoken 28 = .ok (.aload_n 0, 1) := by decide +kernel
theorem d_Mo_spoken_29 : decode b_Mo_spoken 29 = .ok (.getfield 32, 3) := by decide +kernel
theorem d_Mo_spoken_32 : decode b_Mo_spoken 32 = .ok (.iload_n 1, 1) := by decide +kernel
theorem d_Mo_spoken_33 : decode b_Mo_spoken 33 = .ok (.iaload, 1) := by decide +kernel
theorem d_Mo_spoken_34 : decode b_Mo_spoken 34 = .ok (.iconst 0, 1) := by decide +kernel
theorem d_Mo_spoken_35 : decode b_Mo_spoken 35 = .ok (.invokestatic 206, 3) := by decide +kernel
theorem d_Mo_spoken_38 : decode b_Mo_spoken 38 = .ok (.ireturn, 1) := by decide +kernel
theorem d_Mo_spoken_39 : decode b_Mo_spoken 39 = .ok (.aload_n 0, 1) := by decide +kernel
theorem d_Mo_spoken_40 : decode b_Mo_spoken 40 = .ok (.getfield 23, 3) := by decide +kernel
theorem d_Mo_spoken_43 : decode b_Mo_spoken 43 = .ok (.iload_n 1, 1) := by decide +kernel
theorem d_Mo_spoken_44 : decode b_Mo_spoken 44 = .ok (.iaload, 1) := by decide +kernel
theorem d_Mo_spoken_45 : decode b_Mo_spoken 45 = .ok (.iconst 1, 1) := by decide +kernel
theorem d_Mo_spoken_46 : decode b_Mo_spoken 46 = .ok (.if_icmp .ne 23, 3) := by decide +kernel
theorem d_Mo_spoken_49 : decode b_Mo_spoken 49 = .ok (.iconst 2, 1) := by decide +kernel
theorem d_Mo_spoken_50 : decode b_Mo_spoken 50 = .ok (.aload_n 0, 1) := by decide +kernel
theorem d_Mo_spoken_51 : decode b_Mo_spoken 51 = .ok (.getfield 26, 3) := by decide +kernel
theorem d_Mo_spoken_54 : decode b_Mo_spoken 54 = .ok (.iload_n 1, 1) := by decide +kernel
theorem d_Mo_spoken_55 : decode b_Mo_spoken 55 = .ok (.iaload, 1) := by decide +kernel
theorem d_Mo_spoken_56 : decode b_Mo_spoken 56 = .ok (.aload_n 0, 1) := by decide +kernel
theorem d_Mo_spoken_57 : decode b_Mo_spoken 57 = .ok (.getfield 20, 3) := by decide +kernel
theorem d_Mo_spoken_60 : decode b_Mo_spoken 60 = .ok (.iload_n 1, 1) := by decide +kernel
theorem d_Mo_spoken_61 : decode b_Mo_spoken 61 = .ok (.iaload, 1) := by decide +kernel
theorem d_Mo_spoken_62 : decode b_Mo_spoken 62 = .ok (.iconst 0, 1) := by decide +kernel
theorem d_Mo_spoken_63 : decode b_Mo_spoken 63 = .ok (.iconst 0, 1) := by decide +kernel
theorem d_Mo_spoken_64 : decode b_Mo_spoken 64 = .ok (.iconst 0, 1) := by decide +kernel
theorem d_Mo_spoken_65 : decode b_Mo_spoken 65 = .ok (.invokestatic 206, 3) := by decide +kernel
theorem d_Mo_spoken_68 : decode b_Mo_spoken 68 = .ok (.ireturn, 1) := by decide +kernel
theorem d_Mo_spoken_69 : decode b_Mo_spoken 69 = .ok (.aload_n 0, 1) := by decide +kernel
theorem d_Mo_spoken_70 : decode b_Mo_spoken 70 = .ok (.getfield 23, 3) := by decide +kernel
theorem d_Mo_spoken_73 : decode b_Mo_spoken 73 = .ok (.iload_n 1, 1) := by decide +kernel
theorem d_Mo_spoken_74 : decode b_Mo_spoken 74 = .ok (.iaload, 1) := by decide +kernel
theorem d_Mo_spoken_75 : decode b_Mo_spoken 75 = .ok (.iconst 2, 1) := by decide +kernel
theorem d_Mo_spoken_76 : decode b_Mo_spoken 76 = .ok (.if_icmp .ne 40, 3) := by decide +kernel
theorem d_Mo_spoken_79 : decode b_Mo_spoken 79 = .ok (.iconst 3, 1) := by decide +kernel
theorem d_Mo_spoken_80 : decode b_Mo_spoken 80 = .ok (.aload_n 0, 1) := by decide +kernel
theorem d_Mo_spoken_81 : decode b_Mo_spoken 81 = .ok (.getfield 20, 3) := by decide +kernel
theorem d_Mo_spoken_84 : decode b_Mo_spoken 84 = .ok (.iload_n 1, 1) := by decide +kernel
theorem d_Mo_spoken_85 : decode b_Mo_spoken 85 = .ok (.iaload, 1) := by decide +kernel
theorem d_Mo_spoken_86 : decode b_Mo_spoken 86 = .ok (.aload_n 0, 1) := by decide +kernel
theorem d_Mo_spoken_87 : decode b_Mo_spoken 87 = .ok (.getfield 26, 3) := by decide +kernel
theorem d_Mo_spoken_90 : decode b_Mo_spoken 90 = .ok (.iload_n 1, 1) := by decide +kernel
theorem d_Mo_spoken_91 : decode b_Mo_spoken 91 = .ok (.iaload, 1) := by decide +kernel
theorem d_Mo_spoken_92 : decode b_Mo_spoken 92 = .ok (.aload_n 0, 1) := by decide +kernel
theorem d_Mo_spoken_93 : decode b_Mo_spoken 93 = .ok (.getfield 29, 3) := by decide +kernel
theorem d_Mo_spoken_96 : decode b_Mo_spoken 96 = .ok (.iload_n 1, 1) := by decide +kernel
theorem d_Mo_spoken_97 : decode b_Mo_spoken 97 = .ok (.iaload, 1) := by decide +kernel
theorem d_Mo_spoken_98 : decode b_Mo_spoken 98 = .ok (.aload_n 0, 1) := by decide +kernel
theorem d_Mo_spoken_99 : decode b_Mo_spoken 99 = .ok (.getfield 32, 3) := by decide +kernel
theorem d_Mo_spoken_102 : decode b_Mo_spoken 102 = .ok (.iload_n 1, 1) := by decide +kernel
theorem d_Mo_spoken_103 : decode b_Mo_spoken 103 = .ok (.iaload, 1) := by decide +kernel
theorem d_Mo_spoken_104 : decode b_Mo_spoken 104 = .ok (.aload_n 0, 1) := by decide +kernel
theorem d_Mo_spoken_105 : decode b_Mo_spoken 105 = .ok (.getfield 35, 3) := by decide +kernel
theorem d_Mo_spoken_108 : decode b_Mo_spoken 108 = .ok (.iload_n 1, 1) := by decide +kernel
theorem d_Mo_spoken_109 : decode b_Mo_spoken 109 = .ok (.iaload, 1) := by decide +kernel
theorem d_Mo_spoken_110 : decode b_Mo_spoken 110 = .ok (.invokestatic 206, 3) := by decide +kernel
theorem d_Mo_spoken_113 : decode b_Mo_spoken 113 = .ok (.goto 4, 3) := by decide +kernel
theorem d_Mo_spoken_116 : decode b_Mo_spoken 116 = .ok (.iconst 0, 1) := by decide +kernel
theorem d_Mo_spoken_117 : decode b_Mo_spoken 117 = .ok (.ireturn, 1) := by decide +kernel
theorem d_Mo_proves_0 : decode b_Mo_proves 0 = .ok (.aload_n 0, 1) := by decide +kernel
theorem d_Mo_proves_1 : decode b_Mo_proves 1 = .ok (.getfield 103, 3) := by decide +kernel
theorem d_Mo_proves_4 : decode b_Mo_proves 4 = .ok (.ifCond .le 7, 3) := by decide +kernel
theorem d_Mo_proves_7 : decode b_Mo_proves 7 = .ok (.iconst 1, 1) := by decide +kernel
theorem d_Mo_proves_8 : decode b_Mo_proves 8 = .ok (.goto 4, 3) := by decide +kernel
theorem d_Mo_proves_11 : decode b_Mo_proves 11 = .ok (.iconst 0, 1) := by decide +kernel
theorem d_Mo_proves_12 : decode b_Mo_proves 12 = .ok (.istore 5, 2) := by decide +kernel
theorem d_Mo_proves_14 : decode b_Mo_proves 14 = .ok (.iconst 0, 1) := by decide +kernel
theorem d_Mo_proves_15 : decode b_Mo_proves 15 = .ok (.istore 6, 2) := by decide +kernel
theorem d_Mo_proves_17 : decode b_Mo_proves 17 = .ok (.iload 6, 2) := by decide +kernel
theorem d_Mo_proves_19 : decode b_Mo_proves 19 = .ok (.aload_n 0, 1) := by decide +kernel
theorem d_Mo_proves_20 : decode b_Mo_proves 20 = .ok (.getfield 103, 3) := by decide +kernel
theorem d_Mo_proves_23 : decode b_Mo_proves 23 = .ok (.if_icmp .ge 44, 3) := by decide +kernel
theorem d_Mo_proves_26 : decode b_Mo_proves 26 = .ok (.iload 5, 2) := by decide +kernel
theorem d_Mo_proves_28 : decode b_Mo_proves 28 = .ok (.ifCond .eq 39, 3) := by decide +kernel
theorem d_Mo_proves_31 : decode b_Mo_proves 31 = .ok (.aload_n 0, 1) := by decide +kernel
theorem d_Mo_proves_32 : decode b_Mo_proves 32 = .ok (.getfield 59, 3) := by decide +kernel
theorem d_Mo_proves_35 : decode b_Mo_proves 35 = .ok (.iload 6, 2) := by decide +kernel
theorem d_Mo_proves_37 : decode b_Mo_proves 37 = .ok (.aload_n 0, 1) := by decide +kernel
theorem d_Mo_proves_38 : decode b_Mo_proves 38 = .ok (.iload 6, 2) := by decide +kernel
theorem d_Mo_proves_40 : decode b_Mo_proves 40 = .ok (.invokevirtual 210, 3) := by decide +kernel
theorem d_Mo_proves_43 : decode b_Mo_proves 43 = .ok (.iastore, 1) := by decide +kernel
theorem d_Mo_proves_44 : decode b_Mo_proves 44 = .ok (.aload_n 0, 1) := by decide +kernel
theorem d_Mo_proves_45 : decode b_Mo_proves 45 = .ok (.getfield 59, 3) := by decide +kernel
theorem d_Mo_proves_48 : decode b_Mo_proves 48 = .ok (.iload 6, 2) := by decide +kernel
theorem d_Mo_proves_50 : decode b_Mo_proves 50 = .ok (.iaload, 1) := by decide +kernel
theorem d_Mo_proves_51 : decode b_Mo_proves 51 = .ok (.ifCond .eq 7, 3) := by decide +kernel
theorem d_Mo_proves_54 : decode b_Mo_proves 54 = .ok (.iconst 1, 1) := by decide +kernel
theorem d_Mo_proves_55 : decode b_Mo_proves 55 = .ok (.goto 4, 3) := by decide +kernel
theorem d_Mo_proves_58 : decode b_Mo_proves 58 = .ok (.iconst 0, 1) := by decide +kernel
theorem d_Mo_proves_59 : decode b_Mo_proves 59 = .ok (.istore 5, 2) := by decide +kernel
theorem d_Mo_proves_61 : decode b_Mo_proves 61 = .ok (.iinc 6 1, 3) := by decide +kernel
theorem d_Mo_proves_64 : decode b_Mo_proves 64 = .ok (.goto (-47), 3) := by decide +kernel
theorem d_Mo_proves_67 : decode b_Mo_proves 67 = .ok (.iload 5, 2) := by decide +kernel
theorem d_Mo_proves_69 : decode b_Mo_proves 69 = .ok (.ifCond .eq 31, 3) := by decide +kernel
theorem d_Mo_proves_72 : decode b_Mo_proves 72 = .ok (.aload_n 0, 1) := by decide +kernel
theorem d_Mo_proves_73 : decode b_Mo_proves 73 = .ok (.getfield 59, 3) := by decide +kernel
theorem d_Mo_proves_76 : decode b_Mo_proves 76 = .ok (.aload_n 0, 1) := by decide +kernel
theorem d_Mo_proves_77 : decode b_Mo_proves 77 = .ok (.getfield 103, 3) := by decide +kernel
theorem d_Mo_proves_80 : decode b_Mo_proves 80 = .ok (.iconst 1, 1) := by decide +kernel
theorem d_Mo_proves_81 : decode b_Mo_proves 81 = .ok (.isub, 1) := by decide +kernel
theorem d_Mo_proves_82 : decode b_Mo_proves 82 = .ok (.iaload, 1) := by decide +kernel
theorem d_Mo_proves_83 : decode b_Mo_proves 83 = .ok (.iconst 1, 1) := by decide +kernel
theorem d_Mo_proves_84 : decode b_Mo_proves 84 = .ok (.iload_n 1, 1) := by decide +kernel
theorem d_Mo_proves_85 : decode b_Mo_proves 85 = .ok (.iload_n 2, 1) := by decide +kernel
theorem d_Mo_proves_86 : decode b_Mo_proves 86 = .ok (.iload_n 3, 1) := by decide +kernel
theorem d_Mo_proves_87 : decode b_Mo_proves 87 = .ok (.iload 4, 2) := by decide +kernel
theorem d_Mo_proves_89 : decode b_Mo_proves 89 = .ok (.iconst 0, 1) := by decide +kernel
theorem d_Mo_proves_90 : decode b_Mo_proves 90 = .ok (.invokestatic 206, 3) := by decide +kernel
theorem d_Mo_proves_93 : decode b_Mo_proves 93 = .ok (.if_icmp .ne 7, 3) := by decide +kernel
theorem d_Mo_proves_96 : decode b_Mo_proves 96 = .ok (.iconst 1, 1) := by decide +kernel
theorem d_Mo_proves_97 : decode b_Mo_proves 97 = .ok (.goto 4, 3) := by decide +kernel
theorem d_Mo_proves_100 : decode b_Mo_proves 100 = .ok (.iconst 0, 1) := by decide +kernel
theorem d_Mo_proves_101 : decode b_Mo_proves 101 = .ok (.ireturn, 1) := by decide +kernel
theorem d_Mo_step_0 : decode b_Mo_step 0 = .ok (.aload_n 0, 1) := by decide +kernel
theorem d_Mo_step_1 : decode b_Mo_step 1 = .ok (.iconst 0, 1) := by decide +kernel
theorem d_Mo_step_2 : decode b_Mo_step 2 = .ok (.putfield 93, 3) := by decide +kernel
theorem d_Mo_step_5 : decode b_Mo_step 5 = .ok (.aload_n 0, 1) := by decide +kernel
theorem d_Mo_step_6 : decode b_Mo_step 6 = .ok (.getfield 103, 3) := by decide +kernel
theorem d_Mo_step_9 : decode b_Mo_step 9 = .ok (.bipush 40, 2) := by decide +kernel
theorem d_Mo_step_11 : decode b_Mo_step 11 = .ok (.if_icmp .ne 5, 3) := by decide +kernel
theorem d_Mo_step_14 : decode b_Mo_step 14 = .ok (.iconst (-1), 1) := by decide +kernel
theorem d_Mo_step_15 : decode b_Mo_step 15 = .ok (.ireturn, 1) := by decide +kernel
theorem d_Mo_step_16 : decode b_Mo_step 16 = .ok (.aload_n 0, 1) := by decide +kernel
theorem d_Mo_step_17 : decode b_Mo_step 17 = .ok (.getfield 50, 3) := by decide +kernel
theorem d_Mo_step_20 : decode b_Mo_step 20 = .ok (.aload_n 0, 1) := by decide +kernel
theorem d_Mo_step_21 : decode b_Mo_step 21 = .ok (.getfield 103, 3) := by decide +kernel
theorem d_Mo_step_24 : decode b_Mo_step 24 = .ok (.iload_n 1, 1) := by decide +kernel
theorem d_Mo_step_25 : decode b_Mo_step 25 = .ok (.iastore, 1) := by decide +kernel
theorem d_Mo_step_26 : decode b_Mo_step 26 = .ok (.aload_n 0, 1) := by decide +kernel
theorem d_Mo_step_27 : decode b_Mo_step 27 = .ok (.getfield 53, 3) := by decide +kernel
theorem d_Mo_step_30 : decode b_Mo_step 30 = .ok (.aload_n 0, 1) := by decide +kernel
theorem d_Mo_step_31 : decode b_Mo_step 31 = .ok (.getfield 103, 3) := by decide +kernel
theorem d_Mo_step_34 : decode b_Mo_step 34 = .ok (.iload_n 2, 1) := by decide +kernel
theorem d_Mo_step_35 : decode b_Mo_step 35 = .ok (.iastore, 1) := by decide +kernel
theorem d_Mo_step_36 : decode b_Mo_step 36 = .ok (.aload_n 0, 1) := by decide +kernel
theorem d_Mo_step_37 : decode b_Mo_step 37 = .ok (.getfield 56, 3) := by decide +kernel
theorem d_Mo_step_40 : decode b_Mo_step 40 = .ok (.aload_n 0, 1) := by decide +kernel
theorem d_Mo_step_41 : decode b_Mo_step 41 = .ok (.getfield 103, 3) := by decide +kernel
theorem d_Mo_step_44 : decode b_Mo_step 44 = .ok (.iload_n 3, 1) := by decide +kernel
theorem d_Mo_step_45 : decode b_Mo_step 45 = .ok (.iastore, 1) := by decide +kernel
theorem d_Mo_step_46 : decode b_Mo_step 46 = .ok (.aload_n 0, 1) := by decide +kernel
theorem d_Mo_step_47 : decode b_Mo_step 47 = .ok (.dup, 1) := by decide +kernel
theorem d_Mo_step_48 : decode b_Mo_step 48 = .ok (.getfield 103, 3) := by decide +kernel
theorem d_Mo_step_51 : decode b_Mo_step 51 = .ok (.iconst 1, 1) := by decide +kernel
theorem d_Mo_step_52 : decode b_Mo_step 52 = .ok (.iadd, 1) := by decide +kernel
theorem d_Mo_step_53 : decode b_Mo_step 53 = .ok (.putfield 103, 3) := by decide +kernel
theorem d_Mo_step_56 : decode b_Mo_step 56 = .ok (.aload_n 0, 1) := by decide +kernel
theorem d_Mo_step_57 : decode b_Mo_step 57 = .ok (.getfield 103, 3) := by decide +kernel
theorem d_Mo_step_60 : decode b_Mo_step 60 = .ok (.iconst 1, 1) := by decide +kernel
theorem d_Mo_step_61 : decode b_Mo_step 61 = .ok (.isub, 1) := by decide +kernel
theorem d_Mo_step_62 : decode b_Mo_step 62 = .ok (.ireturn, 1) := by decide +kernel
theorem d_Mo_clear_0 : decode b_Mo_clear 0 = .ok (.aload_n 0, 1) := by decide +kernel
theorem d_Mo_clear_1 : decode b_Mo_clear 1 = .ok (.iconst 0, 1) := by decide +kernel
theorem d_Mo_clear_2 : decode b_Mo_clear 2 = .ok (.putfield 93, 3) := by decide +kernel
theorem d_Mo_clear_5 : decode b_Mo_clear 5 = .ok (.aload_n 0, 1) := by decide +kernel
theorem d_Mo_clear_6 : decode b_Mo_clear 6 = .ok (.getfield 103, 3) := by decide +kernel
theorem d_Mo_clear_9 : decode b_Mo_clear 9 = .ok (.istore_n 1, 1) := by decide +kernel
theorem d_Mo_clear_10 : decode b_Mo_clear 10 = .ok (.aload_n 0, 1) := by decide +kernel
theorem d_Mo_clear_11 : decode b_Mo_clear 11 = .ok (.iconst 0, 1) := by decide +kernel
theorem d_Mo_clear_12 : decode b_Mo_clear 12 = .ok (.putfield 103, 3) := by decide +kernel
theorem d_Mo_clear_15 : decode b_Mo_clear 15 = .ok (.iload_n 1, 1) := by decide +kernel
theorem d_Mo_clear_16 : decode b_Mo_clear 16 = .ok (.ireturn, 1) := by decide +kernel
theorem d_Mo_steps_0 : decode b_Mo_steps 0 = .ok (.aload_n 0, 1) := by decide +kernel
theorem d_Mo_steps_1 : decode b_Mo_steps 1 = .ok (.iconst 0, 1) := by decide +kernel
theorem d_Mo_steps_2 : decode b_Mo_steps 2 = .ok (.putfield 93, 3) := by decide +kernel
theorem d_Mo_steps_5 : decode b_Mo_steps 5 = .ok (.aload_n 0, 1) := by decide +kernel
theorem d_Mo_steps_6 : decode b_Mo_steps 6 = .ok (.getfield 103, 3) := by decide +kernel
theorem d_Mo_steps_9 : decode b_Mo_steps 9 = .ok (.ireturn, 1) := by decide +kernel
theorem d_Mo_stepAt_0 : decode b_Mo_stepAt 0 = .ok (.aload_n 0, 1) := by decide +kernel
theorem d_Mo_stepAt_1 : decode b_Mo_stepAt 1 = .ok (.iconst 0, 1) := by decide +kernel
theorem d_Mo_stepAt_2 : decode b_Mo_stepAt 2 = .ok (.putfield 93, 3) := by decide +kernel
theorem d_Mo_stepAt_5 : decode b_Mo_stepAt 5 = .ok (.iload_n 1, 1) := by decide +kernel
theorem d_Mo_stepAt_6 : decode b_Mo_stepAt 6 = .ok (.iconst 0, 1) := by decide +kernel
theorem d_Mo_stepAt_7 : decode b_Mo_stepAt 7 = .ok (.aload_n 0, 1) := by decide +kernel
theorem d_Mo_stepAt_8 : decode b_Mo_stepAt 8 = .ok (.getfield 103, 3) := by decide +kernel
theorem d_Mo_stepAt_11 : decode b_Mo_stepAt 11 = .ok (.iconst 1, 1) := by decide +kernel
theorem d_Mo_stepAt_12 : decode b_Mo_stepAt 12 = .ok (.isub, 1) := by decide +kernel
theorem d_Mo_stepAt_13 : decode b_Mo_stepAt 13 = .ok (.invokestatic 106, 3) := by decide +kernel
theorem d_Mo_stepAt_16 : decode b_Mo_stepAt 16 = .ok (.ifCond .eq 12, 3) := by decide +kernel
theorem d_Mo_stepAt_19 : decode b_Mo_stepAt 19 = .ok (.iload_n 2, 1) := by decide +kernel
theorem d_Mo_stepAt_20 : decode b_Mo_stepAt 20 = .ok (.iconst 0, 1) := by decide +kernel
theorem d_Mo_stepAt_21 : decode b_Mo_stepAt 21 = .ok (.iconst 2, 1) := by decide +kernel
theorem d_Mo_stepAt_22 : decode b_Mo_stepAt 22 = .ok (.invokestatic 106, 3) := by decide +kernel
theorem d_Mo_stepAt_25 : decode b_Mo_stepAt 25 = .ok (.ifCond .ne 5, 3) := by decide +kernel
theorem d_Mo_stepAt_28 : decode b_Mo_stepAt 28 = .ok (.iconst (-1), 1) := by decide +kernel
theorem d_Mo_stepAt_29 : decode b_Mo_stepAt 29 = .ok (.ireturn, 1) := by decide +kernel
theorem d_Mo_stepAt_30 : decode b_Mo_stepAt 30 = .ok (.iload_n 2, 1) := by decide +kernel
theorem d_Mo_stepAt_31 : decode b_Mo_stepAt 31 = .ok (.ifCond .ne 12, 3) := by decide +kernel
theorem d_Mo_stepAt_34 : decode b_Mo_stepAt 34 = .ok (.aload_n 0, 1) := by decide +kernel
theorem d_Mo_stepAt_35 : decode b_Mo_stepAt 35 = .ok (.getfield 50, 3) := by decide +kernel
theorem d_Mo_stepAt_38 : decode b_Mo_stepAt 38 = .ok (.iload_n 1, 1) := by decide +kernel
theorem d_Mo_stepAt_39 : decode b_Mo_stepAt 39 = .ok (.iaload, 1) := by decide +kernel
theorem d_Mo_stepAt_40 : decode b_Mo_stepAt 40 = .ok (.goto 23, 3) := by decide +kernel
theorem d_Mo_stepAt_43 : decode b_Mo_stepAt 43 = .ok (.iload_n 2, 1) := by decide +kernel
theorem d_Mo_stepAt_44 : decode b_Mo_stepAt 44 = .ok (.iconst 1, 1) := by decide +kernel
theorem d_Mo_stepAt_45 : decode b_Mo_stepAt 45 = .ok (.if_icmp .ne 12, 3) := by decide +kernel
theorem d_Mo_stepAt_48 : decode b_Mo_stepAt 48 = .ok (.aload_n 0, 1) := by decide +kernel
theorem d_Mo_stepAt_49 : decode b_Mo_stepAt 49 = .ok (.getfield 53, 3) := by decide +kernel
theorem d_Mo_stepAt_52 : decode b_Mo_stepAt 52 = .ok (.iload_n 1, 1) := by decide +kernel
theorem d_Mo_stepAt_53 : decode b_Mo_stepAt 53 = .ok (.iaload, 1) := by decide +kernel
theorem d_Mo_stepAt_54 : decode b_Mo_stepAt 54 = .ok (.goto 9, 3) := by decide +kernel
theorem d_Mo_stepAt_57 : decode b_Mo_stepAt 57 = .ok (.aload_n 0, 1) := by decide +kernel
theorem d_Mo_stepAt_58 : decode b_Mo_stepAt 58 = .ok (.getfield 56, 3) := by decide +kernel
theorem d_Mo_stepAt_61 : decode b_Mo_stepAt 61 = .ok (.iload_n 1, 1) := by decide +kernel
theorem d_Mo_stepAt_62 : decode b_Mo_stepAt 62 = .ok (.iaload, 1) := by decide +kernel
theorem d_Mo_stepAt_63 : decode b_Mo_stepAt 63 = .ok (.ireturn, 1) := by decide +kernel
theorem d_Mo_isGoal_0 : decode b_Mo_isGoal 0 = .ok (.iload_n 1, 1) := by decide +kernel
theorem d_Mo_isGoal_1 : decode b_Mo_isGoal 1 = .ok (.invokestatic 116, 3) := by decide +kernel
theorem d_Mo_isGoal_4 : decode b_Mo_isGoal 4 = .ok (.ifCond .eq 42, 3) := by decide +kernel
theorem d_Mo_isGoal_7 : decode b_Mo_isGoal 7 = .ok (.iload_n 2, 1) := by decide +kernel
theorem d_Mo_isGoal_8 : decode b_Mo_isGoal 8 = .ok (.invokestatic 120, 3) := by decide +kernel
theorem d_Mo_isGoal_11 : decode b_Mo_isGoal 11 = .ok (.ifCond .eq 35, 3) := by decide +kernel
theorem d_Mo_isGoal_14 : decode b_Mo_isGoal 14 = .ok (.iload_n 3, 1) := by decide +kernel
theorem d_Mo_isGoal_15 : decode b_Mo_isGoal 15 = .ok (.iconst 0, 1) := by decide +kernel
theorem d_Mo_isGoal_16 : decode b_Mo_isGoal 16 = .ok (.iconst 5, 1) := by decide +kernel
theorem d_Mo_isGoal_17 : decode b_Mo_isGoal 17 = .ok (.invokestatic 106, 3) := by decide +kernel
theorem d_Mo_isGoal_20 : decode b_Mo_isGoal 20 = .ok (.ifCond .eq 26, 3) := by decide +kernel
theorem d_Mo_isGoal_23 : decode b_Mo_isGoal 23 = .ok (.aload_n 0, 1) := by decide +kernel
theorem d_Mo_isGoal_24 : decode b_Mo_isGoal 24 = .ok (.getfield 7, 3) := by decide +kernel
theorem d_Mo_isGoal_27 : decode b_Mo_isGoal 27 = .ok (.iload_n 3, 1) := by decide +kernel
theorem d_Mo_isGoal_28 : decode b_Mo_isGoal 28 = .ok (.baload, 1) := by decide +kernel
theorem d_Mo_isGoal_29 : decode b_Mo_isGoal 29 = .ok (.iload_n 2, 1) := by decide +kernel
theorem d_Mo_isGoal_30 : decode b_Mo_isGoal 30 = .ok (.iconst 3, 1) := by decide +kernel
theorem d_Mo_isGoal_31 : decode b_Mo_isGoal 31 = .ok (.if_icmp .eq 7, 3) := by decide +kernel
theorem d_Mo_isGoal_34 : decode b_Mo_isGoal 34 = .ok (.iconst 1, 1) := by decide +kernel
theorem d_Mo_isGoal_35 : decode b_Mo_isGoal 35 = .ok (.goto 4, 3) := by decide +kernel
theorem d_Mo_isGoal_38 : decode b_Mo_isGoal 38 = .ok (.iconst 0, 1) := by decide +kernel
theorem d_Mo_isGoal_39 : decode b_Mo_isGoal 39 = .ok (.if_icmp .ne 7, 3) := by decide +kernel
theorem d_Mo_isGoal_42 : decode b_Mo_isGoal 42 = .ok (.iconst 1, 1) := by decide +kernel
theorem d_Mo_isGoal_43 : decode b_Mo_isGoal 43 = .ok (.goto 4, 3) := by decide +kernel
theorem d_Mo_isGoal_46 : decode b_Mo_isGoal 46 = .ok (.iconst 0, 1) := by decide +kernel
theorem d_Mo_isGoal_47 : decode b_Mo_isGoal 47 = .ok (.ireturn, 1) := by decide +kernel
theorem d_Mo_sayer_0 : decode b_Mo_sayer 0 = .ok (.iload_n 1, 1) := by decide +kernel
theorem d_Mo_sayer_1 : decode b_Mo_sayer 1 = .ok (.iconst 3, 1) := by decide +kernel
theorem d_Mo_sayer_2 : decode b_Mo_sayer 2 = .ok (.if_icmp .ne 7, 3) := by decide +kernel
theorem d_Mo_sayer_5 : decode b_Mo_sayer 5 = .ok (.iconst 0, 1) := by decide +kernel
theorem d_Mo_sayer_6 : decode b_Mo_sayer 6 = .ok (.goto 9, 3) := by decide +kernel
theorem d_Mo_sayer_9 : decode b_Mo_sayer 9 = .ok (.aload_n 0, 1) := by decide +kernel
theorem d_Mo_sayer_10 : decode b_Mo_sayer 10 = .ok (.getfield 13, 3) := by decide +kernel
theorem d_Mo_sayer_13 : decode b_Mo_sayer 13 = .ok (.iload_n 2, 1) := by decide +kernel
theorem d_Mo_sayer_14 : decode b_Mo_sayer 14 = .ok (.iaload, 1) := by decide +kernel
theorem d_Mo_sayer_15 : decode b_Mo_sayer 15 = .ok (.ireturn, 1) := by decide +kernel
theorem d_Mo_prove_0 : decode b_Mo_prove 0 = .ok (.aload_n 0, 1) := by decide +kernel
theorem d_Mo_prove_1 : decode b_Mo_prove 1 = .ok (.iconst 0, 1) := by decide +kernel
theorem d_Mo_prove_2 : decode b_Mo_prove 2 = .ok (.putfield 93, 3) := by decide +kernel
theorem d_Mo_prove_5 : decode b_Mo_prove 5 = .ok (.aload_n 0, 1) := by decide +kernel
theorem d_Mo_prove_6 : decode b_Mo_prove 6 = .ok (.iload_n 1, 1) := by decide +kernel
theorem d_Mo_prove_7 : decode b_Mo_prove 7 = .ok (.iload_n 2, 1) := by decide +kernel
theorem d_Mo_prove_8 : decode b_Mo_prove 8 = .ok (.iload_n 3, 1) := by decide +kernel
theorem d_Mo_prove_9 : decode b_Mo_prove 9 = .ok (.invokevirtual 213, 3) := by decide +kernel
theorem d_Mo_prove_12 : decode b_Mo_prove 12 = .ok (.ifCond .ne 5, 3) := by decide +kernel
theorem d_Mo_prove_15 : decode b_Mo_prove 15 = .ok (.iconst (-1), 1) := by decide +kernel
theorem d_Mo_prove_16 : decode b_Mo_prove 16 = .ok (.ireturn, 1) := by decide +kernel
theorem d_Mo_prove_17 : decode b_Mo_prove 17 = .ok (.aload_n 0, 1) := by decide +kernel
theorem d_Mo_prove_18 : decode b_Mo_prove 18 = .ok (.iload_n 3, 1) := by decide +kernel
theorem d_Mo_prove_19 : decode b_Mo_prove 19 = .ok (.aload_n 0, 1) := by decide +kernel
theorem d_Mo_prove_20 : decode b_Mo_prove 20 = .ok (.iload_n 2, 1) := by decide +kernel
theorem d_Mo_prove_21 : decode b_Mo_prove 21 = .ok (.iload_n 3, 1) := by decide +kernel
theorem d_Mo_prove_22 : decode b_Mo_prove 22 = .ok (.invokevirtual 216, 3) := by decide +kernel
theorem d_Mo_prove_25 : decode b_Mo_prove 25 = .ok (.iload_n 1, 1) := by decide +kernel
theorem d_Mo_prove_26 : decode b_Mo_prove 26 = .ok (.iload_n 2, 1) := by decide +kernel
theorem d_Mo_prove_27 : decode b_Mo_prove 27 = .ok (.invokestatic 153, 3) := by decide +kernel
theorem d_Mo_prove_30 : decode b_Mo_prove 30 = .ok (.invokevirtual 219, 3) := by decide +kernel
theorem d_Mo_prove_33 : decode b_Mo_prove 33 = .ok (.istore 4, 2) := by decide +kernel
theorem d_Mo_prove_35 : decode b_Mo_prove 35 = .ok (.iload 4, 2) := by decide +kernel
theorem d_Mo_prove_37 : decode b_Mo_prove 37 = .ok (.ifCond .ne 6, 3) := by decide +kernel
theorem d_Mo_prove_40 : decode b_Mo_prove 40 = .ok (.bipush (-2), 2) := by decide +kernel
theorem d_Mo_prove_42 : decode b_Mo_prove 42 = .ok (.ireturn, 1) := by decide +kernel
theorem d_Mo_prove_43 : decode b_Mo_prove 43 = .ok (.iload 4, 2) := by decide +kernel
theorem d_Mo_prove_45 : decode b_Mo_prove 45 = .ok (.bipush 40, 2) := by decide +kernel
theorem d_Mo_prove_47 : decode b_Mo_prove 47 = .ok (.if_icmp .le 6, 3) := by decide +kernel
theorem d_Mo_prove_50 : decode b_Mo_prove 50 = .ok (.bipush (-3), 2) := by decide +kernel
theorem d_Mo_prove_52 : decode b_Mo_prove 52 = .ok (.ireturn, 1) := by decide +kernel
theorem d_Mo_prove_53 : decode b_Mo_prove 53 = .ok (.aload_n 0, 1) := by decide +kernel
theorem d_Mo_prove_54 : decode b_Mo_prove 54 = .ok (.iload 4, 2) := by decide +kernel
theorem d_Mo_prove_56 : decode b_Mo_prove 56 = .ok (.putfield 103, 3) := by decide +kernel
theorem d_Mo_prove_59 : decode b_Mo_prove 59 = .ok (.iconst 0, 1) := by decide +kernel
theorem d_Mo_prove_60 : decode b_Mo_prove 60 = .ok (.istore 5, 2) := by decide +kernel
theorem d_Mo_prove_62 : decode b_Mo_prove 62 = .ok (.iload 5, 2) := by decide +kernel
theorem d_Mo_prove_64 : decode b_Mo_prove 64 = .ok (.iload 4, 2) := by decide +kernel
theorem d_Mo_prove_66 : decode b_Mo_prove 66 = .ok (.if_icmp .ge 51, 3) := by decide +kernel
theorem d_Mo_prove_69 : decode b_Mo_prove 69 = .ok (.aload_n 0, 1) := by decide +kernel
theorem d_Mo_prove_70 : decode b_Mo_prove 70 = .ok (.getfield 50, 3) := by decide +kernel
theorem d_Mo_prove_73 : decode b_Mo_prove 73 = .ok (.iload 5, 2) := by decide +kernel
theorem d_Mo_prove_75 : decode b_Mo_prove 75 = .ok (.aload_n 0, 1) := by decide +kernel
theorem d_Mo_prove_76 : decode b_Mo_prove 76 = .ok (.getfield 62, 3) := by decide +kernel
theorem d_Mo_prove_79 : decode b_Mo_prove 79 = .ok (.iload 5, 2) := by decide +kernel
theorem d_Mo_prove_81 : decode b_Mo_prove 81 = .ok (.iaload, 1) := by decide +kernel
theorem d_Mo_prove_82 : decode b_Mo_prove 82 = .ok (.iastore, 1) := by decide +kernel
theorem d_Mo_prove_83 : decode b_Mo_prove 83 = .ok (.aload_n 0, 1) := by decide +kernel
theorem d_Mo_prove_84 : decode b_Mo_prove 84 = .ok (.getfield 53, 3) := by decide +kernel
theorem d_Mo_prove_87 : decode b_Mo_prove 87 = .ok (.iload 5, 2) := by decide +kernel
theorem d_Mo_prove_89 : decode b_Mo_prove 89 = .ok (.aload_n 0, 1) := by decide +kernel
theorem d_Mo_prove_90 : decode b_Mo_prove 90 = .ok (.getfield 65, 3) := by decide +kernel
theorem d_Mo_prove_93 : decode b_Mo_prove 93 = .ok (.iload 5, 2) := by decide +kernel
theorem d_Mo_prove_95 : decode b_Mo_prove 95 = .ok (.iaload, 1) := by decide +kernel
theorem d_Mo_prove_96 : decode b_Mo_prove 96 = .ok (.iastore, 1) := by decide +kernel
theorem d_Mo_prove_97 : decode b_Mo_prove 97 = .ok (.aload_n 0, 1) := by decide +kernel
theorem d_Mo_prove_98 : decode b_Mo_prove 98 = .ok (.getfield 56, 3) := by decide +kernel
theorem d_Mo_prove_101 : decode b_Mo_prove 101 = .ok (.iload 5, 2) := by decide +kernel
theorem d_Mo_prove_103 : decode b_Mo_prove 103 = .ok (.aload_n 0, 1) := by decide +kernel
theorem d_Mo_prove_104 : decode b_Mo_prove 104 = .ok (.getfield 68, 3) := by decide +kernel
theorem d_Mo_prove_107 : decode b_Mo_prove 107 = .ok (.iload 5, 2) := by decide +kernel
theorem d_Mo_prove_109 : decode b_Mo_prove 109 = .ok (.iaload, 1) := by decide +kernel
theorem d_Mo_prove_110 : decode b_Mo_prove 110 = .ok (.iastore, 1) := by decide +kernel
theorem d_Mo_prove_111 : decode b_Mo_prove 111 = .ok (.iinc 5 1, 3) := by decide +kernel
theorem d_Mo_prove_114 : decode b_Mo_prove 114 = .ok (.goto (-52), 3) := by decide +kernel
theorem d_Mo_prove_117 : decode b_Mo_prove 117 = .ok (.iload 4, 2) := by decide +kernel
theorem d_Mo_prove_119 : decode b_Mo_prove 119 = .ok (.ireturn, 1) := by decide +kernel
theorem d_Mo_check_0 : decode b_Mo_check 0 = .ok (.aload_n 0, 1) := by decide +kernel
theorem d_Mo_check_1 : decode b_Mo_check 1 = .ok (.iconst 0, 1) := by decide +kernel
theorem d_Mo_check_2 : decode b_Mo_check 2 = .ok (.putfield 93, 3) := by decide +kernel
theorem d_Mo_check_5 : decode b_Mo_check 5 = .ok (.aload_n 0, 1) := by decide +kernel
theorem d_Mo_check_6 : decode b_Mo_check 6 = .ok (.iload_n 1, 1) := by decide +kernel
theorem d_Mo_check_7 : decode b_Mo_check 7 = .ok (.iload_n 2, 1) := by decide +kernel
theorem d_Mo_check_8 : decode b_Mo_check 8 = .ok (.iload_n 3, 1) := by decide +kernel
theorem d_Mo_check_9 : decode b_Mo_check 9 = .ok (.invokevirtual 213, 3) := by decide +kernel
theorem d_Mo_check_12 : decode b_Mo_check 12 = .ok (.ifCond .eq 23, 3) := by decide +kernel
theorem d_Mo_check_15 : decode b_Mo_check 15 = .ok (.aload_n 0, 1) := by decide +kernel
theorem d_Mo_check_16 : decode b_Mo_check 16 = .ok (.aload_n 0, 1) := by decide +kernel
theorem d_Mo_check_17 : decode b_Mo_check 17 = .ok (.iload_n 2, 1) := by decide +kernel
theorem d_Mo_check_18 : decode b_Mo_check 18 = .ok (.iload_n 3, 1) := by decide +kernel
theorem d_Mo_check_19 : decode b_Mo_check 19 = .ok (.invokevirtual 216, 3) := by decide +kernel
theorem d_Mo_check_22 : decode b_Mo_check 22 = .ok (.iload_n 1, 1) := by decide +kernel
theorem d_Mo_check_23 : decode b_Mo_check 23 = .ok (.iload_n 2, 1) := by decide +kernel
theorem d_Mo_check_24 : decode b_Mo_check 24 = .ok (.iload_n 3, 1) := by decide +kernel
theorem d_Mo_check_25 : decode b_Mo_check 25 = .ok (.invokevirtual 222, 3) := by decide +kernel
theorem d_Mo_check_28 : decode b_Mo_check 28 = .ok (.ifCond .eq 7, 3) := by decide +kernel
theorem d_Mo_check_31 : decode b_Mo_check 31 = .ok (.iconst 1, 1) := by decide +kernel
theorem d_Mo_check_32 : decode b_Mo_check 32 = .ok (.goto 4, 3) := by decide +kernel
theorem d_Mo_check_35 : decode b_Mo_check 35 = .ok (.iconst 0, 1) := by decide +kernel
theorem d_Mo_check_36 : decode b_Mo_check 36 = .ok (.ireturn, 1) := by decide +kernel
theorem d_Mo_request_0 : decode b_Mo_request 0 = .ok (.aload_n 0, 1) := by decide +kernel
theorem d_Mo_request_1 : decode b_Mo_request 1 = .ok (.iconst 0, 1) := by decide +kernel
theorem d_Mo_request_2 : decode b_Mo_request 2 = .ok (.putfield 93, 3) := by decide +kernel
theorem d_Mo_request_5 : decode b_Mo_request 5 = .ok (.iload_n 1, 1) := by decide +kernel
theorem d_Mo_request_6 : decode b_Mo_request 6 = .ok (.invokestatic 116, 3) := by decide +kernel
theorem d_Mo_request_9 : decode b_Mo_request 9 = .ok (.ifCond .eq 19, 3) := by decide +kernel
theorem d_Mo_request_12 : decode b_Mo_request 12 = .ok (.iload_n 2, 1) := by decide +kernel
theorem d_Mo_request_13 : decode b_Mo_request 13 = .ok (.invokestatic 120, 3) := by decide +kernel
theorem d_Mo_request_16 : decode b_Mo_request 16 = .ok (.ifCond .eq 12, 3) := by decide +kernel
theorem d_Mo_request_19 : decode b_Mo_request 19 = .ok (.iload_n 3, 1) := by decide +kernel
theorem d_Mo_request_20 : decode b_Mo_request 20 = .ok (.iconst 0, 1) := by decide +kernel
theorem d_Mo_request_21 : decode b_Mo_request 21 = .ok (.iconst 5, 1) := by decide +kernel
theorem d_Mo_request_22 : decode b_Mo_request 22 = .ok (.invokestatic 106, 3) := by decide +kernel
theorem d_Mo_request_25 : decode b_Mo_request 25 = .ok (.ifCond .ne 9, 3) := by decide +kernel
theorem d_Mo_request_28 : decode b_Mo_request 28 = .ok (.aload_n 0, 1) := by decide +kernel
theorem d_Mo_request_29 : decode b_Mo_request 29 = .ok (.iconst 1, 1) := by decide +kernel
theorem d_Mo_request_30 : decode b_Mo_request 30 = .ok (.invokevirtual 126, 3) := by decide +kernel
theorem d_Mo_request_33 : decode b_Mo_request 33 = .ok (.ireturn, 1) := by decide +kernel
theorem d_Mo_request_34 : decode b_Mo_request 34 = .ok (.aload_n 0, 1) := by decide +kernel
theorem d_Mo_request_35 : decode b_Mo_request 35 = .ok (.iload_n 1, 1) := by decide +kernel
theorem d_Mo_request_36 : decode b_Mo_request 36 = .ok (.iload_n 2, 1) := by decide +kernel
theorem d_Mo_request_37 : decode b_Mo_request 37 = .ok (.iload_n 3, 1) := by decide +kernel
theorem d_Mo_request_38 : decode b_Mo_request 38 = .ok (.invokevirtual 213, 3) := by decide +kernel
theorem d_Mo_request_41 : decode b_Mo_request 41 = .ok (.ifCond .ne 9, 3) := by decide +kernel
theorem d_Mo_request_44 : decode b_Mo_request 44 = .ok (.aload_n 0, 1) := by decide +kernel
theorem d_Mo_request_45 : decode b_Mo_request 45 = .ok (.iconst 2, 1) := by decide +kernel
theorem d_Mo_request_46 : decode b_Mo_request 46 = .ok (.invokevirtual 126, 3) := by decide +kernel
theorem d_Mo_request_49 : decode b_Mo_request 49 = .ok (.ireturn, 1) := by decide +kernel
theorem d_Mo_request_50 : decode b_Mo_request 50 = .ok (.aload_n 0, 1) := by decide +kernel
theorem d_Mo_request_51 : decode b_Mo_request 51 = .ok (.iload_n 2, 1) := by decide +kernel
theorem d_Mo_request_52 : decode b_Mo_request 52 = .ok (.iload_n 3, 1) := by decide +kernel
theorem d_Mo_request_53 : decode b_Mo_request 53 = .ok (.invokevirtual 216, 3) := by decide +kernel
theorem d_Mo_request_56 : decode b_Mo_request 56 = .ok (.istore 6, 2) := by decide +kernel
theorem d_Mo_request_58 : decode b_Mo_request 58 = .ok (.iload 5, 2) := by decide +kernel
theorem d_Mo_request_60 : decode b_Mo_request 60 = .ok (.ifCond .eq 26, 3) := by decide +kernel
theorem d_Mo_request_63 : decode b_Mo_request 63 = .ok (.aload_n 0, 1) := by decide +kernel
theorem d_Mo_request_64 : decode b_Mo_request 64 = .ok (.iload 6, 2) := by decide +kernel
theorem d_Mo_request_66 : decode b_Mo_request 66 = .ok (.iload_n 1, 1) := by decide +kernel
theorem d_Mo_request_67 : decode b_Mo_request 67 = .ok (.iload_n 2, 1) := by decide +kernel
theorem d_Mo_request_68 : decode b_Mo_request 68 = .ok (.iload_n 3, 1) := by decide +kernel
theorem d_Mo_request_69 : decode b_Mo_request 69 = .ok (.invokevirtual 222, 3) := by decide +kernel
theorem d_Mo_request_72 : decode b_Mo_request 72 = .ok (.ifCond .eq 10, 3) := by decide +kernel
theorem d_Mo_request_75 : decode b_Mo_request 75 = .ok (.aload_n 0, 1) := by decide +kernel
theorem d_Mo_request_76 : decode b_Mo_request 76 = .ok (.getfield 103, 3) := by decide +kernel
theorem d_Mo_request_79 : decode b_Mo_request 79 = .ok (.goto 19, 3) := by decide +kernel
theorem d_Mo_request_82 : decode b_Mo_request 82 = .ok (.iconst 0, 1) := by decide +kernel
theorem d_Mo_request_83 : decode b_Mo_request 83 = .ok (.goto 15, 3) := by decide +kernel
theorem d_Mo_request_86 : decode b_Mo_request 86 = .ok (.aload_n 0, 1) := by decide +kernel
theorem d_Mo_request_87 : decode b_Mo_request 87 = .ok (.iload_n 3, 1) := by decide +kernel
theorem d_Mo_request_88 : decode b_Mo_request 88 = .ok (.iload 6, 2) := by decide +kernel
theorem d_Mo_request_90 : decode b_Mo_request 90 = .ok (.iload_n 1, 1) := by decide +kernel
theorem d_Mo_request_91 : decode b_Mo_request 91 = .ok (.iload_n 2, 1) := by decide +kernel
theorem d_Mo_request_92 : decode b_Mo_request 92 = .ok (.invokestatic 153, 3) := by decide +kernel
theorem d_Mo_request_95 : decode b_Mo_request 95 = .ok (.invokevirtual 219, 3) := by decide +kernel
theorem d_Mo_request_98 : decode b_Mo_request 98 = .ok (.istore 7, 2) := by decide +kernel
theorem d_Mo_request_100 : decode b_Mo_request 100 = .ok (.aload_n 0, 1) := by decide +kernel
theorem d_Mo_request_101 : decode b_Mo_request 101 = .ok (.iload 5, 2) := by decide +kernel
theorem d_Mo_request_103 : decode b_Mo_request 103 = .ok (.ifCond .eq 7, 3) := by decide +kernel
theorem d_Mo_request_106 : decode b_Mo_request 106 = .ok (.iconst 0, 1) := by decide +kernel
theorem d_Mo_request_107 : decode b_Mo_request 107 = .ok (.goto 7, 3) := by decide +kernel
theorem d_Mo_request_110 : decode b_Mo_request 110 = .ok (.aload_n 0, 1) := by decide +kernel
theorem d_Mo_request_111 : decode b_Mo_request 111 = .ok (.getfield 103, 3) := by decide +kernel
theorem d_Mo_request_114 : decode b_Mo_request 114 = .ok (.putfield 103, 3) := by decide +kernel
theorem d_Mo_request_117 : decode b_Mo_request 117 = .ok (.iload 7, 2) := by decide +kernel
theorem d_Mo_request_119 : decode b_Mo_request 119 = .ok (.iconst 1, 1) := by decide +kernel
theorem d_Mo_request_120 : decode b_Mo_request 120 = .ok (.if_icmp .lt 10, 3) := by decide +kernel
theorem d_Mo_request_123 : decode b_Mo_request 123 = .ok (.iload 7, 2) := by decide +kernel
theorem d_Mo_request_125 : decode b_Mo_request 125 = .ok (.bipush 40, 2) := by decide +kernel
theorem d_Mo_request_127 : decode b_Mo_request 127 = .ok (.if_icmp .le 9, 3) := by decide +kernel
theorem d_Mo_request_130 : decode b_Mo_request 130 = .ok (.aload_n 0, 1) := by decide +kernel
theorem d_Mo_request_131 : decode b_Mo_request 131 = .ok (.iconst 3, 1) := by decide +kernel
theorem d_Mo_request_132 : decode b_Mo_request 132 = .ok (.invokevirtual 126, 3) := by decide +kernel
theorem d_Mo_request_135 : decode b_Mo_request 135 = .ok (.ireturn, 1) := by decide +kernel
theorem d_Mo_request_136 : decode b_Mo_request 136 = .ok (.aload_n 0, 1) := by decide +kernel
theorem d_Mo_request_137 : decode b_Mo_request 137 = .ok (.invokevirtual 137, 3) := by decide +kernel
theorem d_Mo_request_140 : decode b_Mo_request 140 = .ok (.ifCond .ne 9, 3) := by decide +kernel
theorem d_Mo_request_143 : decode b_Mo_request 143 = .ok (.aload_n 0, 1) := by decide +kernel
theorem d_Mo_request_144 : decode b_Mo_request 144 = .ok (.iconst 4, 1) := by decide +kernel
theorem d_Mo_request_145 : decode b_Mo_request 145 = .ok (.invokevirtual 126, 3) := by decide +kernel
theorem d_Mo_request_148 : decode b_Mo_request 148 = .ok (.ireturn, 1) := by decide +kernel
theorem d_Mo_request_149 : decode b_Mo_request 149 = .ok (.aload_n 0, 1) := by decide +kernel
theorem d_Mo_request_150 : decode b_Mo_request 150 = .ok (.aload_n 0, 1) := by decide +kernel
theorem d_Mo_request_151 : decode b_Mo_request 151 = .ok (.getfield 225, 3) := by decide +kernel
theorem d_Mo_request_154 : decode b_Mo_request 154 = .ok (.iload_n 1, 1) := by decide +kernel
theorem d_Mo_request_155 : decode b_Mo_request 155 = .ok (.ixor, 1) := by decide +kernel
theorem d_Mo_request_156 : decode b_Mo_request 156 = .ok (.bipush 31, 2) := by decide +kernel
theorem d_Mo_request_158 : decode b_Mo_request 158 = .ok (.imul, 1) := by decide +kernel
theorem d_Mo_request_159 : decode b_Mo_request 159 = .ok (.bipush 8, 2) := by decide +kernel
theorem d_Mo_request_161 : decode b_Mo_request 161 = .ok (.iload_n 2, 1) := by decide +kernel
theorem d_Mo_request_162 : decode b_Mo_request 162 = .ok (.imul, 1) := by decide +kernel
theorem d_Mo_request_163 : decode b_Mo_request 163 = .ok (.iadd, 1) := by decide +kernel
theorem d_Mo_request_164 : decode b_Mo_request 164 = .ok (.iload_n 3, 1) := by decide +kernel
theorem d_Mo_request_165 : decode b_Mo_request 165 = .ok (.iadd, 1) := by decide +kernel
theorem d_Mo_request_166 : decode b_Mo_request 166 = .ok (.bipush 31, 2) := by decide +kernel
theorem d_Mo_request_168 : decode b_Mo_request 168 = .ok (.imul, 1) := by decide +kernel
theorem d_Mo_request_169 : decode b_Mo_request 169 = .ok (.iload 7, 2) := by decide +kernel
theorem d_Mo_request_171 : decode b_Mo_request 171 = .ok (.iadd, 1) := by decide +kernel
theorem d_Mo_request_172 : decode b_Mo_request 172 = .ok (.putfield 225, 3) := by decide +kernel
theorem d_Mo_request_175 : decode b_Mo_request 175 = .ok (.aload_n 0, 1) := by decide +kernel
theorem d_Mo_request_176 : decode b_Mo_request 176 = .ok (.dup, 1) := by decide +kernel
theorem d_Mo_request_177 : decode b_Mo_request 177 = .ok (.getfield 228, 3) := by decide +kernel
theorem d_Mo_request_180 : decode b_Mo_request 180 = .ok (.iconst 1, 1) := by decide +kernel
theorem d_Mo_request_181 : decode b_Mo_request 181 = .ok (.iadd, 1) := by decide +kernel
theorem d_Mo_request_182 : decode b_Mo_request 182 = .ok (.putfield 228, 3) := by decide +kernel
theorem d_Mo_request_185 : decode b_Mo_request 185 = .ok (.aload_n 0, 1) := by decide +kernel
theorem d_Mo_request_186 : decode b_Mo_request 186 = .ok (.iload_n 1, 1) := by decide +kernel
theorem d_Mo_request_187 : decode b_Mo_request 187 = .ok (.iload_n 2, 1) := by decide +kernel
theorem d_Mo_request_188 : decode b_Mo_request 188 = .ok (.iload_n 3, 1) := by decide +kernel
theorem d_Mo_request_189 : decode b_Mo_request 189 = .ok (.iload 4, 2) := by decide +kernel
theorem d_Mo_request_191 : decode b_Mo_request 191 = .ok (.invokevirtual 231, 3) := by decide +kernel
theorem d_Mo_request_194 : decode b_Mo_request 194 = .ok (.ireturn, 1) := by decide +kernel
theorem d_Mo_done_0 : decode b_Mo_done 0 = .ok (.iload_n 2, 1) := by decide +kernel
theorem d_Mo_done_1 : decode b_Mo_done 1 = .ok (.iconst 2, 1) := by decide +kernel
theorem d_Mo_done_2 : decode b_Mo_done 2 = .ok (.if_icmp .ne 12, 3) := by decide +kernel
theorem d_Mo_done_5 : decode b_Mo_done 5 = .ok (.aload_n 0, 1) := by decide +kernel
theorem d_Mo_done_6 : decode b_Mo_done 6 = .ok (.getfield 13, 3) := by decide +kernel
theorem d_Mo_done_9 : decode b_Mo_done 9 = .ok (.iload_n 3, 1) := by decide +kernel
theorem d_Mo_done_10 : decode b_Mo_done 10 = .ok (.iaload, 1) := by decide +kernel
theorem d_Mo_done_11 : decode b_Mo_done 11 = .ok (.goto 18, 3) := by decide +kernel
theorem d_Mo_done_14 : decode b_Mo_done 14 = .ok (.iload_n 2, 1) := by decide +kernel
theorem d_Mo_done_15 : decode b_Mo_done 15 = .ok (.iconst 3, 1) := by decide +kernel
theorem d_Mo_done_16 : decode b_Mo_done 16 = .ok (.if_icmp .ne 7, 3) := by decide +kernel
theorem d_Mo_done_19 : decode b_Mo_done 19 = .ok (.iconst 0, 1) := by decide +kernel
theorem d_Mo_done_20 : decode b_Mo_done 20 = .ok (.goto 9, 3) := by decide +kernel
theorem d_Mo_done_23 : decode b_Mo_done 23 = .ok (.aload_n 0, 1) := by decide +kernel
theorem d_Mo_done_24 : decode b_Mo_done 24 = .ok (.getfield 17, 3) := by decide +kernel
theorem d_Mo_done_27 : decode b_Mo_done 27 = .ok (.iload_n 3, 1) := by decide +kernel
theorem d_Mo_done_28 : decode b_Mo_done 28 = .ok (.iaload, 1) := by decide +kernel
theorem d_Mo_done_29 : decode b_Mo_done 29 = .ok (.istore 5, 2) := by decide +kernel
theorem d_Mo_done_31 : decode b_Mo_done 31 = .ok (.iload_n 2, 1) := by decide +kernel
theorem d_Mo_done_32 : decode b_Mo_done 32 = .ok (.iconst 3, 1) := by decide +kernel
theorem d_Mo_done_33 : decode b_Mo_done 33 = .ok (.if_icmp .ne 10, 3) := by decide +kernel
theorem d_Mo_done_36 : decode b_Mo_done 36 = .ok (.aload_n 0, 1) := by decide +kernel
theorem d_Mo_done_37 : decode b_Mo_done 37 = .ok (.getfield 7, 3) := by decide +kernel
theorem d_Mo_done_40 : decode b_Mo_done 40 = .ok (.iload_n 3, 1) := by decide +kernel
theorem d_Mo_done_41 : decode b_Mo_done 41 = .ok (.iconst 1, 1) := by decide +kernel
theorem d_Mo_done_42 : decode b_Mo_done 42 = .ok (.bastore, 1) := by decide +kernel
theorem d_Mo_done_43 : decode b_Mo_done 43 = .ok (.iload_n 2, 1) := by decide +kernel
theorem d_Mo_done_44 : decode b_Mo_done 44 = .ok (.iconst 2, 1) := by decide +kernel
theorem d_Mo_done_45 : decode b_Mo_done 45 = .ok (.if_icmp .ne 18, 3) := by decide +kernel
theorem d_Mo_done_48 : decode b_Mo_done 48 = .ok (.iload 4, 2) := by decide +kernel
theorem d_Mo_done_50 : decode b_Mo_done 50 = .ok (.invokestatic 116, 3) := by decide +kernel
theorem d_Mo_done_53 : decode b_Mo_done 53 = .ok (.ifCond .ne 10, 3) := by decide +kernel
theorem d_Mo_done_56 : decode b_Mo_done 56 = .ok (.aload_n 0, 1) := by decide +kernel
theorem d_Mo_done_57 : decode b_Mo_done 57 = .ok (.getfield 7, 3) := by decide +kernel
theorem d_Mo_done_60 : decode b_Mo_done 60 = .ok (.iload_n 3, 1) := by decide +kernel
theorem d_Mo_done_61 : decode b_Mo_done 61 = .ok (.iconst 0, 1) := by decide +kernel
theorem d_Mo_done_62 : decode b_Mo_done 62 = .ok (.bastore, 1) := by decide +kernel
theorem d_Mo_done_63 : decode b_Mo_done 63 = .ok (.aload_n 0, 1) := by decide +kernel
theorem d_Mo_done_64 : decode b_Mo_done 64 = .ok (.getfield 13, 3) := by decide +kernel
theorem d_Mo_done_67 : decode b_Mo_done 67 = .ok (.iload_n 3, 1) := by decide +kernel
theorem d_Mo_done_68 : decode b_Mo_done 68 = .ok (.iload_n 2, 1) := by decide +kernel
theorem d_Mo_done_69 : decode b_Mo_done 69 = .ok (.iconst 3, 1) := by decide +kernel
theorem d_Mo_done_70 : decode b_Mo_done 70 = .ok (.if_icmp .ne 7, 3) := by decide +kernel
theorem d_Mo_done_73 : decode b_Mo_done 73 = .ok (.iload_n 1, 1) := by decide +kernel
theorem d_Mo_done_74 : decode b_Mo_done 74 = .ok (.goto 27, 3) := by decide +kernel
theorem d_Mo_done_77 : decode b_Mo_done 77 = .ok (.iload_n 2, 1) := by decide +kernel
theorem d_Mo_done_78 : decode b_Mo_done 78 = .ok (.iconst 2, 1) := by decide +kernel
theorem d_Mo_done_79 : decode b_Mo_done 79 = .ok (.if_icmp .ne 16, 3) := by decide +kernel
theorem d_Mo_done_82 : decode b_Mo_done 82 = .ok (.iload 4, 2) := by decide +kernel
theorem d_Mo_done_84 : decode b_Mo_done 84 = .ok (.invokestatic 116, 3) := by decide +kernel
theorem d_Mo_done_87 : decode b_Mo_done 87 = .ok (.ifCond .eq 8, 3) := by decide +kernel
theorem d_Mo_done_90 : decode b_Mo_done 90 = .ok (.iload 4, 2) := by decide +kernel
theorem d_Mo_done_92 : decode b_Mo_done 92 = .ok (.goto 9, 3) := by decide +kernel
theorem d_Mo_done_95 : decode b_Mo_done 95 = .ok (.aload_n 0, 1) := by decide +kernel
theorem d_Mo_done_96 : decode b_Mo_done 96 = .ok (.getfield 13, 3) := by decide +kernel
theorem d_Mo_done_99 : decode b_Mo_done 99 = .ok (.iload_n 3, 1) := by decide +kernel
theorem d_Mo_done_100 : decode b_Mo_done 100 = .ok (.iaload, 1) := by decide +kernel
theorem d_Mo_done_101 : decode b_Mo_done 101 = .ok (.iastore, 1) := by decide +kernel
theorem d_Mo_done_102 : decode b_Mo_done 102 = .ok (.aload_n 0, 1) := by decide +kernel
theorem d_Mo_done_103 : decode b_Mo_done 103 = .ok (.getfield 17, 3) := by decide +kernel
theorem d_Mo_done_106 : decode b_Mo_done 106 = .ok (.iload_n 3, 1) := by decide +kernel
theorem d_Mo_done_107 : decode b_Mo_done 107 = .ok (.iload_n 2, 1) := by decide +kernel
theorem d_Mo_done_108 : decode b_Mo_done 108 = .ok (.iconst 1, 1) := by decide +kernel
theorem d_Mo_done_109 : decode b_Mo_done 109 = .ok (.if_icmp .eq 8, 3) := by decide +kernel
theorem d_Mo_done_112 : decode b_Mo_done 112 = .ok (.iload_n 2, 1) := by decide +kernel
theorem d_Mo_done_113 : decode b_Mo_done 113 = .ok (.iconst 3, 1) := by decide +kernel
theorem d_Mo_done_114 : decode b_Mo_done 114 = .ok (.if_icmp .ne 8, 3) := by decide +kernel
theorem d_Mo_done_117 : decode b_Mo_done 117 = .ok (.iload 4, 2) := by decide +kernel
theorem d_Mo_done_119 : decode b_Mo_done 119 = .ok (.goto 9, 3) := by decide +kernel
theorem d_Mo_done_122 : decode b_Mo_done 122 = .ok (.aload_n 0, 1) := by decide +kernel
theorem d_Mo_done_123 : decode b_Mo_done 123 = .ok (.getfield 17, 3) := by decide +kernel
theorem d_Mo_done_126 : decode b_Mo_done 126 = .ok (.iload_n 3, 1) := by decide +kernel
theorem d_Mo_done_127 : decode b_Mo_done 127 = .ok (.iaload, 1) := by decide +kernel
theorem d_Mo_done_128 : decode b_Mo_done 128 = .ok (.iastore, 1) := by decide +kernel
theorem d_Mo_done_129 : decode b_Mo_done 129 = .ok (.iload 5, 2) := by decide +kernel
theorem d_Mo_done_131 : decode b_Mo_done 131 = .ok (.ireturn, 1) := by decide +kernel
theorem d_Mo_pass_0 : decode b_Mo_pass 0 = .ok (.aload_n 0, 1) := by decide +kernel
theorem d_Mo_pass_1 : decode b_Mo_pass 1 = .ok (.iconst 0, 1) := by decide +kernel
theorem d_Mo_pass_2 : decode b_Mo_pass 2 = .ok (.putfield 93, 3) := by decide +kernel
theorem d_Mo_pass_5 : decode b_Mo_pass 5 = .ok (.iload_n 1, 1) := by decide +kernel
theorem d_Mo_pass_6 : decode b_Mo_pass 6 = .ok (.iconst 1, 1) := by decide +kernel
theorem d_Mo_pass_7 : decode b_Mo_pass 7 = .ok (.bipush 100, 2) := by decide +kernel
theorem d_Mo_pass_9 : decode b_Mo_pass 9 = .ok (.invokestatic 106, 3) := by decide +kernel
theorem d_Mo_pass_12 : decode b_Mo_pass 12 = .ok (.ifCond .ne 5, 3) := by decide +kernel
theorem d_Mo_pass_15 : decode b_Mo_pass 15 = .ok (.iconst (-1), 1) := by decide +kernel
theorem d_Mo_pass_16 : decode b_Mo_pass 16 = .ok (.ireturn, 1) := by decide +kernel
theorem d_Mo_pass_17 : decode b_Mo_pass 17 = .ok (.aload_n 0, 1) := by decide +kernel
theorem d_Mo_pass_18 : decode b_Mo_pass 18 = .ok (.aload_n 0, 1) := by decide +kernel
theorem d_Mo_pass_19 : decode b_Mo_pass 19 = .ok (.getfield 141, 3) := by decide +kernel
theorem d_Mo_pass_22 : decode b_Mo_pass 22 = .ok (.iload_n 1, 1) := by decide +kernel
theorem d_Mo_pass_23 : decode b_Mo_pass 23 = .ok (.iadd, 1) := by decide +kernel
theorem d_Mo_pass_24 : decode b_Mo_pass 24 = .ok (.putfield 141, 3) := by decide +kernel
theorem d_Mo_pass_27 : decode b_Mo_pass 27 = .ok (.aload_n 0, 1) := by decide +kernel
theorem d_Mo_pass_28 : decode b_Mo_pass 28 = .ok (.getfield 141, 3) := by decide +kernel
theorem d_Mo_pass_31 : decode b_Mo_pass 31 = .ok (.ireturn, 1) := by decide +kernel
theorem d_Mo_owner_0 : decode b_Mo_owner 0 = .ok (.aload_n 0, 1) := by decide +kernel
theorem d_Mo_owner_1 : decode b_Mo_owner 1 = .ok (.iconst 0, 1) := by decide +kernel
theorem d_Mo_owner_2 : decode b_Mo_owner 2 = .ok (.putfield 93, 3) := by decide +kernel
theorem d_Mo_owner_5 : decode b_Mo_owner 5 = .ok (.iload_n 1, 1) := by decide +kernel
theorem d_Mo_owner_6 : decode b_Mo_owner 6 = .ok (.iconst 0, 1) := by decide +kernel
theorem d_Mo_owner_7 : decode b_Mo_owner 7 = .ok (.iconst 5, 1) := by decide +kernel
theorem d_Mo_owner_8 : decode b_Mo_owner 8 = .ok (.invokestatic 106, 3) := by decide +kernel
theorem d_Mo_owner_11 : decode b_Mo_owner 11 = .ok (.ifCond .eq 21, 3) := by decide +kernel
theorem d_Mo_owner_14 : decode b_Mo_owner 14 = .ok (.aload_n 0, 1) := by decide +kernel
theorem d_Mo_owner_15 : decode b_Mo_owner 15 = .ok (.getfield 7, 3) := by decide +kernel
theorem d_Mo_owner_18 : decode b_Mo_owner 18 = .ok (.iload_n 1, 1) := by decide +kernel
theorem d_Mo_owner_19 : decode b_Mo_owner 19 = .ok (.baload, 1) := by decide +kernel
theorem d_Mo_owner_20 : decode b_Mo_owner 20 = .ok (.ifCond .eq 12, 3) := by decide +kernel
theorem d_Mo_owner_23 : decode b_Mo_owner 23 = .ok (.aload_n 0, 1) := by decide +kernel
theorem d_Mo_owner_24 : decode b_Mo_owner 24 = .ok (.getfield 13, 3) := by decide +kernel
theorem d_Mo_owner_27 : decode b_Mo_owner 27 = .ok (.iload_n 1, 1) := by decide +kernel
theorem d_Mo_owner_28 : decode b_Mo_owner 28 = .ok (.iaload, 1) := by decide +kernel
theorem d_Mo_owner_29 : decode b_Mo_owner 29 = .ok (.goto 4, 3) := by decide +kernel
theorem d_Mo_owner_32 : decode b_Mo_owner 32 = .ok (.iconst (-1), 1) := by decide +kernel
theorem d_Mo_owner_33 : decode b_Mo_owner 33 = .ok (.ireturn, 1) := by decide +kernel
theorem d_Mo_credentials_0 : decode b_Mo_credentials 0 = .ok (.aload_n 0, 1) := by decide +kernel
theorem d_Mo_credentials_1 : decode b_Mo_credentials 1 = .ok (.iconst 0, 1) := by decide +kernel
theorem d_Mo_credentials_2 : decode b_Mo_credentials 2 = .ok (.putfield 93, 3) := by decide +kernel
theorem d_Mo_credentials_5 : decode b_Mo_credentials 5 = .ok (.aload_n 0, 1) := by decide +kernel
theorem d_Mo_credentials_6 : decode b_Mo_credentials 6 = .ok (.getfield 134, 3) := by decide +kernel
theorem d_Mo_credentials_9 : decode b_Mo_credentials 9 = .ok (.ireturn, 1) := by decide +kernel
theorem d_Mo_valid_0 : decode b_Mo_valid 0 = .ok (.aload_n 0, 1) := by decide +kernel
theorem d_Mo_valid_1 : decode b_Mo_valid 1 = .ok (.iconst 0, 1) := by decide +kernel
theorem d_Mo_valid_2 : decode b_Mo_valid 2 = .ok (.putfield 93, 3) := by decide +kernel
theorem d_Mo_valid_5 : decode b_Mo_valid 5 = .ok (.aload_n 0, 1) := by decide +kernel
theorem d_Mo_valid_6 : decode b_Mo_valid 6 = .ok (.iload_n 1, 1) := by decide +kernel
theorem d_Mo_valid_7 : decode b_Mo_valid 7 = .ok (.invokevirtual 147, 3) := by decide +kernel
theorem d_Mo_valid_10 : decode b_Mo_valid 10 = .ok (.ireturn, 1) := by decide +kernel
theorem d_Mo_grants_0 : decode b_Mo_grants 0 = .ok (.aload_n 0, 1) := by decide +kernel
theorem d_Mo_grants_1 : decode b_Mo_grants 1 = .ok (.iconst 0, 1) := by decide +kernel
theorem d_Mo_grants_2 : decode b_Mo_grants 2 = .ok (.putfield 93, 3) := by decide +kernel
theorem d_Mo_grants_5 : decode b_Mo_grants 5 = .ok (.aload_n 0, 1) := by decide +kernel
theorem d_Mo_grants_6 : decode b_Mo_grants 6 = .ok (.getfield 228, 3) := by decide +kernel
theorem d_Mo_grants_9 : decode b_Mo_grants 9 = .ok (.ireturn, 1) := by decide +kernel
theorem d_Mo_chain_0 : decode b_Mo_chain 0 = .ok (.aload_n 0, 1) := by decide +kernel
theorem d_Mo_chain_1 : decode b_Mo_chain 1 = .ok (.iconst 0, 1) := by decide +kernel
theorem d_Mo_chain_2 : decode b_Mo_chain 2 = .ok (.putfield 93, 3) := by decide +kernel
theorem d_Mo_chain_5 : decode b_Mo_chain 5 = .ok (.aload_n 0, 1) := by decide +kernel
theorem d_Mo_chain_6 : decode b_Mo_chain 6 = .ok (.getfield 225, 3) := by decide +kernel
theorem d_Mo_chain_9 : decode b_Mo_chain 9 = .ok (.ireturn, 1) := by decide +kernel
