theorem d_Mo_init_0 : decode b_Mo_init 0 = .ok (.aload_n 0, 1) := by decide +kernel
theorem d_Mo_init_1 : decode b_Mo_init 1 = .ok (.invokespecial 1, 3) := by decide +kernel
theorem d_Mo_init_4 : decode b_Mo_init 4 = .ok (.aload_n 0, 1) := by decide +kernel
theorem d_Mo_init_5 : decode b_Mo_init 5 = .ok (.bipush 6, 2) := by decide +kernel
theorem d_Mo_init_7 : decode b_Mo_init 7 = .ok (.newarray .boolean, 2) := by decide +kernel
theorem d_Mo_init_9 : decode b_Mo_init 9 = .ok (.putfield 7, 3) := by decide +kernel
theorem d_Mo_init_12 : decode b_Mo_init 12 = .ok (.aload_n 0, 1) := by decide +kernel
theorem d_Mo_init_13 : decode b_Mo_init 13 = .ok (.bipush 6, 2) := by decide +kernel
theorem d_Mo_init_15 : decode b_Mo_init 15 = .ok (.newarray .int, 2) := by decide +kernel
theorem d_Mo_init_17 : decode b_Mo_init 17 = .ok (.putfield 13, 3) := by decide +kernel
theorem d_Mo_init_20 : decode b_Mo_init 20 = .ok (.aload_n 0, 1) := by decide +kernel
theorem d_Mo_init_21 : decode b_Mo_init 21 = .ok (.bipush 6, 2) := by decide +kernel
theorem d_Mo_init_23 : decode b_Mo_init 23 = .ok (.newarray .int, 2) := by decide +kernel
theorem d_Mo_init_25 : decode b_Mo_init 25 = .ok (.putfield 17, 3) := by decide +kernel
theorem d_Mo_init_28 : decode b_Mo_init 28 = .ok (.aload_n 0, 1) := by decide +kernel
theorem d_Mo_init_29 : decode b_Mo_init 29 = .ok (.bipush 25, 2) := by decide +kernel
theorem d_Mo_init_31 : decode b_Mo_init 31 = .ok (.newarray .int, 2) := by decide +kernel
theorem d_Mo_init_33 : decode b_Mo_init 33 = .ok (.putfield 20, 3) := by decide +kernel
theorem d_Mo_init_36 : decode b_Mo_init 36 = .ok (.aload_n 0, 1) := by decide +kernel
theorem d_Mo_init_37 : decode b_Mo_init 37 = .ok (.bipush 25, 2) := by decide +kernel
theorem d_Mo_init_39 : decode b_Mo_init 39 = .ok (.newarray .int, 2) := by decide +kernel
theorem d_Mo_init_41 : decode b_Mo_init 41 = .ok (.putfield 23, 3) := by decide +kernel
theorem d_Mo_init_44 : decode b_Mo_init 44 = .ok (.aload_n 0, 1) := by decide +kernel
theorem d_Mo_init_45 : decode b_Mo_init 45 = .ok (.bipush 25, 2) := by decide +kernel
theorem d_Mo_init_47 : decode b_Mo_init 47 = .ok (.newarray .int, 2) := by decide +kernel
theorem d_Mo_init_49 : decode b_Mo_init 49 = .ok (.putfield 26, 3) := by decide +kernel
theorem d_Mo_init_52 : decode b_Mo_init 52 = .ok (.aload_n 0, 1) := by decide +kernel
theorem d_Mo_init_53 : decode b_Mo_init 53 = .ok (.bipush 25, 2) := by decide +kernel
theorem d_Mo_init_55 : decode b_Mo_init 55 = .ok (.newarray .int, 2) := by decide +kernel
theorem d_Mo_init_57 : decode b_Mo_init 57 = .ok (.putfield 29, 3) := by decide +kernel
theorem d_Mo_init_60 : decode b_Mo_init 60 = .ok (.aload_n 0, 1) := by decide +kernel
theorem d_Mo_init_61 : decode b_Mo_init 61 = .ok (.bipush 25, 2) := by decide +kernel
theorem d_Mo_init_63 : decode b_Mo_init 63 = .ok (.newarray .int, 2) := by decide +kernel
theorem d_Mo_init_65 : decode b_Mo_init 65 = .ok (.putfield 32, 3) := by decide +kernel
theorem d_Mo_init_68 : decode b_Mo_init 68 = .ok (.aload_n 0, 1) := by decide +kernel
theorem d_Mo_init_69 : decode b_Mo_init 69 = .ok (.bipush 25, 2) := by decide +kernel
theorem d_Mo_init_71 : decode b_Mo_init 71 = .ok (.newarray .int, 2) := by decide +kernel
theorem d_Mo_init_73 : decode b_Mo_init 73 = .ok (.putfield 35, 3) := by decide +kernel
theorem d_Mo_init_76 : decode b_Mo_init 76 = .ok (.aload_n 0, 1) := by decide +kernel
theorem d_Mo_init_77 : decode b_Mo_init 77 = .ok (.bipush 25, 2) := by decide +kernel
theorem d_Mo_init_79 : decode b_Mo_init 79 = .ok (.newarray .int, 2) := by decide +kernel
theorem d_Mo_init_81 : decode b_Mo_init 81 = .ok (.putfield 38, 3) := by decide +kernel
theorem d_Mo_init_84 : decode b_Mo_init 84 = .ok (.aload_n 0, 1) := by decide +kernel
theorem d_Mo_init_85 : decode b_Mo_init 85 = .ok (.bipush 25, 2) := by decide +kernel
theorem d_Mo_init_87 : decode b_Mo_init 87 = .ok (.newarray .int, 2) := by decide +kernel
theorem d_Mo_init_89 : decode b_Mo_init 89 = .ok (.putfield 41, 3) := by decide +kernel
theorem d_Mo_init_92 : decode b_Mo_init 92 = .ok (.aload_n 0, 1) := by decide +kernel
theorem d_Mo_init_93 : decode b_Mo_init 93 = .ok (.bipush 25, 2) := by decide +kernel
theorem d_Mo_init_95 : decode b_Mo_init 95 = .ok (.newarray .boolean, 2) := by decide +kernel
theorem d_Mo_init_97 : decode b_Mo_init 97 = .ok (.putfield 44, 3) := by decide +kernel
theorem d_Mo_init_100 : decode b_Mo_init 100 = .ok (.aload_n 0, 1) := by decide +kernel
theorem d_Mo_init_101 : decode b_Mo_init 101 = .ok (.iconst 4, 1) := by decide +kernel
theorem d_Mo_init_102 : decode b_Mo_init 102 = .ok (.newarray .int, 2) := by decide +kernel
theorem d_Mo_init_104 : decode b_Mo_init 104 = .ok (.putfield 47, 3) := by decide +kernel
theorem d_Mo_init_107 : decode b_Mo_init 107 = .ok (.aload_n 0, 1) := by decide +kernel
theorem d_Mo_init_108 : decode b_Mo_init 108 = .ok (.bipush 40, 2) := by decide +kernel
theorem d_Mo_init_110 : decode b_Mo_init 110 = .ok (.newarray .int, 2) := by decide +kernel
theorem d_Mo_init_112 : decode b_Mo_init 112 = .ok (.putfield 50, 3) := by decide +kernel
theorem d_Mo_init_115 : decode b_Mo_init 115 = .ok (.aload_n 0, 1) := by decide +kernel
theorem d_Mo_init_116 : decode b_Mo_init 116 = .ok (.bipush 40, 2) := by decide +kernel
theorem d_Mo_init_118 : decode b_Mo_init 118 = .ok (.newarray .int, 2) := by decide +kernel
theorem d_Mo_init_120 : decode b_Mo_init 120 = .ok (.putfield 53, 3) := by decide +kernel
theorem d_Mo_init_123 : decode b_Mo_init 123 = .ok (.aload_n 0, 1) := by decide +kernel
theorem d_Mo_init_124 : decode b_Mo_init 124 = .ok (.bipush 40, 2) := by decide +kernel
theorem d_Mo_init_126 : decode b_Mo_init 126 = .ok (.newarray .int, 2) := by decide +kernel
theorem d_Mo_init_128 : decode b_Mo_init 128 = .ok (.putfield 56, 3) := by decide +kernel
theorem d_Mo_init_131 : decode b_Mo_init 131 = .ok (.aload_n 0, 1) := by decide +kernel
theorem d_Mo_init_132 : decode b_Mo_init 132 = .ok (.sipush 160, 3) := by decide +kernel
theorem d_Mo_init_135 : decode b_Mo_init 135 = .ok (.newarray .int, 2) := by decide +kernel
theorem d_Mo_init_137 : decode b_Mo_init 137 = .ok (.putfield 59, 3) := by decide +kernel
theorem d_Mo_init_140 : decode b_Mo_init 140 = .ok (.aload_n 0, 1) := by decide +kernel
theorem d_Mo_init_141 : decode b_Mo_init 141 = .ok (.sipush 760, 3) := by decide +kernel
theorem d_Mo_init_144 : decode b_Mo_init 144 = .ok (.newarray .int, 2) := by decide +kernel
theorem d_Mo_init_146 : decode b_Mo_init 146 = .ok (.putfield 62, 3) := by decide +kernel
theorem d_Mo_init_149 : decode b_Mo_init 149 = .ok (.aload_n 0, 1) := by decide +kernel
theorem d_Mo_init_150 : decode b_Mo_init 150 = .ok (.sipush 760, 3) := by decide +kernel
theorem d_Mo_init_153 : decode b_Mo_init 153 = .ok (.newarray .int, 2) := by decide +kernel
theorem d_Mo_init_155 : decode b_Mo_init 155 = .ok (.putfield 65, 3) := by decide +kernel
theorem d_Mo_init_158 : decode b_Mo_init 158 = .ok (.aload_n 0, 1) := by decide +kernel
theorem d_Mo_init_159 : decode b_Mo_init 159 = .ok (.sipush 760, 3) := by decide +kernel
theorem d_Mo_init_162 : decode b_Mo_init 162 = .ok (.newarray .int, 2) := by decide +kernel
theorem d_Mo_init_164 : decode b_Mo_init 164 = .ok (.putfield 68, 3) := by decide +kernel
theorem d_Mo_init_167 : decode b_Mo_init 167 = .ok (.aload_n 0, 1) := by decide +kernel
theorem d_Mo_init_168 : decode b_Mo_init 168 = .ok (.sipush 756, 3) := by decide +kernel
theorem d_Mo_init_171 : decode b_Mo_init 171 = .ok (.newarray .int, 2) := by decide +kernel
theorem d_Mo_init_173 : decode b_Mo_init 173 = .ok (.putfield 71, 3) := by decide +kernel
theorem d_Mo_init_176 : decode b_Mo_init 176 = .ok (.aload_n 0, 1) := by decide +kernel
theorem d_Mo_init_177 : decode b_Mo_init 177 = .ok (.sipush 756, 3) := by decide +kernel
theorem d_Mo_init_180 : decode b_Mo_init 180 = .ok (.newarray .int, 2) := by decide +kernel
theorem d_Mo_init_182 : decode b_Mo_init 182 = .ok (.putfield 74, 3) := by decide +kernel
theorem d_Mo_init_185 : decode b_Mo_init 185 = .ok (.aload_n 0, 1) := by decide +kernel
theorem d_Mo_init_186 : decode b_Mo_init 186 = .ok (.sipush 756, 3) := by decide +kernel
theorem d_Mo_init_189 : decode b_Mo_init 189 = .ok (.newarray .int, 2) := by decide +kernel
theorem d_Mo_init_191 : decode b_Mo_init 191 = .ok (.putfield 77, 3) := by decide +kernel
theorem d_Mo_init_194 : decode b_Mo_init 194 = .ok (.aload_n 0, 1) := by decide +kernel
theorem d_Mo_init_195 : decode b_Mo_init 195 = .ok (.sipush 756, 3) := by decide +kernel
theorem d_Mo_init_198 : decode b_Mo_init 198 = .ok (.newarray .int, 2) := by decide +kernel
theorem d_Mo_init_200 : decode b_Mo_init 200 = .ok (.putfield 80, 3) := by decide +kernel
theorem d_Mo_init_203 : decode b_Mo_init 203 = .ok (.aload_n 0, 1) := by decide +kernel
theorem d_Mo_init_204 : decode b_Mo_init 204 = .ok (.sipush 756, 3) := by decide +kernel
theorem d_Mo_init_207 : decode b_Mo_init 207 = .ok (.newarray .int, 2) := by decide +kernel
theorem d_Mo_init_209 : decode b_Mo_init 209 = .ok (.putfield 83, 3) := by decide +kernel
theorem d_Mo_init_212 : decode b_Mo_init 212 = .ok (.aload_n 0, 1) := by decide +kernel
theorem d_Mo_init_213 : decode b_Mo_init 213 = .ok (.sipush 760, 3) := by decide +kernel
theorem d_Mo_init_216 : decode b_Mo_init 216 = .ok (.newarray .int, 2) := by decide +kernel
theorem d_Mo_init_218 : decode b_Mo_init 218 = .ok (.putfield 86, 3) := by decide +kernel
theorem d_Mo_init_221 : decode b_Mo_init 221 = .ok (.aload_n 0, 1) := by decide +kernel
theorem d_Mo_init_222 : decode b_Mo_init 222 = .ok (.iload_n 1, 1) := by decide +kernel
theorem d_Mo_init_223 : decode b_Mo_init 223 = .ok (.putfield 89, 3) := by decide +kernel
theorem d_Mo_init_226 : decode b_Mo_init 226 = .ok (.return_, 1) := by decide +kernel
theorem d_Mo_thrown_0 : decode b_Mo_thrown 0 = .ok (.aload_n 0, 1) := by decide +kernel
theorem d_Mo_thrown_1 : decode b_Mo_thrown 1 = .ok (.getfield 93, 3) := by decide +kernel
theorem d_Mo_thrown_4 : decode b_Mo_thrown 4 = .ok (.ireturn, 1) := by decide +kernel
theorem d_Mo_fails_0 : decode b_Mo_fails 0 = .ok (.aload_n 0, 1) := by decide +kernel
theorem d_Mo_fails_1 : decode b_Mo_fails 1 = .ok (.iload_n 1, 1) := by decide +kernel
theorem d_Mo_fails_2 : decode b_Mo_fails 2 = .ok (.putfield 93, 3) := by decide +kernel
theorem d_Mo_fails_5 : decode b_Mo_fails 5 = .ok (.iconst 0, 1) := by decide +kernel
theorem d_Mo_fails_6 : decode b_Mo_fails 6 = .ok (.ireturn, 1) := by decide +kernel
theorem d_Mo_in_0 : decode b_Mo_in 0 = .ok (.iload_n 0, 1) := by decide +kernel
theorem d_Mo_in_1 : decode b_Mo_in 1 = .ok (.iload_n 1, 1) := by decide +kernel
theorem d_Mo_in_2 : decode b_Mo_in 2 = .ok (.if_icmp .lt 12, 3) := by decide +kernel
theorem d_Mo_in_5 : decode b_Mo_in 5 = .ok (.iload_n 0, 1) := by decide +kernel
theorem d_Mo_in_6 : decode b_Mo_in 6 = .ok (.iload_n 2, 1) := by decide +kernel
theorem d_Mo_in_7 : decode b_Mo_in 7 = .ok (.if_icmp .gt 7, 3) := by decide +kernel
theorem d_Mo_in_10 : decode b_Mo_in 10 = .ok (.iconst 1, 1) := by decide +kernel
theorem d_Mo_in_11 : decode b_Mo_in 11 = .ok (.goto 4, 3) := by decide +kernel
theorem d_Mo_in_14 : decode b_Mo_in 14 = .ok (.iconst 0, 1) := by decide +kernel
theorem d_Mo_in_15 : decode b_Mo_in 15 = .ok (.ireturn, 1) := by decide +kernel
theorem d_Mo_recorded_0 : decode b_Mo_recorded 0 = .ok (.aload_n 0, 1) := by decide +kernel
theorem d_Mo_recorded_1 : decode b_Mo_recorded 1 = .ok (.getfield 96, 3) := by decide +kernel
theorem d_Mo_recorded_4 : decode b_Mo_recorded 4 = .ok (.ifCond .eq 22, 3) := by decide +kernel
theorem d_Mo_recorded_7 : decode b_Mo_recorded 7 = .ok (.aload_n 0, 1) := by decide +kernel
theorem d_Mo_recorded_8 : decode b_Mo_recorded 8 = .ok (.getfield 100, 3) := by decide +kernel
theorem d_Mo_recorded_11 : decode b_Mo_recorded 11 = .ok (.ifCond .ne 15, 3) := by decide +kernel
theorem d_Mo_recorded_14 : decode b_Mo_recorded 14 = .ok (.aload_n 0, 1) := by decide +kernel
theorem d_Mo_recorded_15 : decode b_Mo_recorded 15 = .ok (.iconst 0, 1) := by decide +kernel
theorem d_Mo_recorded_16 : decode b_Mo_recorded 16 = .ok (.putfield 96, 3) := by decide +kernel
theorem d_Mo_recorded_19 : decode b_Mo_recorded 19 = .ok (.aload_n 0, 1) := by decide +kernel
theorem d_Mo_recorded_20 : decode b_Mo_recorded 20 = .ok (.iconst 0, 1) := by decide +kernel
theorem d_Mo_recorded_21 : decode b_Mo_recorded 21 = .ok (.putfield 103, 3) := by decide +kernel
theorem d_Mo_recorded_24 : decode b_Mo_recorded 24 = .ok (.iconst 0, 1) := by decide +kernel
theorem d_Mo_recorded_25 : decode b_Mo_recorded 25 = .ok (.ireturn, 1) := by decide +kernel
theorem d_Mo_recorded_26 : decode b_Mo_recorded 26 = .ok (.aload_n 0, 1) := by decide +kernel
theorem d_Mo_recorded_27 : decode b_Mo_recorded 27 = .ok (.aload_n 0, 1) := by decide +kernel
theorem d_Mo_recorded_28 : decode b_Mo_recorded 28 = .ok (.getfield 96, 3) := by decide +kernel
theorem d_Mo_recorded_31 : decode b_Mo_recorded 31 = .ok (.ifCond .eq 12, 3) := by decide +kernel
theorem d_Mo_recorded_34 : decode b_Mo_recorded 34 = .ok (.aload_n 0, 1) := by decide +kernel
theorem d_Mo_recorded_35 : decode b_Mo_recorded 35 = .ok (.getfield 100, 3) := by decide +kernel
theorem d_Mo_recorded_38 : decode b_Mo_recorded 38 = .ok (.iconst 1, 1) := by decide +kernel
theorem d_Mo_recorded_39 : decode b_Mo_recorded 39 = .ok (.isub, 1) := by decide +kernel
theorem d_Mo_recorded_40 : decode b_Mo_recorded 40 = .ok (.goto 7, 3) := by decide +kernel
theorem d_Mo_recorded_43 : decode b_Mo_recorded 43 = .ok (.aload_n 0, 1) := by decide +kernel
theorem d_Mo_recorded_44 : decode b_Mo_recorded 44 = .ok (.getfield 100, 3) := by decide +kernel
theorem d_Mo_recorded_47 : decode b_Mo_recorded 47 = .ok (.putfield 100, 3) := by decide +kernel
theorem d_Mo_recorded_50 : decode b_Mo_recorded 50 = .ok (.iconst 1, 1) := by decide +kernel
theorem d_Mo_recorded_51 : decode b_Mo_recorded 51 = .ok (.ireturn, 1) := by decide +kernel
theorem d_Mo_fuse_0 : decode b_Mo_fuse 0 = .ok (.aload_n 0, 1) := by decide +kernel
theorem d_Mo_fuse_1 : decode b_Mo_fuse 1 = .ok (.iconst 0, 1) := by decide +kernel
theorem d_Mo_fuse_2 : decode b_Mo_fuse 2 = .ok (.putfield 93, 3) := by decide +kernel
theorem d_Mo_fuse_5 : decode b_Mo_fuse 5 = .ok (.iload_n 1, 1) := by decide +kernel
theorem d_Mo_fuse_6 : decode b_Mo_fuse 6 = .ok (.iconst 0, 1) := by decide +kernel
theorem d_Mo_fuse_7 : decode b_Mo_fuse 7 = .ok (.bipush 50, 2) := by decide +kernel
theorem d_Mo_fuse_9 : decode b_Mo_fuse 9 = .ok (.invokestatic 106, 3) := by decide +kernel
theorem d_Mo_fuse_12 : decode b_Mo_fuse 12 = .ok (.ifCond .ne 5, 3) := by decide +kernel
theorem d_Mo_fuse_15 : decode b_Mo_fuse 15 = .ok (.iconst 0, 1) := by decide +kernel
theorem d_Mo_fuse_16 : decode b_Mo_fuse 16 = .ok (.ireturn, 1) := by decide +kernel
theorem d_Mo_fuse_17 : decode b_Mo_fuse 17 = .ok (.aload_n 0, 1) := by decide +kernel
theorem d_Mo_fuse_18 : decode b_Mo_fuse 18 = .ok (.iconst 1, 1) := by decide +kernel
theorem d_Mo_fuse_19 : decode b_Mo_fuse 19 = .ok (.putfield 96, 3) := by decide +kernel
theorem d_Mo_fuse_22 : decode b_Mo_fuse 22 = .ok (.aload_n 0, 1) := by decide +kernel
theorem d_Mo_fuse_23 : decode b_Mo_fuse 23 = .ok (.iload_n 1, 1) := by decide +kernel
theorem d_Mo_fuse_24 : decode b_Mo_fuse 24 = .ok (.putfield 100, 3) := by decide +kernel
theorem d_Mo_fuse_27 : decode b_Mo_fuse 27 = .ok (.iconst 1, 1) := by decide +kernel
theorem d_Mo_fuse_28 : decode b_Mo_fuse 28 = .ok (.ireturn, 1) := by decide +kernel
theorem d_Mo_mix_0 : decode b_Mo_mix 0 = .ok (.iload_n 0, 1) := by decide +kernel
theorem d_Mo_mix_1 : decode b_Mo_mix 1 = .ok (.iload_n 1, 1) := by decide +kernel
theorem d_Mo_mix_2 : decode b_Mo_mix 2 = .ok (.ixor, 1) := by decide +kernel
theorem d_Mo_mix_3 : decode b_Mo_mix 3 = .ok (.ldc 110, 2) := by decide +kernel
theorem d_Mo_mix_5 : decode b_Mo_mix 5 = .ok (.imul, 1) := by decide +kernel
theorem d_Mo_mix_6 : decode b_Mo_mix 6 = .ok (.istore_n 2, 1) := by decide +kernel
theorem d_Mo_mix_7 : decode b_Mo_mix 7 = .ok (.iload_n 2, 1) := by decide +kernel
theorem d_Mo_mix_8 : decode b_Mo_mix 8 = .ok (.iload_n 2, 1) := by decide +kernel
theorem d_Mo_mix_9 : decode b_Mo_mix 9 = .ok (.bipush 15, 2) := by decide +kernel
theorem d_Mo_mix_11 : decode b_Mo_mix 11 = .ok (.iushr, 1) := by decide +kernel
theorem d_Mo_mix_12 : decode b_Mo_mix 12 = .ok (.ixor, 1) := by decide +kernel
theorem d_Mo_mix_13 : decode b_Mo_mix 13 = .ok (.ireturn, 1) := by decide +kernel
theorem d_Mo_seal_0 : decode b_Mo_seal 0 = .ok (.aload_n 0, 1) := by decide +kernel
theorem d_Mo_seal_1 : decode b_Mo_seal 1 = .ok (.iconst 0, 1) := by decide +kernel
theorem d_Mo_seal_2 : decode b_Mo_seal 2 = .ok (.putfield 93, 3) := by decide +kernel
theorem d_Mo_seal_5 : decode b_Mo_seal 5 = .ok (.iconst 0, 1) := by decide +kernel
theorem d_Mo_seal_6 : decode b_Mo_seal 6 = .ok (.iload_n 1, 1) := by decide +kernel
theorem d_Mo_seal_7 : decode b_Mo_seal 7 = .ok (.invokestatic 111, 3) := by decide +kernel
theorem d_Mo_seal_10 : decode b_Mo_seal 10 = .ok (.iload_n 2, 1) := by decide +kernel
theorem d_Mo_seal_11 : decode b_Mo_seal 11 = .ok (.invokestatic 111, 3) := by decide +kernel
theorem d_Mo_seal_14 : decode b_Mo_seal 14 = .ok (.istore 9, 2) := by decide +kernel
theorem d_Mo_seal_16 : decode b_Mo_seal 16 = .ok (.iload 9, 2) := by decide +kernel
theorem d_Mo_seal_18 : decode b_Mo_seal 18 = .ok (.iload_n 3, 1) := by decide +kernel
theorem d_Mo_seal_19 : decode b_Mo_seal 19 = .ok (.invokestatic 111, 3) := by decide +kernel
theorem d_Mo_seal_22 : decode b_Mo_seal 22 = .ok (.istore 9, 2) := by decide +kernel
theorem d_Mo_seal_24 : decode b_Mo_seal 24 = .ok (.iload 9, 2) := by decide +kernel
theorem d_Mo_seal_26 : decode b_Mo_seal 26 = .ok (.iload_n 2, 1) := by decide +kernel
theorem d_Mo_seal_27 : decode b_Mo_seal 27 = .ok (.iconst 1, 1) := by decide +kernel
theorem d_Mo_seal_28 : decode b_Mo_seal 28 = .ok (.if_icmp .ne 7, 3) := by decide +kernel
theorem d_Mo_seal_31 : decode b_Mo_seal 31 = .ok (.iconst 0, 1) := by decide +kernel
theorem d_Mo_seal_32 : decode b_Mo_seal 32 = .ok (.goto 5, 3) := by decide +kernel
theorem d_Mo_seal_35 : decode b_Mo_seal 35 = .ok (.iload 4, 2) := by decide +kernel
theorem d_Mo_seal_37 : decode b_Mo_seal 37 = .ok (.invokestatic 111, 3) := by decide +kernel
theorem d_Mo_seal_40 : decode b_Mo_seal 40 = .ok (.istore 9, 2) := by decide +kernel
theorem d_Mo_seal_42 : decode b_Mo_seal 42 = .ok (.iload 9, 2) := by decide +kernel
theorem d_Mo_seal_44 : decode b_Mo_seal 44 = .ok (.iload_n 2, 1) := by decide +kernel
theorem d_Mo_seal_45 : decode b_Mo_seal 45 = .ok (.iconst 1, 1) := by decide +kernel
theorem d_Mo_seal_46 : decode b_Mo_seal 46 = .ok (.if_icmp .eq 8, 3) := by decide +kernel
theorem d_Mo_seal_49 : decode b_Mo_seal 49 = .ok (.iload_n 2, 1) := by decide +kernel
theorem d_Mo_seal_50 : decode b_Mo_seal 50 = .ok (.iconst 3, 1) := by decide +kernel
theorem d_Mo_seal_51 : decode b_Mo_seal 51 = .ok (.if_icmp .ne 7, 3) := by decide +kernel
theorem d_Mo_seal_54 : decode b_Mo_seal 54 = .ok (.iconst 0, 1) := by decide +kernel
theorem d_Mo_seal_55 : decode b_Mo_seal 55 = .ok (.goto 5, 3) := by decide +kernel
theorem d_Mo_seal_58 : decode b_Mo_seal 58 = .ok (.iload 5, 2) := by decide +kernel
theorem d_Mo_seal_60 : decode b_Mo_seal 60 = .ok (.invokestatic 111, 3) := by decide +kernel
theorem d_Mo_seal_63 : decode b_Mo_seal 63 = .ok (.istore 9, 2) := by decide +kernel
theorem d_Mo_seal_65 : decode b_Mo_seal 65 = .ok (.iload 9, 2) := by decide +kernel
theorem d_Mo_seal_67 : decode b_Mo_seal 67 = .ok (.iload_n 2, 1) := by decide +kernel
theorem d_Mo_seal_68 : decode b_Mo_seal 68 = .ok (.ifCond .eq 13, 3) := by decide +kernel
theorem d_Mo_seal_71 : decode b_Mo_seal 71 = .ok (.iload_n 2, 1) := by decide +kernel
theorem d_Mo_seal_72 : decode b_Mo_seal 72 = .ok (.iconst 1, 1) := by decide +kernel
theorem d_Mo_seal_73 : decode b_Mo_seal 73 = .ok (.if_icmp .eq 8, 3) := by decide +kernel
theorem d_Mo_seal_76 : decode b_Mo_seal 76 = .ok (.iload_n 2, 1) := by decide +kernel
theorem d_Mo_seal_77 : decode b_Mo_seal 77 = .ok (.iconst 3, 1) := by decide +kernel
theorem d_Mo_seal_78 : decode b_Mo_seal 78 = .ok (.if_icmp .ne 7, 3) := by decide +kernel
theorem d_Mo_seal_81 : decode b_Mo_seal 81 = .ok (.iconst 0, 1) := by decide +kernel
theorem d_Mo_seal_82 : decode b_Mo_seal 82 = .ok (.goto 5, 3) := by decide +kernel
theorem d_Mo_seal_85 : decode b_Mo_seal 85 = .ok (.iload 6, 2) := by decide +kernel
theorem d_Mo_seal_87 : decode b_Mo_seal 87 = .ok (.invokestatic 111, 3) := by decide +kernel
theorem d_Mo_seal_90 : decode b_Mo_seal 90 = .ok (.istore 9, 2) := by decide +kernel
theorem d_Mo_seal_92 : decode b_Mo_seal 92 = .ok (.iload 9, 2) := by decide +kernel
theorem d_Mo_seal_94 : decode b_Mo_seal 94 = .ok (.iload 7, 2) := by decide +kernel
theorem d_Mo_seal_96 : decode b_Mo_seal 96 = .ok (.invokestatic 111, 3) := by decide +kernel
theorem d_Mo_seal_99 : decode b_Mo_seal 99 = .ok (.iload 8, 2) := by decide +kernel
theorem d_Mo_seal_101 : decode b_Mo_seal 101 = .ok (.invokestatic 111, 3) := by decide +kernel
theorem d_Mo_seal_104 : decode b_Mo_seal 104 = .ok (.istore 9, 2) := by decide +kernel
theorem d_Mo_seal_106 : decode b_Mo_seal 106 = .ok (.iload 9, 2) := by decide +kernel
theorem d_Mo_seal_108 : decode b_Mo_seal 108 = .ok (.aload_n 0, 1) := by decide +kernel
theorem d_Mo_seal_109 : decode b_Mo_seal 109 = .ok (.getfield 89, 3) := by decide +kernel
theorem d_Mo_seal_112 : decode b_Mo_seal 112 = .ok (.bipush 97, 2) := by decide +kernel
theorem d_Mo_seal_114 : decode b_Mo_seal 114 = .ok (.iload_n 1, 1) := by decide +kernel
theorem d_Mo_seal_115 : decode b_Mo_seal 115 = .ok (.imul, 1) := by decide +kernel
theorem d_Mo_seal_116 : decode b_Mo_seal 116 = .ok (.iadd, 1) := by decide +kernel
theorem d_Mo_seal_117 : decode b_Mo_seal 117 = .ok (.ixor, 1) := by decide +kernel
theorem d_Mo_seal_118 : decode b_Mo_seal 118 = .ok (.ldc 115, 2) := by decide +kernel
theorem d_Mo_seal_120 : decode b_Mo_seal 120 = .ok (.imul, 1) := by decide +kernel
theorem d_Mo_seal_121 : decode b_Mo_seal 121 = .ok (.ireturn, 1) := by decide +kernel
theorem d_Mo_set_0 : decode b_Mo_set 0 = .ok (.aload_n 0, 1) := by decide +kernel
theorem d_Mo_set_1 : decode b_Mo_set 1 = .ok (.iconst 0, 1) := by decide +kernel
theorem d_Mo_set_2 : decode b_Mo_set 2 = .ok (.putfield 93, 3) := by decide +kernel
theorem d_Mo_set_5 : decode b_Mo_set 5 = .ok (.aload_n 0, 1) := by decide +kernel
theorem d_Mo_set_6 : decode b_Mo_set 6 = .ok (.getfield 47, 3) := by decide +kernel
theorem d_Mo_set_9 : decode b_Mo_set 9 = .ok (.iconst 0, 1) := by decide +kernel
theorem d_Mo_set_10 : decode b_Mo_set 10 = .ok (.iload_n 1, 1) := by decide +kernel
theorem d_Mo_set_11 : decode b_Mo_set 11 = .ok (.iastore, 1) := by decide +kernel
theorem d_Mo_set_12 : decode b_Mo_set 12 = .ok (.aload_n 0, 1) := by decide +kernel
theorem d_Mo_set_13 : decode b_Mo_set 13 = .ok (.getfield 47, 3) := by decide +kernel
theorem d_Mo_set_16 : decode b_Mo_set 16 = .ok (.iconst 1, 1) := by decide +kernel
theorem d_Mo_set_17 : decode b_Mo_set 17 = .ok (.iload_n 2, 1) := by decide +kernel
theorem d_Mo_set_18 : decode b_Mo_set 18 = .ok (.iastore, 1) := by decide +kernel
theorem d_Mo_set_19 : decode b_Mo_set 19 = .ok (.aload_n 0, 1) := by decide +kernel
theorem d_Mo_set_20 : decode b_Mo_set 20 = .ok (.getfield 47, 3) := by decide +kernel
theorem d_Mo_set_23 : decode b_Mo_set 23 = .ok (.iconst 2, 1) := by decide +kernel
theorem d_Mo_set_24 : decode b_Mo_set 24 = .ok (.iload_n 3, 1) := by decide +kernel
theorem d_Mo_set_25 : decode b_Mo_set 25 = .ok (.iastore, 1) := by decide +kernel
theorem d_Mo_set_26 : decode b_Mo_set 26 = .ok (.aload_n 0, 1) := by decide +kernel
theorem d_Mo_set_27 : decode b_Mo_set 27 = .ok (.getfield 47, 3) := by decide +kernel
theorem d_Mo_set_30 : decode b_Mo_set 30 = .ok (.iconst 3, 1) := by decide +kernel
theorem d_Mo_set_31 : decode b_Mo_set 31 = .ok (.iload 4, 2) := by decide +kernel
theorem d_Mo_set_33 : decode b_Mo_set 33 = .ok (.iastore, 1) := by decide +kernel
theorem d_Mo_set_34 : decode b_Mo_set 34 = .ok (.return_, 1) := by decide +kernel
theorem d_Mo_isPerson_0 : decode b_Mo_isPerson 0 = .ok (.iload_n 0, 1) := by decide +kernel
theorem d_Mo_isPerson_1 : decode b_Mo_isPerson 1 = .ok (.iconst 0, 1) := by decide +kernel
theorem d_Mo_isPerson_2 : decode b_Mo_isPerson 2 = .ok (.iconst 5, 1) := by decide +kernel
theorem d_Mo_isPerson_3 : decode b_Mo_isPerson 3 = .ok (.invokestatic 106, 3) := by decide +kernel
theorem d_Mo_isPerson_6 : decode b_Mo_isPerson 6 = .ok (.ireturn, 1) := by decide +kernel
theorem d_Mo_isRight_0 : decode b_Mo_isRight 0 = .ok (.iload_n 0, 1) := by decide +kernel
theorem d_Mo_isRight_1 : decode b_Mo_isRight 1 = .ok (.iconst 0, 1) := by decide +kernel
theorem d_Mo_isRight_2 : decode b_Mo_isRight 2 = .ok (.iconst 3, 1) := by decide +kernel
theorem d_Mo_isRight_3 : decode b_Mo_isRight 3 = .ok (.invokestatic 106, 3) := by decide +kernel
theorem d_Mo_isRight_6 : decode b_Mo_isRight 6 = .ok (.ireturn, 1) := by decide +kernel
theorem d_Mo_isFit_0 : decode b_Mo_isFit 0 = .ok (.iload_n 1, 1) := by decide +kernel
theorem d_Mo_isFit_1 : decode b_Mo_isFit 1 = .ok (.ifCond .ne 47, 3) := by decide +kernel
theorem d_Mo_isFit_4 : decode b_Mo_isFit 4 = .ok (.aload_n 0, 1) := by decide +kernel
theorem d_Mo_isFit_5 : decode b_Mo_isFit 5 = .ok (.getfield 47, 3) := by decide +kernel
theorem d_Mo_isFit_8 : decode b_Mo_isFit 8 = .ok (.iconst 0, 1) := by decide +kernel
theorem d_Mo_isFit_9 : decode b_Mo_isFit 9 = .ok (.iaload, 1) := by decide +kernel
theorem d_Mo_isFit_10 : decode b_Mo_isFit 10 = .ok (.invokestatic 116, 3) := by decide +kernel
theorem d_Mo_isFit_13 : decode b_Mo_isFit 13 = .ok (.ifCond .eq 33, 3) := by decide +kernel
theorem d_Mo_isFit_16 : decode b_Mo_isFit 16 = .ok (.aload_n 0, 1) := by decide +kernel
theorem d_Mo_isFit_17 : decode b_Mo_isFit 17 = .ok (.getfield 47, 3) := by decide +kernel
theorem d_Mo_isFit_20 : decode b_Mo_isFit 20 = .ok (.iconst 1, 1) := by decide +kernel
theorem d_Mo_isFit_21 : decode b_Mo_isFit 21 = .ok (.iaload, 1) := by decide +kernel
theorem d_Mo_isFit_22 : decode b_Mo_isFit 22 = .ok (.invokestatic 120, 3) := by decide +kernel
theorem d_Mo_isFit_25 : decode b_Mo_isFit 25 = .ok (.ifCond .eq 21, 3) := by decide +kernel
theorem d_Mo_isFit_28 : decode b_Mo_isFit 28 = .ok (.aload_n 0, 1) := by decide +kernel
theorem d_Mo_isFit_29 : decode b_Mo_isFit 29 = .ok (.getfield 47, 3) := by decide +kernel
theorem d_Mo_isFit_32 : decode b_Mo_isFit 32 = .ok (.iconst 2, 1) := by decide +kernel
theorem d_Mo_isFit_33 : decode b_Mo_isFit 33 = .ok (.iaload, 1) := by decide +kernel
theorem d_Mo_isFit_34 : decode b_Mo_isFit 34 = .ok (.iconst 0, 1) := by decide +kernel
theorem d_Mo_isFit_35 : decode b_Mo_isFit 35 = .ok (.iconst 5, 1) := by decide +kernel
theorem d_Mo_isFit_36 : decode b_Mo_isFit 36 = .ok (.invokestatic 106, 3) := by decide +kernel
theorem d_Mo_isFit_39 : decode b_Mo_isFit 39 = .ok (.ifCond .eq 7, 3) := by decide +kernel
theorem d_Mo_isFit_42 : decode b_Mo_isFit 42 = .ok (.iconst 1, 1) := by decide +kernel
theorem d_Mo_isFit_43 : decode b_Mo_isFit 43 = .ok (.goto 4, 3) := by decide +kernel
theorem d_Mo_isFit_46 : decode b_Mo_isFit 46 = .ok (.iconst 0, 1) := by decide +kernel
theorem d_Mo_isFit_47 : decode b_Mo_isFit 47 = .ok (.ireturn, 1) := by decide +kernel
theorem d_Mo_isFit_48 : decode b_Mo_isFit 48 = .ok (.iload_n 1, 1) := by decide +kernel
theorem d_Mo_isFit_49 : decode b_Mo_isFit 49 = .ok (.iconst 1, 1) := by decide +kernel
theorem d_Mo_isFit_50 : decode b_Mo_isFit 50 = .ok (.if_icmp .ne 13, 3) := by decide +kernel
theorem d_Mo_isFit_53 : decode b_Mo_isFit 53 = .ok (.aload_n 0, 1) := by decide +kernel
theorem d_Mo_isFit_54 : decode b_Mo_isFit 54 = .ok (.getfield 47, 3) := by decide +kernel
theorem d_Mo_isFit_57 : decode b_Mo_isFit 57 = .ok (.iconst 0, 1) := by decide +kernel
theorem d_Mo_isFit_58 : decode b_Mo_isFit 58 = .ok (.iaload, 1) := by decide +kernel
theorem d_Mo_isFit_59 : decode b_Mo_isFit 59 = .ok (.invokestatic 116, 3) := by decide +kernel
theorem d_Mo_isFit_62 : decode b_Mo_isFit 62 = .ok (.ireturn, 1) := by decide +kernel
theorem d_Mo_isFit_63 : decode b_Mo_isFit 63 = .ok (.iload_n 1, 1) := by decide +kernel
theorem d_Mo_isFit_64 : decode b_Mo_isFit 64 = .ok (.iconst 3, 1) := by decide +kernel
theorem d_Mo_isFit_65 : decode b_Mo_isFit 65 = .ok (.if_icmp .ne 33, 3) := by decide +kernel
theorem d_Mo_isFit_68 : decode b_Mo_isFit 68 = .ok (.aload_n 0, 1) := by decide +kernel
theorem d_Mo_isFit_69 : decode b_Mo_isFit 69 = .ok (.getfield 47, 3) := by decide +kernel
theorem d_Mo_isFit_72 : decode b_Mo_isFit 72 = .ok (.iconst 0, 1) := by decide +kernel
theorem d_Mo_isFit_73 : decode b_Mo_isFit 73 = .ok (.iaload, 1) := by decide +kernel
theorem d_Mo_isFit_74 : decode b_Mo_isFit 74 = .ok (.invokestatic 120, 3) := by decide +kernel
theorem d_Mo_isFit_77 : decode b_Mo_isFit 77 = .ok (.ifCond .eq 19, 3) := by decide +kernel
theorem d_Mo_isFit_80 : decode b_Mo_isFit 80 = .ok (.aload_n 0, 1) := by decide +kernel
theorem d_Mo_isFit_81 : decode b_Mo_isFit 81 = .ok (.getfield 47, 3) := by decide +kernel
theorem d_Mo_isFit_84 : decode b_Mo_isFit 84 = .ok (.iconst 1, 1) := by decide +kernel
theorem d_Mo_isFit_85 : decode b_Mo_isFit 85 = .ok (.iaload, 1) := by decide +kernel
theorem d_Mo_isFit_86 : decode b_Mo_isFit 86 = .ok (.invokestatic 120, 3) := by decide +kernel
theorem d_Mo_isFit_89 : decode b_Mo_isFit 89 = .ok (.ifCond .eq 7, 3) := by decide +kernel
theorem d_Mo_isFit_92 : decode b_Mo_isFit 92 = .ok (.iconst 1, 1) := by decide +kernel
theorem d_Mo_isFit_93 : decode b_Mo_isFit 93 = .ok (.goto 4, 3) := by decide +kernel
theorem d_Mo_isFit_96 : decode b_Mo_isFit 96 = .ok (.iconst 0, 1) := by decide +kernel
theorem d_Mo_isFit_97 : decode b_Mo_isFit 97 = .ok (.ireturn, 1) := by decide +kernel
theorem d_Mo_isFit_98 : decode b_Mo_isFit 98 = .ok (.iload_n 1, 1) := by decide +kernel
theorem d_Mo_isFit_99 : decode b_Mo_isFit 99 = .ok (.iconst 2, 1) := by decide +kernel
theorem d_Mo_isFit_100 : decode b_Mo_isFit 100 = .ok (.if_icmp .ne 59, 3) := by decide +kernel
theorem d_Mo_isFit_103 : decode b_Mo_isFit 103 = .ok (.aload_n 0, 1) := by decide +kernel
theorem d_Mo_isFit_104 : decode b_Mo_isFit 104 = .ok (.getfield 47, 3) := by decide +kernel
theorem d_Mo_isFit_107 : decode b_Mo_isFit 107 = .ok (.iconst 0, 1) := by decide +kernel
theorem d_Mo_isFit_108 : decode b_Mo_isFit 108 = .ok (.iaload, 1) := by decide +kernel
theorem d_Mo_isFit_109 : decode b_Mo_isFit 109 = .ok (.invokestatic 116, 3) := by decide +kernel
theorem d_Mo_isFit_112 : decode b_Mo_isFit 112 = .ok (.ifCond .eq 47, 3) := by decide +kernel
theorem d_Mo_isFit_115 : decode b_Mo_isFit 115 = .ok (.aload_n 0, 1) := by decide +kernel
theorem d_Mo_isFit_116 : decode b_Mo_isFit 116 = .ok (.getfield 47, 3) := by decide +kernel
theorem d_Mo_isFit_119 : decode b_Mo_isFit 119 = .ok (.iconst 1, 1) := by decide +kernel
theorem d_Mo_isFit_120 : decode b_Mo_isFit 120 = .ok (.iaload, 1) := by decide +kernel
theorem d_Mo_isFit_121 : decode b_Mo_isFit 121 = .ok (.invokestatic 120, 3) := by decide +kernel
theorem d_Mo_isFit_124 : decode b_Mo_isFit 124 = .ok (.ifCond .eq 35, 3) := by decide +kernel
theorem d_Mo_isFit_127 : decode b_Mo_isFit 127 = .ok (.aload_n 0, 1) := by decide +kernel
theorem d_Mo_isFit_128 : decode b_Mo_isFit 128 = .ok (.getfield 47, 3) := by decide +kernel
theorem d_Mo_isFit_131 : decode b_Mo_isFit 131 = .ok (.iconst 2, 1) := by decide +kernel
theorem d_Mo_isFit_132 : decode b_Mo_isFit 132 = .ok (.iaload, 1) := by decide +kernel
theorem d_Mo_isFit_133 : decode b_Mo_isFit 133 = .ok (.iconst 0, 1) := by decide +kernel
theorem d_Mo_isFit_134 : decode b_Mo_isFit 134 = .ok (.iconst 5, 1) := by decide +kernel
theorem d_Mo_isFit_135 : decode b_Mo_isFit 135 = .ok (.invokestatic 106, 3) := by decide +kernel
theorem d_Mo_isFit_138 : decode b_Mo_isFit 138 = .ok (.ifCond .eq 21, 3) := by decide +kernel
theorem d_Mo_isFit_141 : decode b_Mo_isFit 141 = .ok (.aload_n 0, 1) := by decide +kernel
theorem d_Mo_isFit_142 : decode b_Mo_isFit 142 = .ok (.getfield 47, 3) := by decide +kernel
theorem d_Mo_isFit_145 : decode b_Mo_isFit 145 = .ok (.iconst 3, 1) := by decide +kernel
theorem d_Mo_isFit_146 : decode b_Mo_isFit 146 = .ok (.iaload, 1) := by decide +kernel
theorem d_Mo_isFit_147 : decode b_Mo_isFit 147 = .ok (.iconst 0, 1) := by decide +kernel
theorem d_Mo_isFit_148 : decode b_Mo_isFit 148 = .ok (.iconst 3, 1) := by decide +kernel
theorem d_Mo_isFit_149 : decode b_Mo_isFit 149 = .ok (.invokestatic 106, 3) := by decide +kernel
theorem d_Mo_isFit_152 : decode b_Mo_isFit 152 = .ok (.ifCond .eq 7, 3) := by decide +kernel
theorem d_Mo_isFit_155 : decode b_Mo_isFit 155 = .ok (.iconst 1, 1) := by decide +kernel
theorem d_Mo_isFit_156 : decode b_Mo_isFit 156 = .ok (.goto 4, 3) := by decide +kernel
theorem d_Mo_isFit_159 : decode b_Mo_isFit 159 = .ok (.iconst 0, 1) := by decide +kernel
theorem d_Mo_isFit_160 : decode b_Mo_isFit 160 = .ok (.ireturn, 1) := by decide +kernel
theorem d_Mo_submit_0 : decode b_Mo_submit 0 = .ok (.aload_n 0, 1) := by decide +kernel
theorem d_Mo_submit_1 : decode b_Mo_submit 1 = .ok (.iconst 0, 1) := by decide +kernel
theorem d_Mo_submit_2 : decode b_Mo_submit 2 = .ok (.putfield 93, 3) := by decide +kernel
theorem d_Mo_submit_5 : decode b_Mo_submit 5 = .ok (.iload_n 1, 1) := by decide +kernel
theorem d_Mo_submit_6 : decode b_Mo_submit 6 = .ok (.invokestatic 116, 3) := by decide +kernel
theorem d_Mo_submit_9 : decode b_Mo_submit 9 = .ok (.ifCond .eq 11, 3) := by decide +kernel
theorem d_Mo_submit_12 : decode b_Mo_submit 12 = .ok (.aload_n 0, 1) := by decide +kernel
theorem d_Mo_submit_13 : decode b_Mo_submit 13 = .ok (.iload_n 2, 1) := by decide +kernel
theorem d_Mo_submit_14 : decode b_Mo_submit 14 = .ok (.invokevirtual 123, 3) := by decide +kernel
theorem d_Mo_submit_17 : decode b_Mo_submit 17 = .ok (.ifCond .ne 9, 3) := by decide +kernel
theorem d_Mo_submit_20 : decode b_Mo_submit 20 = .ok (.aload_n 0, 1) := by decide +kernel
theorem d_Mo_submit_21 : decode b_Mo_submit 21 = .ok (.iconst 1, 1) := by decide +kernel
theorem d_Mo_submit_22 : decode b_Mo_submit 22 = .ok (.invokevirtual 126, 3) := by decide +kernel
theorem d_Mo_submit_25 : decode b_Mo_submit 25 = .ok (.ireturn, 1) := by decide +kernel
theorem d_Mo_submit_26 : decode b_Mo_submit 26 = .ok (.aload_n 0, 1) := by decide +kernel
theorem d_Mo_submit_27 : decode b_Mo_submit 27 = .ok (.iload_n 1, 1) := by decide +kernel
theorem d_Mo_submit_28 : decode b_Mo_submit 28 = .ok (.iload_n 2, 1) := by decide +kernel
theorem d_Mo_submit_29 : decode b_Mo_submit 29 = .ok (.aload_n 0, 1) := by decide +kernel
theorem d_Mo_submit_30 : decode b_Mo_submit 30 = .ok (.getfield 47, 3) := by decide +kernel
theorem d_Mo_submit_33 : decode b_Mo_submit 33 = .ok (.iconst 0, 1) := by decide +kernel
theorem d_Mo_submit_34 : decode b_Mo_submit 34 = .ok (.iaload, 1) := by decide +kernel
theorem d_Mo_submit_35 : decode b_Mo_submit 35 = .ok (.aload_n 0, 1) := by decide +kernel
theorem d_Mo_submit_36 : decode b_Mo_submit 36 = .ok (.getfield 47, 3) := by decide +kernel
theorem d_Mo_submit_39 : decode b_Mo_submit 39 = .ok (.iconst 1, 1) := by decide +kernel
theorem d_Mo_submit_40 : decode b_Mo_submit 40 = .ok (.iaload, 1) := by decide +kernel
theorem d_Mo_submit_41 : decode b_Mo_submit 41 = .ok (.aload_n 0, 1) := by decide +kernel
theorem d_Mo_submit_42 : decode b_Mo_submit 42 = .ok (.getfield 47, 3) := by decide +kernel
theorem d_Mo_submit_45 : decode b_Mo_submit 45 = .ok (.iconst 2, 1) := by decide +kernel
theorem d_Mo_submit_46 : decode b_Mo_submit 46 = .ok (.iaload, 1) := by decide +kernel
theorem d_Mo_submit_47 : decode b_Mo_submit 47 = .ok (.aload_n 0, 1) := by decide +kernel
theorem d_Mo_submit_48 : decode b_Mo_submit 48 = .ok (.getfield 47, 3) := by decide +kernel
theorem d_Mo_submit_51 : decode b_Mo_submit 51 = .ok (.iconst 3, 1) := by decide +kernel
theorem d_Mo_submit_52 : decode b_Mo_submit 52 = .ok (.iaload, 1) := by decide +kernel
theorem d_Mo_submit_53 : decode b_Mo_submit 53 = .ok (.iload_n 3, 1) := by decide +kernel
theorem d_Mo_submit_54 : decode b_Mo_submit 54 = .ok (.iload 4, 2) := by decide +kernel
theorem d_Mo_submit_56 : decode b_Mo_submit 56 = .ok (.invokevirtual 130, 3) := by decide +kernel
theorem d_Mo_submit_59 : decode b_Mo_submit 59 = .ok (.iload 5, 2) := by decide +kernel
theorem d_Mo_submit_61 : decode b_Mo_submit 61 = .ok (.if_icmp .eq 9, 3) := by decide +kernel
theorem d_Mo_submit_64 : decode b_Mo_submit 64 = .ok (.aload_n 0, 1) := by decide +kernel
theorem d_Mo_submit_65 : decode b_Mo_submit 65 = .ok (.iconst 2, 1) := by decide +kernel
theorem d_Mo_submit_66 : decode b_Mo_submit 66 = .ok (.invokevirtual 126, 3) := by decide +kernel
theorem d_Mo_submit_69 : decode b_Mo_submit 69 = .ok (.ireturn, 1) := by decide +kernel
theorem d_Mo_submit_70 : decode b_Mo_submit 70 = .ok (.aload_n 0, 1) := by decide +kernel
theorem d_Mo_submit_71 : decode b_Mo_submit 71 = .ok (.getfield 134, 3) := by decide +kernel
theorem d_Mo_submit_74 : decode b_Mo_submit 74 = .ok (.bipush 24, 2) := by decide +kernel
theorem d_Mo_submit_76 : decode b_Mo_submit 76 = .ok (.if_icmp .eq 10, 3) := by decide +kernel
theorem d_Mo_submit_79 : decode b_Mo_submit 79 = .ok (.aload_n 0, 1) := by decide +kernel
theorem d_Mo_submit_80 : decode b_Mo_submit 80 = .ok (.invokevirtual 137, 3) := by decide +kernel
theorem d_Mo_submit_83 : decode b_Mo_submit 83 = .ok (.ifCond .ne 9, 3) := by decide +kernel
theorem d_Mo_submit_86 : decode b_Mo_submit 86 = .ok (.aload_n 0, 1) := by decide +kernel
theorem d_Mo_submit_87 : decode b_Mo_submit 87 = .ok (.iconst 3, 1) := by decide +kernel
theorem d_Mo_submit_88 : decode b_Mo_submit 88 = .ok (.invokevirtual 126, 3) := by decide +kernel
theorem d_Mo_submit_91 : decode b_Mo_submit 91 = .ok (.ireturn, 1) := by decide +kernel
theorem d_Mo_submit_92 : decode b_Mo_submit 92 = .ok (.aload_n 0, 1) := by decide +kernel
theorem d_Mo_submit_93 : decode b_Mo_submit 93 = .ok (.dup, 1) := by decide +kernel
theorem d_Mo_submit_94 : decode b_Mo_submit 94 = .ok (.getfield 134, 3) := by decide +kernel
theorem d_Mo_submit_97 : decode b_Mo_submit 97 = .ok (.iconst 1, 1) := by decide +kernel
theorem d_Mo_submit_98 : decode b_Mo_submit 98 = .ok (.iadd, 1) := by decide +kernel
theorem d_Mo_submit_99 : decode b_Mo_submit 99 = .ok (.putfield 134, 3) := by decide +kernel
theorem d_Mo_submit_102 : decode b_Mo_submit 102 = .ok (.aload_n 0, 1) := by decide +kernel
theorem d_Mo_submit_103 : decode b_Mo_submit 103 = .ok (.getfield 134, 3) := by decide +kernel
theorem d_Mo_submit_106 : decode b_Mo_submit 106 = .ok (.istore 6, 2) := by decide +kernel
theorem d_Mo_submit_108 : decode b_Mo_submit 108 = .ok (.aload_n 0, 1) := by decide +kernel
theorem d_Mo_submit_109 : decode b_Mo_submit 109 = .ok (.getfield 20, 3) := by decide +kernel
theorem d_Mo_submit_112 : decode b_Mo_submit 112 = .ok (.iload 6, 2) := by decide +kernel
theorem d_Mo_submit_114 : decode b_Mo_submit 114 = .ok (.iload_n 1, 1) := by decide +kernel
theorem d_Mo_submit_115 : decode b_Mo_submit 115 = .ok (.iastore, 1) := by decide +kernel
theorem d_Mo_submit_116 : decode b_Mo_submit 116 = .ok (.aload_n 0, 1) := by decide +kernel
theorem d_Mo_submit_117 : decode b_Mo_submit 117 = .ok (.getfield 23, 3) := by decide +kernel
theorem d_Mo_submit_120 : decode b_Mo_submit 120 = .ok (.iload 6, 2) := by decide +kernel
theorem d_Mo_submit_122 : decode b_Mo_submit 122 = .ok (.iload_n 2, 1) := by decide +kernel
theorem d_Mo_submit_123 : decode b_Mo_submit 123 = .ok (.iastore, 1) := by decide +kernel
theorem d_Mo_submit_124 : decode b_Mo_submit 124 = .ok (.aload_n 0, 1) := by decide +kernel
theorem d_Mo_submit_125 : decode b_Mo_submit 125 = .ok (.getfield 26, 3) := by decide +kernel
theorem d_Mo_submit_128 : decode b_Mo_submit 128 = .ok (.iload 6, 2) := by decide +kernel
theorem d_Mo_submit_130 : decode b_Mo_submit 130 = .ok (.aload_n 0, 1) := by decide +kernel
theorem d_Mo_submit_131 : decode b_Mo_submit 131 = .ok (.getfield 47, 3) := by decide +kernel
theorem d_Mo_submit_134 : decode b_Mo_submit 134 = .ok (.iconst 0, 1) := by decide +kernel
theorem d_Mo_submit_135 : decode b_Mo_submit 135 = .ok (.iaload, 1) := by decide +kernel
theorem d_Mo_submit_136 : decode b_Mo_submit 136 = .ok (.iastore, 1) := by decide +kernel
theorem d_Mo_submit_137 : decode b_Mo_submit 137 = .ok (.aload_n 0, 1) := by decide +kernel
theorem d_Mo_submit_138 : decode b_Mo_submit 138 = .ok (.getfield 29, 3) := by decide +kernel
theorem d_Mo_submit_141 : decode b_Mo_submit 141 = .ok (.iload 6, 2) := by decide +kernel
theorem d_Mo_submit_143 : decode b_Mo_submit 143 = .ok (.aload_n 0, 1) := by decide +kernel
theorem d_Mo_submit_144 : decode b_Mo_submit 144 = .ok (.getfield 47, 3) := by decide +kernel
theorem d_Mo_submit_147 : decode b_Mo_submit 147 = .ok (.iconst 1, 1) := by decide +kernel
theorem d_Mo_submit_148 : decode b_Mo_submit 148 = .ok (.iaload, 1) := by decide +kernel
theorem d_Mo_submit_149 : decode b_Mo_submit 149 = .ok (.iastore, 1) := by decide +kernel
theorem d_Mo_submit_150 : decode b_Mo_submit 150 = .ok (.aload_n 0, 1) := by decide +kernel
theorem d_Mo_submit_151 : decode b_Mo_submit 151 = .ok (.getfield 32, 3) := by decide +kernel
theorem d_Mo_submit_154 : decode b_Mo_submit 154 = .ok (.iload 6, 2) := by decide +kernel
theorem d_Mo_submit_156 : decode b_Mo_submit 156 = .ok (.aload_n 0, 1) := by decide +kernel
theorem d_Mo_submit_157 : decode b_Mo_submit 157 = .ok (.getfield 47, 3) := by decide +kernel
theorem d_Mo_submit_160 : decode b_Mo_submit 160 = .ok (.iconst 2, 1) := by decide +kernel
theorem d_Mo_submit_161 : decode b_Mo_submit 161 = .ok (.iaload, 1) := by decide +kernel
theorem d_Mo_submit_162 : decode b_Mo_submit 162 = .ok (.iastore, 1) := by decide +kernel
theorem d_Mo_submit_163 : decode b_Mo_submit 163 = .ok (.aload_n 0, 1) := by decide +kernel
theorem d_Mo_submit_164 : decode b_Mo_submit 164 = .ok (.getfield 35, 3) := by decide +kernel
theorem d_Mo_submit_167 : decode b_Mo_submit 167 = .ok (.iload 6, 2) := by decide +kernel
theorem d_Mo_submit_169 : decode b_Mo_submit 169 = .ok (.aload_n 0, 1) := by decide +kernel
theorem d_Mo_submit_170 : decode b_Mo_submit 170 = .ok (.getfield 47, 3) := by decide +kernel
theorem d_Mo_submit_173 : decode b_Mo_submit 173 = .ok (.iconst 3, 1) := by decide +kernel
theorem d_Mo_submit_174 : decode b_Mo_submit 174 = .ok (.iaload, 1) := by decide +kernel
theorem d_Mo_submit_175 : decode b_Mo_submit 175 = .ok (.iastore, 1) := by decide +kernel
theorem d_Mo_submit_176 : decode b_Mo_submit 176 = .ok (.aload_n 0, 1) := by decide +kernel
theorem d_Mo_submit_177 : decode b_Mo_submit 177 = .ok (.getfield 38, 3) := by decide +kernel
theorem d_Mo_submit_180 : decode b_Mo_submit 180 = .ok (.iload 6, 2) := by decide +kernel
theorem d_Mo_submit_182 : decode b_Mo_submit 182 = .ok (.iload_n 3, 1) := by decide +kernel
theorem d_Mo_submit_183 : decode b_Mo_submit 183 = .ok (.iastore, 1) := by decide +kernel
theorem d_Mo_submit_184 : decode b_Mo_submit 184 = .ok (.aload_n 0, 1) := by decide +kernel
theorem d_Mo_submit_185 : decode b_Mo_submit 185 = .ok (.getfield 41, 3) := by decide +kernel
theorem d_Mo_submit_188 : decode b_Mo_submit 188 = .ok (.iload 6, 2) := by decide +kernel
theorem d_Mo_submit_190 : decode b_Mo_submit 190 = .ok (.iload 4, 2) := by decide +kernel
theorem d_Mo_submit_192 : decode b_Mo_submit 192 = .ok (.iastore, 1) := by decide +kernel
theorem d_Mo_submit_193 : decode b_Mo_submit 193 = .ok (.iload 6, 2) := by decide +kernel
theorem d_Mo_submit_195 : decode b_Mo_submit 195 = .ok (.ireturn, 1) := by decide +kernel
theorem d_Mo_revoke_0 : decode b_Mo_revoke 0 = .ok (.aload_n 0, 1) := by decide +kernel
theorem d_Mo_revoke_1 : decode b_Mo_revoke 1 = .ok (.iconst 0, 1) := by decide +kernel
theorem d_Mo_revoke_2 : decode b_Mo_revoke 2 = .ok (.putfield 93, 3) := by decide +kernel
theorem d_Mo_revoke_5 : decode b_Mo_revoke 5 = .ok (.iload_n 2, 1) := by decide +kernel
theorem d_Mo_revoke_6 : decode b_Mo_revoke 6 = .ok (.iconst 1, 1) := by decide +kernel
theorem d_Mo_revoke_7 : decode b_Mo_revoke 7 = .ok (.aload_n 0, 1) := by decide +kernel
theorem d_Mo_revoke_8 : decode b_Mo_revoke 8 = .ok (.getfield 134, 3) := by decide +kernel
theorem d_Mo_revoke_11 : decode b_Mo_revoke 11 = .ok (.invokestatic 106, 3) := by decide +kernel
theorem d_Mo_revoke_14 : decode b_Mo_revoke 14 = .ok (.ifCond .ne 11, 3) := by decide +kernel
theorem d_Mo_revoke_17 : decode b_Mo_revoke 17 = .ok (.aload_n 0, 1) := by decide +kernel
theorem d_Mo_revoke_18 : decode b_Mo_revoke 18 = .ok (.iconst 1, 1) := by decide +kernel
theorem d_Mo_revoke_19 : decode b_Mo_revoke 19 = .ok (.putfield 93, 3) := by decide +kernel
theorem d_Mo_revoke_22 : decode b_Mo_revoke 22 = .ok (.goto 54, 3) := by decide +kernel
theorem d_Mo_revoke_25 : decode b_Mo_revoke 25 = .ok (.aload_n 0, 1) := by decide +kernel
theorem d_Mo_revoke_26 : decode b_Mo_revoke 26 = .ok (.getfield 20, 3) := by decide +kernel
theorem d_Mo_revoke_29 : decode b_Mo_revoke 29 = .ok (.iload_n 2, 1) := by decide +kernel
theorem d_Mo_revoke_30 : decode b_Mo_revoke 30 = .ok (.iaload, 1) := by decide +kernel
theorem d_Mo_revoke_31 : decode b_Mo_revoke 31 = .ok (.iload_n 1, 1) := by decide +kernel
theorem d_Mo_revoke_32 : decode b_Mo_revoke 32 = .ok (.if_icmp .eq 11, 3) := by decide +kernel
theorem d_Mo_revoke_35 : decode b_Mo_revoke 35 = .ok (.aload_n 0, 1) := by decide +kernel
theorem d_Mo_revoke_36 : decode b_Mo_revoke 36 = .ok (.iconst 2, 1) := by decide +kernel
theorem d_Mo_revoke_37 : decode b_Mo_revoke 37 = .ok (.putfield 93, 3) := by decide +kernel
theorem d_Mo_revoke_40 : decode b_Mo_revoke 40 = .ok (.goto 36, 3) := by decide +kernel
theorem d_Mo_revoke_43 : decode b_Mo_revoke 43 = .ok (.aload_n 0, 1) := by decide +kernel
theorem d_Mo_revoke_44 : decode b_Mo_revoke 44 = .ok (.getfield 44, 3) := by decide +kernel
theorem d_Mo_revoke_47 : decode b_Mo_revoke 47 = .ok (.iload_n 2, 1) := by decide +kernel
theorem d_Mo_revoke_48 : decode b_Mo_revoke 48 = .ok (.baload, 1) := by decide +kernel
theorem d_Mo_revoke_49 : decode b_Mo_revoke 49 = .ok (.ifCond .eq 5, 3) := by decide +kernel
theorem d_Mo_revoke_52 : decode b_Mo_revoke 52 = .ok (.iconst 0, 1) := by decide +kernel
theorem d_Mo_revoke_53 : decode b_Mo_revoke 53 = .ok (.ireturn, 1) := by decide +kernel
theorem d_Mo_revoke_54 : decode b_Mo_revoke 54 = .ok (.aload_n 0, 1) := by decide +kernel
theorem d_Mo_revoke_55 : decode b_Mo_revoke 55 = .ok (.invokevirtual 137, 3) := by decide +kernel
theorem d_Mo_revoke_58 : decode b_Mo_revoke 58 = .ok (.ifCond .ne 11, 3) := by decide +kernel
theorem d_Mo_revoke_61 : decode b_Mo_revoke 61 = .ok (.aload_n 0, 1) := by decide +kernel
theorem d_Mo_revoke_62 : decode b_Mo_revoke 62 = .ok (.iconst 3, 1) := by decide +kernel
theorem d_Mo_revoke_63 : decode b_Mo_revoke 63 = .ok (.putfield 93, 3) := by decide +kernel
theorem d_Mo_revoke_66 : decode b_Mo_revoke 66 = .ok (.goto 10, 3) := by decide +kernel
theorem d_Mo_revoke_69 : decode b_Mo_revoke 69 = .ok (.aload_n 0, 1) := by decide +kernel
theorem d_Mo_revoke_70 : decode b_Mo_revoke 70 = .ok (.getfield 44, 3) := by decide +kernel
theorem d_Mo_revoke_73 : decode b_Mo_revoke 73 = .ok (.iload_n 2, 1) := by decide +kernel
theorem d_Mo_revoke_74 : decode b_Mo_revoke 74 = .ok (.iconst 1, 1) := by decide +kernel
theorem d_Mo_revoke_75 : decode b_Mo_revoke 75 = .ok (.bastore, 1) := by decide +kernel
theorem d_Mo_revoke_76 : decode b_Mo_revoke 76 = .ok (.aload_n 0, 1) := by decide +kernel
theorem d_Mo_revoke_77 : decode b_Mo_revoke 77 = .ok (.getfield 93, 3) := by decide +kernel
theorem d_Mo_revoke_80 : decode b_Mo_revoke 80 = .ok (.ifCond .ne 7, 3) := by decide +kernel
theorem d_Mo_revoke_83 : decode b_Mo_revoke 83 = .ok (.iconst 1, 1) := by decide +kernel
theorem d_Mo_revoke_84 : decode b_Mo_revoke 84 = .ok (.goto 4, 3) := by decide +kernel
theorem d_Mo_revoke_87 : decode b_Mo_revoke 87 = .ok (.iconst 0, 1) := by decide +kernel
theorem d_Mo_revoke_88 : decode b_Mo_revoke 88 = .ok (.ireturn, 1) := by decide +kernel
theorem d_Mo_holds_0 : decode b_Mo_holds 0 = .ok (.iload_n 1, 1) := by decide +kernel
theorem d_Mo_holds_1 : decode b_Mo_holds 1 = .ok (.iconst 1, 1) := by decide +kernel
theorem d_Mo_holds_2 : decode b_Mo_holds 2 = .ok (.aload_n 0, 1) := by decide +kernel
theorem d_Mo_holds_3 : decode b_Mo_holds 3 = .ok (.getfield 134, 3) := by decide +kernel
theorem d_Mo_holds_6 : decode b_Mo_holds 6 = .ok (.invokestatic 106, 3) := by decide +kernel
theorem d_Mo_holds_9 : decode b_Mo_holds 9 = .ok (.ifCond .eq 42, 3) := by decide +kernel
theorem d_Mo_holds_12 : decode b_Mo_holds 12 = .ok (.aload_n 0, 1) := by decide +kernel
theorem d_Mo_holds_13 : decode b_Mo_holds 13 = .ok (.getfield 44, 3) := by decide +kernel
theorem d_Mo_holds_16 : decode b_Mo_holds 16 = .ok (.iload_n 1, 1) := by decide +kernel
theorem d_Mo_holds_17 : decode b_Mo_holds 17 = .ok (.baload, 1) := by decide +kernel
theorem d_Mo_holds_18 : decode b_Mo_holds 18 = .ok (.ifCond .ne 33, 3) := by decide +kernel
theorem d_Mo_holds_21 : decode b_Mo_holds 21 = .ok (.aload_n 0, 1) := by decide +kernel
theorem d_Mo_holds_22 : decode b_Mo_holds 22 = .ok (.getfield 141, 3) := by decide +kernel
theorem d_Mo_holds_25 : decode b_Mo_holds 25 = .ok (.aload_n 0, 1) := by decide +kernel
theorem d_Mo_holds_26 : decode b_Mo_holds 26 = .ok (.getfield 38, 3) := by decide +kernel
theorem d_Mo_holds_29 : decode b_Mo_holds 29 = .ok (.iload_n 1, 1) := by decide +kernel
theorem d_Mo_holds_30 : decode b_Mo_holds 30 = .ok (.iaload, 1) := by decide +kernel
theorem d_Mo_holds_31 : decode b_Mo_holds 31 = .ok (.if_icmp .lt 20, 3) := by decide +kernel
theorem d_Mo_holds_34 : decode b_Mo_holds 34 = .ok (.aload_n 0, 1) := by decide +kernel
theorem d_Mo_holds_35 : decode b_Mo_holds 35 = .ok (.getfield 141, 3) := by decide +kernel
theorem d_Mo_holds_38 : decode b_Mo_holds 38 = .ok (.aload_n 0, 1) := by decide +kernel
theorem d_Mo_holds_39 : decode b_Mo_holds 39 = .ok (.getfield 41, 3) := by decide +kernel
theorem d_Mo_holds_42 : decode b_Mo_holds 42 = .ok (.iload_n 1, 1) := by decide +kernel
theorem d_Mo_holds_43 : decode b_Mo_holds 43 = .ok (.iaload, 1) := by decide +kernel
theorem d_Mo_holds_44 : decode b_Mo_holds 44 = .ok (.if_icmp .gt 7, 3) := by decide +kernel
theorem d_Mo_holds_47 : decode b_Mo_holds 47 = .ok (.iconst 1, 1) := by decide +kernel
theorem d_Mo_holds_48 : decode b_Mo_holds 48 = .ok (.goto 4, 3) := by decide +kernel
theorem d_Mo_holds_51 : decode b_Mo_holds 51 = .ok (.iconst 0, 1) := by decide +kernel
theorem d_Mo_holds_52 : decode b_Mo_holds 52 = .ok (.ireturn, 1) := by decide +kernel
theorem d_Mo_may_0 : decode b_Mo_may 0 = .ok (.iload_n 0, 1) := by decide +kernel
theorem d_Mo_may_1 : decode b_Mo_may 1 = .ok (.bipush 6, 2) := by decide +kernel
theorem d_Mo_may_3 : decode b_Mo_may 3 = .ok (.imul, 1) := by decide +kernel
theorem d_Mo_may_4 : decode b_Mo_may 4 = .ok (.iload_n 1, 1) := by decide +kernel
theorem d_Mo_may_5 : decode b_Mo_may 5 = .ok (.iadd, 1) := by decide +kernel
theorem d_Mo_may_6 : decode b_Mo_may 6 = .ok (.iconst 4, 1) := by decide +kernel
theorem d_Mo_may_7 : decode b_Mo_may 7 = .ok (.imul, 1) := by decide +kernel
theorem d_Mo_may_8 : decode b_Mo_may 8 = .ok (.iload_n 2, 1) := by decide +kernel
theorem d_Mo_may_9 : decode b_Mo_may 9 = .ok (.iadd, 1) := by decide +kernel
theorem d_Mo_may_10 : decode b_Mo_may 10 = .ok (.ireturn, 1) := by decide +kernel
theorem d_Mo_speaks_0 : decode b_Mo_speaks 0 = .ok (.sipush 144, 3) := by decide +kernel
theorem d_Mo_speaks_3 : decode b_Mo_speaks 3 = .ok (.bipush 6, 2) := by decide +kernel
theorem d_Mo_speaks_5 : decode b_Mo_speaks 5 = .ok (.iload_n 0, 1) := by decide +kernel
theorem d_Mo_speaks_6 : decode b_Mo_speaks 6 = .ok (.imul, 1) := by decide +kernel
theorem d_Mo_speaks_7 : decode b_Mo_speaks 7 = .ok (.iadd, 1) := by decide +kernel
theorem d_Mo_speaks_8 : decode b_Mo_speaks 8 = .ok (.iload_n 1, 1) := by decide +kernel
theorem d_Mo_speaks_9 : decode b_Mo_speaks 9 = .ok (.iadd, 1) := by decide +kernel
theorem d_Mo_speaks_10 : decode b_Mo_speaks 10 = .ok (.ireturn, 1) := by decide +kernel
theorem d_Mo_trusts_0 : decode b_Mo_trusts 0 = .ok (.sipush 180, 3) := by decide +kernel
theorem d_Mo_trusts_3 : decode b_Mo_trusts 3 = .ok (.iload_n 0, 1) := by decide +kernel
theorem d_Mo_trusts_4 : decode b_Mo_trusts 4 = .ok (.bipush 6, 2) := by decide +kernel
theorem d_Mo_trusts_6 : decode b_Mo_trusts 6 = .ok (.imul, 1) := by decide +kernel
theorem d_Mo_trusts_7 : decode b_Mo_trusts 7 = .ok (.iload_n 1, 1) := by decide +kernel
theorem d_Mo_trusts_8 : decode b_Mo_trusts 8 = .ok (.iadd, 1) := by decide +kernel
theorem d_Mo_trusts_9 : decode b_Mo_trusts 9 = .ok (.iconst 4, 1) := by decide +kernel
theorem d_Mo_trusts_10 : decode b_Mo_trusts 10 = .ok (.imul, 1) := by decide +kernel
theorem d_Mo_trusts_11 : decode b_Mo_trusts 11 = .ok (.iload_n 2, 1) := by decide +kernel
theorem d_Mo_trusts_12 : decode b_Mo_trusts 12 = .ok (.iadd, 1) := by decide +kernel
theorem d_Mo_trusts_13 : decode b_Mo_trusts 13 = .ok (.iconst 4, 1) := by decide +kernel
theorem d_Mo_trusts_14 : decode b_Mo_trusts 14 = .ok (.imul, 1) := by decide +kernel
theorem d_Mo_trusts_15 : decode b_Mo_trusts 15 = .ok (.iadd, 1) := by decide +kernel
theorem d_Mo_trusts_16 : decode b_Mo_trusts 16 = .ok (.iload_n 3, 1) := by decide +kernel
theorem d_Mo_trusts_17 : decode b_Mo_trusts 17 = .ok (.iadd, 1) := by decide +kernel
theorem d_Mo_trusts_18 : decode b_Mo_trusts 18 = .ok (.ireturn, 1) := by decide +kernel
theorem d_Mo_had_0 : decode b_Mo_had 0 = .ok (.aload_n 0, 1) := by decide +kernel
theorem d_Mo_had_1 : decode b_Mo_had 1 = .ok (.getfield 71, 3) := by decide +kernel
theorem d_Mo_had_4 : decode b_Mo_had 4 = .ok (.iload_n 1, 1) := by decide +kernel
theorem d_Mo_had_5 : decode b_Mo_had 5 = .ok (.iaload, 1) := by decide +kernel
theorem d_Mo_had_6 : decode b_Mo_had 6 = .ok (.ifCond .le 20, 3) := by decide +kernel
theorem d_Mo_had_9 : decode b_Mo_had 9 = .ok (.aload_n 0, 1) := by decide +kernel
theorem d_Mo_had_10 : decode b_Mo_had 10 = .ok (.getfield 71, 3) := by decide +kernel
theorem d_Mo_had_13 : decode b_Mo_had 13 = .ok (.iload_n 1, 1) := by decide +kernel
theorem d_Mo_had_14 : decode b_Mo_had 14 = .ok (.iaload, 1) := by decide +kernel
theorem d_Mo_had_15 : decode b_Mo_had 15 = .ok (.aload_n 0, 1) := by decide +kernel
theorem d_Mo_had_16 : decode b_Mo_had 16 = .ok (.getfield 144, 3) := by decide +kernel
theorem d_Mo_had_19 : decode b_Mo_had 19 = .ok (.if_icmp .ge 7, 3) := by decide +kernel
theorem d_Mo_had_22 : decode b_Mo_had 22 = .ok (.iconst 1, 1) := by decide +kernel
theorem d_Mo_had_23 : decode b_Mo_had 23 = .ok (.goto 4, 3) := by decide +kernel
theorem d_Mo_had_26 : decode b_Mo_had 26 = .ok (.iconst 0, 1) := by decide +kernel
theorem d_Mo_had_27 : decode b_Mo_had 27 = .ok (.ireturn, 1) := by decide +kernel
theorem d_Mo_finds_0 : decode b_Mo_finds 0 = .ok (.aload_n 0, 1) := by decide +kernel
theorem d_Mo_finds_1 : decode b_Mo_finds 1 = .ok (.getfield 71, 3) := by decide +kernel
theorem d_Mo_finds_4 : decode b_Mo_finds 4 = .ok (.iload_n 1, 1) := by decide +kernel
theorem d_Mo_finds_5 : decode b_Mo_finds 5 = .ok (.aload_n 0, 1) := by decide +kernel
theorem d_Mo_finds_6 : decode b_Mo_finds 6 = .ok (.getfield 144, 3) := by decide +kernel
theorem d_Mo_finds_9 : decode b_Mo_finds 9 = .ok (.iastore, 1) := by decide +kernel
theorem d_Mo_finds_10 : decode b_Mo_finds 10 = .ok (.aload_n 0, 1) := by decide +kernel
theorem d_Mo_finds_11 : decode b_Mo_finds 11 = .ok (.getfield 74, 3) := by decide +kernel
theorem d_Mo_finds_14 : decode b_Mo_finds 14 = .ok (.iload_n 1, 1) := by decide +kernel
theorem d_Mo_finds_15 : decode b_Mo_finds 15 = .ok (.iload_n 2, 1) := by decide +kernel
theorem d_Mo_finds_16 : decode b_Mo_finds 16 = .ok (.iastore, 1) := by decide +kernel
theorem d_Mo_finds_17 : decode b_Mo_finds 17 = .ok (.aload_n 0, 1) := by decide +kernel
theorem d_Mo_finds_18 : decode b_Mo_finds 18 = .ok (.getfield 77, 3) := by decide +kernel
theorem d_Mo_finds_21 : decode b_Mo_finds 21 = .ok (.iload_n 1, 1) := by decide +kernel
theorem d_Mo_finds_22 : decode b_Mo_finds 22 = .ok (.iload_n 3, 1) := by decide +kernel
theorem d_Mo_finds_23 : decode b_Mo_finds 23 = .ok (.iastore, 1) := by decide +kernel
theorem d_Mo_finds_24 : decode b_Mo_finds 24 = .ok (.aload_n 0, 1) := by decide +kernel
theorem d_Mo_finds_25 : decode b_Mo_finds 25 = .ok (.getfield 80, 3) := by decide +kernel
theorem d_Mo_finds_28 : decode b_Mo_finds 28 = .ok (.iload_n 1, 1) := by decide +kernel
theorem d_Mo_finds_29 : decode b_Mo_finds 29 = .ok (.iload 4, 2) := by decide +kernel
theorem d_Mo_finds_31 : decode b_Mo_finds 31 = .ok (.iastore, 1) := by decide +kernel
theorem d_Mo_finds_32 : decode b_Mo_finds 32 = .ok (.iconst 1, 1) := by decide +kernel
theorem d_Mo_finds_33 : decode b_Mo_finds 33 = .ok (.ireturn, 1) := by decide +kernel
theorem d_Mo_said_0 : decode b_Mo_said 0 = .ok (.iconst 1, 1) := by decide +kernel
theorem d_Mo_said_1 : decode b_Mo_said 1 = .ok (.istore_n 1, 1) := by decide +kernel
theorem d_Mo_said_2 : decode b_Mo_said 2 = .ok (.iload_n 1, 1) := by decide +kernel
theorem d_Mo_said_3 : decode b_Mo_said 3 = .ok (.aload_n 0, 1) := by decide +kernel
theorem d_Mo_said_4 : decode b_Mo_said 4 = .ok (.getfield 134, 3) := by decide +kernel
theorem d_Mo_said_7 : decode b_Mo_said 7 = .ok (.if_icmp .gt 178, 3) := by decide +kernel
theorem d_Mo_said_10 : decode b_Mo_said 10 = .ok (.iconst (-1), 1) := by decide +kernel
theorem d_Mo_said_11 : decode b_Mo_said 11 = .ok (.istore_n 2, 1) := by decide +kernel
theorem d_Mo_said_12 : decode b_Mo_said 12 = .ok (.aload_n 0, 1) := by decide +kernel
theorem d_Mo_said_13 : decode b_Mo_said 13 = .ok (.iload_n 1, 1) := by decide +kernel
theorem d_Mo_said_14 : decode b_Mo_said 14 = .ok (.invokevirtual 147, 3) := by decide +kernel
theorem d_Mo_said_17 : decode b_Mo_said 17 = .ok (.ifCond .eq 47, 3) := by decide +kernel
theorem d_Mo_said_20 : decode b_Mo_said 20 = .ok (.aload_n 0, 1) := by decide +kernel
theorem d_Mo_said_21 : decode b_Mo_said 21 = .ok (.getfield 23, 3) := by decide +kernel
theorem d_Mo_said_24 : decode b_Mo_said 24 = .ok (.iload_n 1, 1) := by decide +kernel
theorem d_Mo_said_25 : decode b_Mo_said 25 = .ok (.iaload, 1) := by decide +kernel
theorem d_Mo_said_26 : decode b_Mo_said 26 = .ok (.ifCond .ne 38, 3) := by decide +kernel
theorem d_Mo_said_29 : decode b_Mo_said 29 = .ok (.aload_n 0, 1) := by decide +kernel
theorem d_Mo_said_30 : decode b_Mo_said 30 = .ok (.getfield 32, 3) := by decide +kernel
theorem d_Mo_said_33 : decode b_Mo_said 33 = .ok (.iload_n 1, 1) := by decide +kernel
theorem d_Mo_said_34 : decode b_Mo_said 34 = .ok (.iaload, 1) := by decide +kernel
theorem d_Mo_said_35 : decode b_Mo_said 35 = .ok (.aload_n 0, 1) := by decide +kernel
theorem d_Mo_said_36 : decode b_Mo_said 36 = .ok (.getfield 150, 3) := by decide +kernel
theorem d_Mo_said_39 : decode b_Mo_said 39 = .ok (.if_icmp .ne 25, 3) := by decide +kernel
theorem d_Mo_said_42 : decode b_Mo_said 42 = .ok (.aload_n 0, 1) := by decide +kernel
theorem d_Mo_said_43 : decode b_Mo_said 43 = .ok (.getfield 20, 3) := by decide +kernel
theorem d_Mo_said_46 : decode b_Mo_said 46 = .ok (.iload_n 1, 1) := by decide +kernel
theorem d_Mo_said_47 : decode b_Mo_said 47 = .ok (.iaload, 1) := by decide +kernel
theorem d_Mo_said_48 : decode b_Mo_said 48 = .ok (.aload_n 0, 1) := by decide +kernel
theorem d_Mo_said_49 : decode b_Mo_said 49 = .ok (.getfield 26, 3) := by decide +kernel
theorem d_Mo_said_52 : decode b_Mo_said 52 = .ok (.iload_n 1, 1) := by decide +kernel
theorem d_Mo_said_53 : decode b_Mo_said 53 = .ok (.iaload, 1) := by decide +kernel
theorem d_Mo_said_54 : decode b_Mo_said 54 = .ok (.aload_n 0, 1) := by decide +kernel
theorem d_Mo_said_55 : decode b_Mo_said 55 = .ok (.getfield 29, 3) := by decide +kernel
theorem d_Mo_said_58 : decode b_Mo_said 58 = .ok (.iload_n 1, 1) := by decide +kernel
theorem d_Mo_said_59 : decode b_Mo_said 59 = .ok (.iaload, 1) := by decide +kernel
theorem d_Mo_said_60 : decode b_Mo_said 60 = .ok (.invokestatic 153, 3) := by decide +kernel
theorem d_Mo_said_63 : decode b_Mo_said 63 = .ok (.istore_n 2, 1) := by decide +kernel
theorem d_Mo_said_64 : decode b_Mo_said 64 = .ok (.aload_n 0, 1) := by decide +kernel
theorem d_Mo_said_65 : decode b_Mo_said 65 = .ok (.iload_n 1, 1) := by decide +kernel
theorem d_Mo_said_66 : decode b_Mo_said 66 = .ok (.invokevirtual 147, 3) := by decide +kernel
theorem d_Mo_said_69 : decode b_Mo_said 69 = .ok (.ifCond .eq 29, 3) := by decide +kernel
theorem d_Mo_said_72 : decode b_Mo_said 72 = .ok (.aload_n 0, 1) := by decide +kernel
theorem d_Mo_said_73 : decode b_Mo_said 73 = .ok (.getfield 23, 3) := by decide +kernel
theorem d_Mo_said_76 : decode b_Mo_said 76 = .ok (.iload_n 1, 1) := by decide +kernel
theorem d_Mo_said_77 : decode b_Mo_said 77 = .ok (.iaload, 1) := by decide +kernel
theorem d_Mo_said_78 : decode b_Mo_said 78 = .ok (.iconst 1, 1) := by decide +kernel
theorem d_Mo_said_79 : decode b_Mo_said 79 = .ok (.if_icmp .ne 19, 3) := by decide +kernel
theorem d_Mo_said_82 : decode b_Mo_said 82 = .ok (.aload_n 0, 1) := by decide +kernel
theorem d_Mo_said_83 : decode b_Mo_said 83 = .ok (.getfield 26, 3) := by decide +kernel
theorem d_Mo_said_86 : decode b_Mo_said 86 = .ok (.iload_n 1, 1) := by decide +kernel
theorem d_Mo_said_87 : decode b_Mo_said 87 = .ok (.iaload, 1) := by decide +kernel
theorem d_Mo_said_88 : decode b_Mo_said 88 = .ok (.aload_n 0, 1) := by decide +kernel
theorem d_Mo_said_89 : decode b_Mo_said 89 = .ok (.getfield 20, 3) := by decide +kernel
theorem d_Mo_said_92 : decode b_Mo_said 92 = .ok (.iload_n 1, 1) := by decide +kernel
theorem d_Mo_said_93 : decode b_Mo_said 93 = .ok (.iaload, 1) := by decide +kernel
theorem d_Mo_said_94 : decode b_Mo_said 94 = .ok (.invokestatic 157, 3) := by decide +kernel
theorem d_Mo_said_97 : decode b_Mo_said 97 = .ok (.istore_n 2, 1) := by decide +kernel
theorem d_Mo_said_98 : decode b_Mo_said 98 = .ok (.aload_n 0, 1) := by decide +kernel
theorem d_Mo_said_99 : decode b_Mo_said 99 = .ok (.iload_n 1, 1) := by decide +kernel
theorem d_Mo_said_100 : decode b_Mo_said 100 = .ok (.invokevirtual 147, 3) := by decide +kernel
theorem d_Mo_said_103 : decode b_Mo_said 103 = .ok (.ifCond .eq 54, 3) := by decide +kernel
theorem d_Mo_said_106 : decode b_Mo_said 106 = .ok (.aload_n 0, 1) := by decide +kernel
theorem d_Mo_said_107 : decode b_Mo_said 107 = .ok (.getfield 23, 3) := by decide +kernel
theorem d_Mo_said_110 : decode b_Mo_said 110 = .ok (.iload_n 1, 1) := by decide +kernel
theorem d_Mo_said_111 : decode b_Mo_said 111 = .ok (.iaload, 1) := by decide +kernel
theorem d_Mo_said_112 : decode b_Mo_said 112 = .ok (.iconst 2, 1) := by decide +kernel
theorem d_Mo_said_113 : decode b_Mo_said 113 = .ok (.if_icmp .ne 44, 3) := by decide +kernel
theorem d_Mo_said_116 : decode b_Mo_said 116 = .ok (.aload_n 0, 1) := by decide +kernel
theorem d_Mo_said_117 : decode b_Mo_said 117 = .ok (.getfield 32, 3) := by decide +kernel
theorem d_Mo_said_120 : decode b_Mo_said 120 = .ok (.iload_n 1, 1) := by decide +kernel
theorem d_Mo_said_121 : decode b_Mo_said 121 = .ok (.iaload, 1) := by decide +kernel
theorem d_Mo_said_122 : decode b_Mo_said 122 = .ok (.aload_n 0, 1) := by decide +kernel
theorem d_Mo_said_123 : decode b_Mo_said 123 = .ok (.getfield 150, 3) := by decide +kernel
theorem d_Mo_said_126 : decode b_Mo_said 126 = .ok (.if_icmp .ne 31, 3) := by decide +kernel
theorem d_Mo_said_129 : decode b_Mo_said 129 = .ok (.aload_n 0, 1) := by decide +kernel
theorem d_Mo_said_130 : decode b_Mo_said 130 = .ok (.getfield 20, 3) := by decide +kernel
theorem d_Mo_said_133 : decode b_Mo_said 133 = .ok (.iload_n 1, 1) := by decide +kernel
theorem d_Mo_said_134 : decode b_Mo_said 134 = .ok (.iaload, 1) := by decide +kernel
theorem d_Mo_said_135 : decode b_Mo_said 135 = .ok (.aload_n 0, 1) := by decide +kernel
theorem d_Mo_said_136 : decode b_Mo_said 136 = .ok (.getfield 26, 3) := by decide +kernel
theorem d_Mo_said_139 : decode b_Mo_said 139 = .ok (.iload_n 1, 1) := by decide +kernel
theorem d_Mo_said_140 : decode b_Mo_said 140 = .ok (.iaload, 1) := by decide +kernel
theorem d_Mo_said_141 : decode b_Mo_said 141 = .ok (.aload_n 0, 1) := by decide +kernel
theorem d_Mo_said_142 : decode b_Mo_said 142 = .ok (.getfield 29, 3) := by decide +kernel
theorem d_Mo_said_145 : decode b_Mo_said 145 = .ok (.iload_n 1, 1) := by decide +kernel
theorem d_Mo_said_146 : decode b_Mo_said 146 = .ok (.iaload, 1) := by decide +kernel
theorem d_Mo_said_147 : decode b_Mo_said 147 = .ok (.aload_n 0, 1) := by decide +kernel
theorem d_Mo_said_148 : decode b_Mo_said 148 = .ok (.getfield 35, 3) := by decide +kernel
theorem d_Mo_said_151 : decode b_Mo_said 151 = .ok (.iload_n 1, 1) := by decide +kernel
theorem d_Mo_said_152 : decode b_Mo_said 152 = .ok (.iaload, 1) := by decide +kernel
theorem d_Mo_said_153 : decode b_Mo_said 153 = .ok (.invokestatic 160, 3) := by decide +kernel
theorem d_Mo_said_156 : decode b_Mo_said 156 = .ok (.istore_n 2, 1) := by decide +kernel
theorem d_Mo_said_157 : decode b_Mo_said 157 = .ok (.iload_n 2, 1) := by decide +kernel
theorem d_Mo_said_158 : decode b_Mo_said 158 = .ok (.ifCond .lt 21, 3) := by decide +kernel
theorem d_Mo_said_161 : decode b_Mo_said 161 = .ok (.aload_n 0, 1) := by decide +kernel
theorem d_Mo_said_162 : decode b_Mo_said 162 = .ok (.getfield 71, 3) := by decide +kernel
theorem d_Mo_said_165 : decode b_Mo_said 165 = .ok (.iload_n 2, 1) := by decide +kernel
theorem d_Mo_said_166 : decode b_Mo_said 166 = .ok (.iaload, 1) := by decide +kernel
theorem d_Mo_said_167 : decode b_Mo_said 167 = .ok (.ifCond .ne 12, 3) := by decide +kernel
theorem d_Mo_said_170 : decode b_Mo_said 170 = .ok (.aload_n 0, 1) := by decide +kernel
theorem d_Mo_said_171 : decode b_Mo_said 171 = .ok (.iload_n 2, 1) := by decide +kernel
theorem d_Mo_said_172 : decode b_Mo_said 172 = .ok (.iconst 1, 1) := by decide +kernel
theorem d_Mo_said_173 : decode b_Mo_said 173 = .ok (.iload_n 1, 1) := by decide +kernel
theorem d_Mo_said_174 : decode b_Mo_said 174 = .ok (.iconst 0, 1) := by decide +kernel
theorem d_Mo_said_175 : decode b_Mo_said 175 = .ok (.invokevirtual 164, 3) := by decide +kernel
theorem d_Mo_said_178 : decode b_Mo_said 178 = .ok (.pop, 1) := by decide +kernel
theorem d_Mo_said_179 : decode b_Mo_said 179 = .ok (.iinc 1 1, 3) := by decide +kernel
theorem d_Mo_said_182 : decode b_Mo_said 182 = .ok (.goto (-180), 3) := by decide +kernel
theorem d_Mo_said_185 : decode b_Mo_said 185 = .ok (.return_, 1) := by decide +kernel
theorem d_Mo_newMay_0 : decode b_Mo_newMay 0 = .ok (.iload_n 1, 1) := by decide +kernel
theorem d_Mo_newMay_1 : decode b_Mo_newMay 1 = .ok (.iload_n 2, 1) := by decide +kernel
theorem d_Mo_newMay_2 : decode b_Mo_newMay 2 = .ok (.iload_n 3, 1) := by decide +kernel
theorem d_Mo_newMay_3 : decode b_Mo_newMay 3 = .ok (.invokestatic 153, 3) := by decide +kernel
theorem d_Mo_newMay_6 : decode b_Mo_newMay 6 = .ok (.istore 4, 2) := by decide +kernel
theorem d_Mo_newMay_8 : decode b_Mo_newMay 8 = .ok (.aload_n 0, 1) := by decide +kernel
theorem d_Mo_newMay_9 : decode b_Mo_newMay 9 = .ok (.getfield 71, 3) := by decide +kernel
theorem d_Mo_newMay_12 : decode b_Mo_newMay 12 = .ok (.iload 4, 2) := by decide +kernel
theorem d_Mo_newMay_14 : decode b_Mo_newMay 14 = .ok (.iaload, 1) := by decide +kernel
theorem d_Mo_newMay_15 : decode b_Mo_newMay 15 = .ok (.ifCond .le 5, 3) := by decide +kernel
theorem d_Mo_newMay_18 : decode b_Mo_newMay 18 = .ok (.iconst 0, 1) := by decide +kernel
theorem d_Mo_newMay_19 : decode b_Mo_newMay 19 = .ok (.ireturn, 1) := by decide +kernel
theorem d_Mo_newMay_20 : decode b_Mo_newMay 20 = .ok (.iconst 0, 1) := by decide +kernel
theorem d_Mo_newMay_21 : decode b_Mo_newMay 21 = .ok (.istore 5, 2) := by decide +kernel
theorem d_Mo_newMay_23 : decode b_Mo_newMay 23 = .ok (.iload 5, 2) := by decide +kernel
theorem d_Mo_newMay_25 : decode b_Mo_newMay 25 = .ok (.bipush 6, 2) := by decide +kernel
theorem d_Mo_newMay_27 : decode b_Mo_newMay 27 = .ok (.if_icmp .ge 57, 3) := by decide +kernel
theorem d_Mo_newMay_30 : decode b_Mo_newMay 30 = .ok (.aload_n 0, 1) := by decide +kernel
theorem d_Mo_newMay_31 : decode b_Mo_newMay 31 = .ok (.iload 5, 2) := by decide +kernel
theorem d_Mo_newMay_33 : decode b_Mo_newMay 33 = .ok (.iload_n 1, 1) := by decide +kernel
theorem d_Mo_newMay_34 : decode b_Mo_newMay 34 = .ok (.invokestatic 157, 3) := by decide +kernel
theorem d_Mo_newMay_37 : decode b_Mo_newMay 37 = .ok (.invokevirtual 168, 3) := by decide +kernel
theorem d_Mo_newMay_40 : decode b_Mo_newMay 40 = .ok (.ifCond .eq 38, 3) := by decide +kernel
theorem d_Mo_newMay_43 : decode b_Mo_newMay 43 = .ok (.aload_n 0, 1) := by decide +kernel
theorem d_Mo_newMay_44 : decode b_Mo_newMay 44 = .ok (.iload 5, 2) := by decide +kernel
theorem d_Mo_newMay_46 : decode b_Mo_newMay 46 = .ok (.iload_n 2, 1) := by decide +kernel
theorem d_Mo_newMay_47 : decode b_Mo_newMay 47 = .ok (.iload_n 3, 1) := by decide +kernel
theorem d_Mo_newMay_48 : decode b_Mo_newMay 48 = .ok (.invokestatic 153, 3) := by decide +kernel
theorem d_Mo_newMay_51 : decode b_Mo_newMay 51 = .ok (.invokevirtual 168, 3) := by decide +kernel
theorem d_Mo_newMay_54 : decode b_Mo_newMay 54 = .ok (.ifCond .eq 24, 3) := by decide +kernel
theorem d_Mo_newMay_57 : decode b_Mo_newMay 57 = .ok (.aload_n 0, 1) := by decide +kernel
theorem d_Mo_newMay_58 : decode b_Mo_newMay 58 = .ok (.iload 4, 2) := by decide +kernel
theorem d_Mo_newMay_60 : decode b_Mo_newMay 60 = .ok (.iconst 2, 1) := by decide +kernel
theorem d_Mo_newMay_61 : decode b_Mo_newMay 61 = .ok (.iload 5, 2) := by decide +kernel
theorem d_Mo_newMay_63 : decode b_Mo_newMay 63 = .ok (.iload_n 1, 1) := by decide +kernel
theorem d_Mo_newMay_64 : decode b_Mo_newMay 64 = .ok (.invokestatic 157, 3) := by decide +kernel
theorem d_Mo_newMay_67 : decode b_Mo_newMay 67 = .ok (.iload 5, 2) := by decide +kernel
theorem d_Mo_newMay_69 : decode b_Mo_newMay 69 = .ok (.iload_n 2, 1) := by decide +kernel
theorem d_Mo_newMay_70 : decode b_Mo_newMay 70 = .ok (.iload_n 3, 1) := by decide +kernel
theorem d_Mo_newMay_71 : decode b_Mo_newMay 71 = .ok (.invokestatic 153, 3) := by decide +kernel
theorem d_Mo_newMay_74 : decode b_Mo_newMay 74 = .ok (.invokevirtual 164, 3) := by decide +kernel
theorem d_Mo_newMay_77 : decode b_Mo_newMay 77 = .ok (.ireturn, 1) := by decide +kernel
theorem d_Mo_newMay_78 : decode b_Mo_newMay 78 = .ok (.iinc 5 1, 3) := by decide +kernel
theorem d_Mo_newMay_81 : decode b_Mo_newMay 81 = .ok (.goto (-58), 3) := by decide +kernel
theorem d_Mo_newMay_84 : decode b_Mo_newMay 84 = .ok (.iconst 0, 1) := by decide +kernel
theorem d_Mo_newMay_85 : decode b_Mo_newMay 85 = .ok (.istore 5, 2) := by decide +kernel
theorem d_Mo_newMay_87 : decode b_Mo_newMay 87 = .ok (.iload 5, 2) := by decide +kernel
theorem d_Mo_newMay_89 : decode b_Mo_newMay 89 = .ok (.bipush 6, 2) := by decide +kernel
theorem d_Mo_newMay_91 : decode b_Mo_newMay 91 = .ok (.if_icmp .ge 78, 3) := by decide +kernel
theorem d_Mo_newMay_94 : decode b_Mo_newMay 94 = .ok (.iconst 0, 1) := by decide +kernel
theorem d_Mo_newMay_95 : decode b_Mo_newMay 95 = .ok (.istore 6, 2) := by decide +kernel
theorem d_Mo_newMay_97 : decode b_Mo_newMay 97 = .ok (.iload 6, 2) := by decide +kernel
theorem d_Mo_newMay_99 : decode b_Mo_newMay 99 = .ok (.iconst 4, 1) := by decide +kernel
theorem d_Mo_newMay_100 : decode b_Mo_newMay 100 = .ok (.if_icmp .ge 63, 3) := by decide +kernel
theorem d_Mo_newMay_103 : decode b_Mo_newMay 103 = .ok (.aload_n 0, 1) := by decide +kernel
theorem d_Mo_newMay_104 : decode b_Mo_newMay 104 = .ok (.iload 5, 2) := by decide +kernel
theorem d_Mo_newMay_106 : decode b_Mo_newMay 106 = .ok (.iload_n 2, 1) := by decide +kernel
theorem d_Mo_newMay_107 : decode b_Mo_newMay 107 = .ok (.iload_n 3, 1) := by decide +kernel
theorem d_Mo_newMay_108 : decode b_Mo_newMay 108 = .ok (.invokestatic 153, 3) := by decide +kernel
theorem d_Mo_newMay_111 : decode b_Mo_newMay 111 = .ok (.invokevirtual 168, 3) := by decide +kernel
theorem d_Mo_newMay_114 : decode b_Mo_newMay 114 = .ok (.ifCond .eq 49, 3) := by decide +kernel
theorem d_Mo_newMay_117 : decode b_Mo_newMay 117 = .ok (.aload_n 0, 1) := by decide +kernel
theorem d_Mo_newMay_118 : decode b_Mo_newMay 118 = .ok (.iload_n 1, 1) := by decide +kernel
theorem d_Mo_newMay_119 : decode b_Mo_newMay 119 = .ok (.iload 5, 2) := by decide +kernel
theorem d_Mo_newMay_121 : decode b_Mo_newMay 121 = .ok (.iload_n 3, 1) := by decide +kernel
theorem d_Mo_newMay_122 : decode b_Mo_newMay 122 = .ok (.iload 6, 2) := by decide +kernel
theorem d_Mo_newMay_124 : decode b_Mo_newMay 124 = .ok (.invokestatic 160, 3) := by decide +kernel
theorem d_Mo_newMay_127 : decode b_Mo_newMay 127 = .ok (.invokevirtual 168, 3) := by decide +kernel
theorem d_Mo_newMay_130 : decode b_Mo_newMay 130 = .ok (.ifCond .eq 27, 3) := by decide +kernel
theorem d_Mo_newMay_133 : decode b_Mo_newMay 133 = .ok (.aload_n 0, 1) := by decide +kernel
theorem d_Mo_newMay_134 : decode b_Mo_newMay 134 = .ok (.iload 4, 2) := by decide +kernel
theorem d_Mo_newMay_136 : decode b_Mo_newMay 136 = .ok (.iconst 3, 1) := by decide +kernel
theorem d_Mo_newMay_137 : decode b_Mo_newMay 137 = .ok (.iload_n 1, 1) := by decide +kernel
theorem d_Mo_newMay_138 : decode b_Mo_newMay 138 = .ok (.iload 5, 2) := by decide +kernel
theorem d_Mo_newMay_140 : decode b_Mo_newMay 140 = .ok (.iload_n 3, 1) := by decide +kernel
theorem d_Mo_newMay_141 : decode b_Mo_newMay 141 = .ok (.iload 6, 2) := by decide +kernel
theorem d_Mo_newMay_143 : decode b_Mo_newMay 143 = .ok (.invokestatic 160, 3) := by decide +kernel
theorem d_Mo_newMay_146 : decode b_Mo_newMay 146 = .ok (.iload 5, 2) := by decide +kernel
theorem d_Mo_newMay_148 : decode b_Mo_newMay 148 = .ok (.iload_n 2, 1) := by decide +kernel
theorem d_Mo_newMay_149 : decode b_Mo_newMay 149 = .ok (.iload_n 3, 1) := by decide +kernel
theorem d_Mo_newMay_150 : decode b_Mo_newMay 150 = .ok (.invokestatic 153, 3) := by decide +kernel
theorem d_Mo_newMay_153 : decode b_Mo_newMay 153 = .ok (.invokevirtual 164, 3) := by decide +kernel
theorem d_Mo_newMay_156 : decode b_Mo_newMay 156 = .ok (.ireturn, 1) := by decide +kernel
theorem d_Mo_newMay_157 : decode b_Mo_newMay 157 = .ok (.iinc 6 1, 3) := by decide +kernel
theorem d_Mo_newMay_160 : decode b_Mo_newMay 160 = .ok (.goto (-63), 3) := by decide +kernel
theorem d_Mo_newMay_163 : decode b_Mo_newMay 163 = .ok (.iinc 5 1, 3) := by decide +kernel
theorem d_Mo_newMay_166 : decode b_Mo_newMay 166 = .ok (.goto (-79), 3) := by decide +kernel
theorem d_Mo_newMay_169 : decode b_Mo_newMay 169 = .ok (.iconst 1, 1) := by decide +kernel
theorem d_Mo_newMay_170 : decode b_Mo_newMay 170 = .ok (.istore 5, 2) := by decide +kernel
theorem d_Mo_newMay_172 : decode b_Mo_newMay 172 = .ok (.iload 5, 2) := by decide +kernel
theorem d_Mo_newMay_174 : decode b_Mo_newMay 174 = .ok (.aload_n 0, 1) := by decide +kernel
theorem d_Mo_newMay_175 : decode b_Mo_newMay 175 = .ok (.getfield 134, 3) := by decide +kernel
theorem d_Mo_newMay_178 : decode b_Mo_newMay 178 = .ok (.if_icmp .gt 93, 3) := by decide +kernel
theorem d_Mo_newMay_181 : decode b_Mo_newMay 181 = .ok (.aload_n 0, 1) := by decide +kernel
theorem d_Mo_newMay_182 : decode b_Mo_newMay 182 = .ok (.iload 5, 2) := by decide +kernel
theorem d_Mo_newMay_184 : decode b_Mo_newMay 184 = .ok (.invokevirtual 147, 3) := by decide +kernel
theorem d_Mo_newMay_187 : decode b_Mo_newMay 187 = .ok (.ifCond .eq 78, 3) := by decide +kernel
theorem d_Mo_newMay_190 : decode b_Mo_newMay 190 = .ok (.aload_n 0, 1) := by decide +kernel
theorem d_Mo_newMay_191 : decode b_Mo_newMay 191 = .ok (.getfield 23, 3) := by decide +kernel
theorem d_Mo_newMay_194 : decode b_Mo_newMay 194 = .ok (.iload 5, 2) := by decide +kernel
theorem d_Mo_newMay_196 : decode b_Mo_newMay 196 = .ok (.iaload, 1) := by decide +kernel
theorem d_Mo_newMay_197 : decode b_Mo_newMay 197 = .ok (.iconst 3, 1) := by decide +kernel
theorem d_Mo_newMay_198 : decode b_Mo_newMay 198 = .ok (.if_icmp .ne 67, 3) := by decide +kernel
theorem d_Mo_newMay_201 : decode b_Mo_newMay 201 = .ok (.aload_n 0, 1) := by decide +kernel
theorem d_Mo_newMay_202 : decode b_Mo_newMay 202 = .ok (.getfield 20, 3) := by decide +kernel
theorem d_Mo_newMay_205 : decode b_Mo_newMay 205 = .ok (.iload 5, 2) := by decide +kernel
theorem d_Mo_newMay_207 : decode b_Mo_newMay 207 = .ok (.iaload, 1) := by decide +kernel
theorem d_Mo_newMay_208 : decode b_Mo_newMay 208 = .ok (.iload_n 1, 1) := by decide +kernel
theorem d_Mo_newMay_209 : decode b_Mo_newMay 209 = .ok (.if_icmp .ne 56, 3) := by decide +kernel
theorem d_Mo_newMay_212 : decode b_Mo_newMay 212 = .ok (.aload_n 0, 1) := by decide +kernel
theorem d_Mo_newMay_213 : decode b_Mo_newMay 213 = .ok (.getfield 29, 3) := by decide +kernel
theorem d_Mo_newMay_216 : decode b_Mo_newMay 216 = .ok (.iload 5, 2) := by decide +kernel
theorem d_Mo_newMay_218 : decode b_Mo_newMay 218 = .ok (.iaload, 1) := by decide +kernel
theorem d_Mo_newMay_219 : decode b_Mo_newMay 219 = .ok (.iload_n 3, 1) := by decide +kernel
theorem d_Mo_newMay_220 : decode b_Mo_newMay 220 = .ok (.if_icmp .ne 45, 3) := by decide +kernel
theorem d_Mo_newMay_223 : decode b_Mo_newMay 223 = .ok (.aload_n 0, 1) := by decide +kernel
theorem d_Mo_newMay_224 : decode b_Mo_newMay 224 = .ok (.iload_n 1, 1) := by decide +kernel
theorem d_Mo_newMay_225 : decode b_Mo_newMay 225 = .ok (.iload_n 2, 1) := by decide +kernel
theorem d_Mo_newMay_226 : decode b_Mo_newMay 226 = .ok (.aload_n 0, 1) := by decide +kernel
theorem d_Mo_newMay_227 : decode b_Mo_newMay 227 = .ok (.getfield 26, 3) := by decide +kernel
theorem d_Mo_newMay_230 : decode b_Mo_newMay 230 = .ok (.iload 5, 2) := by decide +kernel
theorem d_Mo_newMay_232 : decode b_Mo_newMay 232 = .ok (.iaload, 1) := by decide +kernel
theorem d_Mo_newMay_233 : decode b_Mo_newMay 233 = .ok (.invokestatic 153, 3) := by decide +kernel
theorem d_Mo_newMay_236 : decode b_Mo_newMay 236 = .ok (.invokevirtual 168, 3) := by decide +kernel
theorem d_Mo_newMay_239 : decode b_Mo_newMay 239 = .ok (.ifCond .eq 26, 3) := by decide +kernel
theorem d_Mo_newMay_242 : decode b_Mo_newMay 242 = .ok (.aload_n 0, 1) := by decide +kernel
theorem d_Mo_newMay_243 : decode b_Mo_newMay 243 = .ok (.iload 4, 2) := by decide +kernel
theorem d_Mo_newMay_245 : decode b_Mo_newMay 245 = .ok (.bipush 7, 2) := by decide +kernel
theorem d_Mo_newMay_247 : decode b_Mo_newMay 247 = .ok (.iload 5, 2) := by decide +kernel
theorem d_Mo_newMay_249 : decode b_Mo_newMay 249 = .ok (.iload_n 1, 1) := by decide +kernel
theorem d_Mo_newMay_250 : decode b_Mo_newMay 250 = .ok (.iload_n 2, 1) := by decide +kernel
theorem d_Mo_newMay_251 : decode b_Mo_newMay 251 = .ok (.aload_n 0, 1) := by decide +kernel
theorem d_Mo_newMay_252 : decode b_Mo_newMay 252 = .ok (.getfield 26, 3) := by decide +kernel
theorem d_Mo_newMay_255 : decode b_Mo_newMay 255 = .ok (.iload 5, 2) := by decide +kernel
theorem d_Mo_newMay_257 : decode b_Mo_newMay 257 = .ok (.iaload, 1) := by decide +kernel
theorem d_Mo_newMay_258 : decode b_Mo_newMay 258 = .ok (.invokestatic 153, 3) := by decide +kernel
theorem d_Mo_newMay_261 : decode b_Mo_newMay 261 = .ok (.invokevirtual 164, 3) := by decide +kernel
theorem d_Mo_newMay_264 : decode b_Mo_newMay 264 = .ok (.ireturn, 1) := by decide +kernel
theorem d_Mo_newMay_265 : decode b_Mo_newMay 265 = .ok (.iinc 5 1, 3) := by decide +kernel
theorem d_Mo_newMay_268 : decode b_Mo_newMay 268 = .ok (.goto (-96), 3) := by decide +kernel
theorem d_Mo_newMay_271 : decode b_Mo_newMay 271 = .ok (.iconst 0, 1) := by decide +kernel
theorem d_Mo_newMay_272 : decode b_Mo_newMay 272 = .ok (.ireturn, 1) := by decide +kernel
theorem d_Mo_newTrust_0 : decode b_Mo_newTrust 0 = .ok (.iload_n 1, 1) := by decide +kernel
theorem d_Mo_newTrust_1 : decode b_Mo_newTrust 1 = .ok (.iload_n 2, 1) := by decide +kernel
theorem d_Mo_newTrust_2 : decode b_Mo_newTrust 2 = .ok (.iload_n 3, 1) := by decide +kernel
theorem d_Mo_newTrust_3 : decode b_Mo_newTrust 3 = .ok (.iload 4, 2) := by decide +kernel
theorem d_Mo_newTrust_5 : decode b_Mo_newTrust 5 = .ok (.invokestatic 160, 3) := by decide +kernel
theorem d_Mo_newTrust_8 : decode b_Mo_newTrust 8 = .ok (.istore 5, 2) := by decide +kernel
theorem d_Mo_newTrust_10 : decode b_Mo_newTrust 10 = .ok (.aload_n 0, 1) := by decide +kernel
theorem d_Mo_newTrust_11 : decode b_Mo_newTrust 11 = .ok (.getfield 71, 3) := by decide +kernel
theorem d_Mo_newTrust_14 : decode b_Mo_newTrust 14 = .ok (.iload 5, 2) := by decide +kernel
theorem d_Mo_newTrust_16 : decode b_Mo_newTrust 16 = .ok (.iaload, 1) := by decide +kernel
theorem d_Mo_newTrust_17 : decode b_Mo_newTrust 17 = .ok (.ifCond .le 5, 3) := by decide +kernel
theorem d_Mo_newTrust_20 : decode b_Mo_newTrust 20 = .ok (.iconst 0, 1) := by decide +kernel
theorem d_Mo_newTrust_21 : decode b_Mo_newTrust 21 = .ok (.ireturn, 1) := by decide +kernel
theorem d_Mo_newTrust_22 : decode b_Mo_newTrust 22 = .ok (.iconst 0, 1) := by decide +kernel
theorem d_Mo_newTrust_23 : decode b_Mo_newTrust 23 = .ok (.istore 6, 2) := by decide +kernel
theorem d_Mo_newTrust_25 : decode b_Mo_newTrust 25 = .ok (.iload 6, 2) := by decide +kernel
theorem d_Mo_newTrust_27 : decode b_Mo_newTrust 27 = .ok (.bipush 6, 2) := by decide +kernel
theorem d_Mo_newTrust_29 : decode b_Mo_newTrust 29 = .ok (.if_icmp .ge 129, 3) := by decide +kernel
theorem d_Mo_newTrust_32 : decode b_Mo_newTrust 32 = .ok (.iload 4, 2) := by decide +kernel
theorem d_Mo_newTrust_34 : decode b_Mo_newTrust 34 = .ok (.iconst 1, 1) := by decide +kernel
theorem d_Mo_newTrust_35 : decode b_Mo_newTrust 35 = .ok (.iadd, 1) := by decide +kernel
theorem d_Mo_newTrust_36 : decode b_Mo_newTrust 36 = .ok (.istore 7, 2) := by decide +kernel
theorem d_Mo_newTrust_38 : decode b_Mo_newTrust 38 = .ok (.iload 7, 2) := by decide +kernel
theorem d_Mo_newTrust_40 : decode b_Mo_newTrust 40 = .ok (.iconst 4, 1) := by decide +kernel
theorem d_Mo_newTrust_41 : decode b_Mo_newTrust 41 = .ok (.if_icmp .ge 111, 3) := by decide +kernel
theorem d_Mo_newTrust_44 : decode b_Mo_newTrust 44 = .ok (.iload 4, 2) := by decide +kernel
theorem d_Mo_newTrust_46 : decode b_Mo_newTrust 46 = .ok (.istore 8, 2) := by decide +kernel
theorem d_Mo_newTrust_48 : decode b_Mo_newTrust 48 = .ok (.iload 8, 2) := by decide +kernel
theorem d_Mo_newTrust_50 : decode b_Mo_newTrust 50 = .ok (.iconst 4, 1) := by decide +kernel
theorem d_Mo_newTrust_51 : decode b_Mo_newTrust 51 = .ok (.if_icmp .ge 95, 3) := by decide +kernel
theorem d_Mo_newTrust_54 : decode b_Mo_newTrust 54 = .ok (.aload_n 0, 1) := by decide +kernel
theorem d_Mo_newTrust_55 : decode b_Mo_newTrust 55 = .ok (.iload_n 1, 1) := by decide +kernel
theorem d_Mo_newTrust_56 : decode b_Mo_newTrust 56 = .ok (.iload 6, 2) := by decide +kernel
theorem d_Mo_newTrust_58 : decode b_Mo_newTrust 58 = .ok (.iload_n 3, 1) := by decide +kernel
theorem d_Mo_newTrust_59 : decode b_Mo_newTrust 59 = .ok (.iload 7, 2) := by decide +kernel
theorem d_Mo_newTrust_61 : decode b_Mo_newTrust 61 = .ok (.invokestatic 160, 3) := by decide +kernel
theorem d_Mo_newTrust_64 : decode b_Mo_newTrust 64 = .ok (.invokevirtual 168, 3) := by decide +kernel
theorem d_Mo_newTrust_67 : decode b_Mo_newTrust 67 = .ok (.ifCond .eq 79, 3) := by decide +kernel
theorem d_Mo_newTrust_70 : decode b_Mo_newTrust 70 = .ok (.iload 7, 2) := by decide +kernel
theorem d_Mo_newTrust_72 : decode b_Mo_newTrust 72 = .ok (.iconst 1, 1) := by decide +kernel
theorem d_Mo_newTrust_73 : decode b_Mo_newTrust 73 = .ok (.isub, 1) := by decide +kernel
theorem d_Mo_newTrust_74 : decode b_Mo_newTrust 74 = .ok (.iload 4, 2) := by decide +kernel
theorem d_Mo_newTrust_76 : decode b_Mo_newTrust 76 = .ok (.if_icmp .eq 10, 3) := by decide +kernel
theorem d_Mo_newTrust_79 : decode b_Mo_newTrust 79 = .ok (.iload 8, 2) := by decide +kernel
theorem d_Mo_newTrust_81 : decode b_Mo_newTrust 81 = .ok (.iload 4, 2) := by decide +kernel
theorem d_Mo_newTrust_83 : decode b_Mo_newTrust 83 = .ok (.if_icmp .ne 7, 3) := by decide +kernel
theorem d_Mo_newTrust_86 : decode b_Mo_newTrust 86 = .ok (.iconst 1, 1) := by decide +kernel
theorem d_Mo_newTrust_87 : decode b_Mo_newTrust 87 = .ok (.goto 4, 3) := by decide +kernel
theorem d_Mo_newTrust_90 : decode b_Mo_newTrust 90 = .ok (.iconst 0, 1) := by decide +kernel
theorem d_Mo_newTrust_91 : decode b_Mo_newTrust 91 = .ok (.istore 9, 2) := by decide +kernel
theorem d_Mo_newTrust_93 : decode b_Mo_newTrust 93 = .ok (.iload 9, 2) := by decide +kernel
theorem d_Mo_newTrust_95 : decode b_Mo_newTrust 95 = .ok (.ifCond .eq 45, 3) := by decide +kernel
theorem d_Mo_newTrust_98 : decode b_Mo_newTrust 98 = .ok (.aload_n 0, 1) := by decide +kernel
theorem d_Mo_newTrust_99 : decode b_Mo_newTrust 99 = .ok (.iload 6, 2) := by decide +kernel
theorem d_Mo_newTrust_101 : decode b_Mo_newTrust 101 = .ok (.iload_n 2, 1) := by decide +kernel
theorem d_Mo_newTrust_102 : decode b_Mo_newTrust 102 = .ok (.iload_n 3, 1) := by decide +kernel
theorem d_Mo_newTrust_103 : decode b_Mo_newTrust 103 = .ok (.iload 8, 2) := by decide +kernel
theorem d_Mo_newTrust_105 : decode b_Mo_newTrust 105 = .ok (.invokestatic 160, 3) := by decide +kernel
theorem d_Mo_newTrust_108 : decode b_Mo_newTrust 108 = .ok (.invokevirtual 168, 3) := by decide +kernel
theorem d_Mo_newTrust_111 : decode b_Mo_newTrust 111 = .ok (.ifCond .eq 29, 3) := by decide +kernel
theorem d_Mo_newTrust_114 : decode b_Mo_newTrust 114 = .ok (.aload_n 0, 1) := by decide +kernel
theorem d_Mo_newTrust_115 : decode b_Mo_newTrust 115 = .ok (.iload 5, 2) := by decide +kernel
theorem d_Mo_newTrust_117 : decode b_Mo_newTrust 117 = .ok (.iconst 4, 1) := by decide +kernel
theorem d_Mo_newTrust_118 : decode b_Mo_newTrust 118 = .ok (.iload_n 1, 1) := by decide +kernel
theorem d_Mo_newTrust_119 : decode b_Mo_newTrust 119 = .ok (.iload 6, 2) := by decide +kernel
theorem d_Mo_newTrust_121 : decode b_Mo_newTrust 121 = .ok (.iload_n 3, 1) := by decide +kernel
theorem d_Mo_newTrust_122 : decode b_Mo_newTrust 122 = .ok (.iload 7, 2) := by decide +kernel
theorem d_Mo_newTrust_124 : decode b_Mo_newTrust 124 = .ok (.invokestatic 160, 3) := by decide +kernel
theorem d_Mo_newTrust_127 : decode b_Mo_newTrust 127 = .ok (.iload 6, 2) := by decide +kernel
theorem d_Mo_newTrust_129 : decode b_Mo_newTrust 129 = .ok (.iload_n 2, 1) := by decide +kernel
theorem d_Mo_newTrust_130 : decode b_Mo_newTrust 130 = .ok (.iload_n 3, 1) := by decide +kernel
theorem d_Mo_newTrust_131 : decode b_Mo_newTrust 131 = .ok (.iload 8, 2) := by decide +kernel
theorem d_Mo_newTrust_133 : decode b_Mo_newTrust 133 = .ok (.invokestatic 160, 3) := by decide +kernel
theorem d_Mo_newTrust_136 : decode b_Mo_newTrust 136 = .ok (.invokevirtual 164, 3) := by decide +kernel
theorem d_Mo_newTrust_139 : decode b_Mo_newTrust 139 = .ok (.ireturn, 1) := by decide +kernel
theorem d_Mo_newTrust_140 : decode b_Mo_newTrust 140 = .ok (.iinc 8 1, 3) := by decide +kernel
theorem d_Mo_newTrust_143 : decode b_Mo_newTrust 143 = .ok (.goto (-95), 3) := by decide +kernel
theorem d_Mo_newTrust_146 : decode b_Mo_newTrust 146 = .ok (.iinc 7 1, 3) := by decide +kernel
theorem d_Mo_newTrust_149 : decode b_Mo_newTrust 149 = .ok (.goto (-111), 3) := by decide +kernel
theorem d_Mo_newTrust_152 : decode b_Mo_newTrust 152 = .ok (.iinc 6 1, 3) := by decide +kernel
theorem d_Mo_newTrust_155 : decode b_Mo_newTrust 155 = .ok (.goto (-130), 3) := by decide +kernel
theorem d_Mo_newTrust_158 : decode b_Mo_newTrust 158 = .ok (.iconst 0, 1) := by decide +kernel
theorem d_Mo_newTrust_159 : decode b_Mo_newTrust 159 = .ok (.istore 6, 2) := by decide +kernel
theorem d_Mo_newTrust_161 : decode b_Mo_newTrust 161 = .ok (.iload 6, 2) := by decide +kernel
theorem d_Mo_newTrust_163 : decode b_Mo_newTrust 163 = .ok (.bipush 6, 2) := by decide +kernel
theorem d_Mo_newTrust_165 : decode b_Mo_newTrust 165 = .ok (.if_icmp .ge 61, 3) := by decide +kernel
theorem d_Mo_newTrust_168 : decode b_Mo_newTrust 168 = .ok (.aload_n 0, 1) := by decide +kernel
theorem d_Mo_newTrust_169 : decode b_Mo_newTrust 169 = .ok (.iload 6, 2) := by decide +kernel
theorem d_Mo_newTrust_171 : decode b_Mo_newTrust 171 = .ok (.iload_n 1, 1) := by decide +kernel
theorem d_Mo_newTrust_172 : decode b_Mo_newTrust 172 = .ok (.invokestatic 157, 3) := by decide +kernel
theorem d_Mo_newTrust_175 : decode b_Mo_newTrust 175 = .ok (.invokevirtual 168, 3) := by decide +kernel
theorem d_Mo_newTrust_178 : decode b_Mo_newTrust 178 = .ok (.ifCond .eq 42, 3) := by decide +kernel
theorem d_Mo_newTrust_181 : decode b_Mo_newTrust 181 = .ok (.aload_n 0, 1) := by decide +kernel
theorem d_Mo_newTrust_182 : decode b_Mo_newTrust 182 = .ok (.iload 6, 2) := by decide +kernel
theorem d_Mo_newTrust_184 : decode b_Mo_newTrust 184 = .ok (.iload_n 2, 1) := by decide +kernel
theorem d_Mo_newTrust_185 : decode b_Mo_newTrust 185 = .ok (.iload_n 3, 1) := by decide +kernel
theorem d_Mo_newTrust_186 : decode b_Mo_newTrust 186 = .ok (.iload 4, 2) := by decide +kernel
theorem d_Mo_newTrust_188 : decode b_Mo_newTrust 188 = .ok (.invokestatic 160, 3) := by decide +kernel
theorem d_Mo_newTrust_191 : decode b_Mo_newTrust 191 = .ok (.invokevirtual 168, 3) := by decide +kernel
theorem d_Mo_newTrust_194 : decode b_Mo_newTrust 194 = .ok (.ifCond .eq 26, 3) := by decide +kernel
theorem d_Mo_newTrust_197 : decode b_Mo_newTrust 197 = .ok (.aload_n 0, 1) := by decide +kernel
theorem d_Mo_newTrust_198 : decode b_Mo_newTrust 198 = .ok (.iload 5, 2) := by decide +kernel
theorem d_Mo_newTrust_200 : decode b_Mo_newTrust 200 = .ok (.iconst 5, 1) := by decide +kernel
theorem d_Mo_newTrust_201 : decode b_Mo_newTrust 201 = .ok (.iload 6, 2) := by decide +kernel
theorem d_Mo_newTrust_203 : decode b_Mo_newTrust 203 = .ok (.iload_n 1, 1) := by decide +kernel
theorem d_Mo_newTrust_204 : decode b_Mo_newTrust 204 = .ok (.invokestatic 157, 3) := by decide +kernel
theorem d_Mo_newTrust_207 : decode b_Mo_newTrust 207 = .ok (.iload 6, 2) := by decide +kernel
theorem d_Mo_newTrust_209 : decode b_Mo_newTrust 209 = .ok (.iload_n 2, 1) := by decide +kernel
theorem d_Mo_newTrust_210 : decode b_Mo_newTrust 210 = .ok (.iload_n 3, 1) := by decide +kernel
theorem d_Mo_newTrust_211 : decode b_Mo_newTrust 211 = .ok (.iload 4, 2) := by decide +kernel
theorem d_Mo_newTrust_213 : decode b_Mo_newTrust 213 = .ok (.invokestatic 160, 3) := by decide +kernel
theorem d_Mo_newTrust_216 : decode b_Mo_newTrust 216 = .ok (.invokevirtual 164, 3) := by decide +kernel
theorem d_Mo_newTrust_219 : decode b_Mo_newTrust 219 = .ok (.ireturn, 1) := by decide +kernel
theorem d_Mo_newTrust_220 : decode b_Mo_newTrust 220 = .ok (.iinc 6 1, 3) := by decide +kernel
theorem d_Mo_newTrust_223 : decode b_Mo_newTrust 223 = .ok (.goto (-62), 3) := by decide +kernel
theorem d_Mo_newTrust_226 : decode b_Mo_newTrust 226 = .ok (.iconst 0, 1) := by decide +kernel
theorem d_Mo_newTrust_227 : decode b_Mo_newTrust 227 = .ok (.ireturn, 1) := by decide +kernel
