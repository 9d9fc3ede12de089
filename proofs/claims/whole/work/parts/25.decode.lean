theorem d_D_build_40 : decode b_D_build 40 = .ok (.aload_n 0, 1) := by decide +kernel
theorem d_D_build_41 : decode b_D_build 41 = .ok (.getfield 54, 3) := by decide +kernel
theorem d_D_build_44 : decode b_D_build 44 = .ok (.iconst 5, 1) := by decide +kernel
theorem d_D_build_45 : decode b_D_build 45 = .ok (.dup2, 1) := by decide +kernel
theorem d_D_build_46 : decode b_D_build 46 = .ok (.iaload, 1) := by decide +kernel
theorem d_D_build_47 : decode b_D_build 47 = .ok (.iconst 1, 1) := by decide +kernel
theorem d_D_build_48 : decode b_D_build 48 = .ok (.iadd, 1) := by decide +kernel
theorem d_D_build_49 : decode b_D_build 49 = .ok (.iastore, 1) := by decide +kernel
theorem d_D_build_50 : decode b_D_build 50 = .ok (.aload_n 0, 1) := by decide +kernel
theorem d_D_build_51 : decode b_D_build 51 = .ok (.getfield 96, 3) := by decide +kernel
theorem d_D_build_54 : decode b_D_build 54 = .ok (.ifCond .le 14, 3) := by decide +kernel
theorem d_D_build_57 : decode b_D_build 57 = .ok (.aload_n 0, 1) := by decide +kernel
theorem d_D_build_58 : decode b_D_build 58 = .ok (.getfield 54, 3) := by decide +kernel
theorem d_D_build_61 : decode b_D_build 61 = .ok (.bipush 6, 2) := by decide +kernel
theorem d_D_build_63 : decode b_D_build 63 = .ok (.dup2, 1) := by decide +kernel
theorem d_D_build_64 : decode b_D_build 64 = .ok (.iaload, 1) := by decide +kernel
theorem d_D_build_65 : decode b_D_build 65 = .ok (.iconst 1, 1) := by decide +kernel
theorem d_D_build_66 : decode b_D_build 66 = .ok (.iadd, 1) := by decide +kernel
theorem d_D_build_67 : decode b_D_build 67 = .ok (.iastore, 1) := by decide +kernel
theorem d_D_build_68 : decode b_D_build 68 = .ok (.lload_n 3, 1) := by decide +kernel
theorem d_D_build_69 : decode b_D_build 69 = .ok (.lreturn, 1) := by decide +kernel
theorem d_D_keep_0 : decode b_D_keep 0 = .ok (.iconst 0, 1) := by decide +kernel
theorem d_D_keep_1 : decode b_D_keep 1 = .ok (.istore_n 3, 1) := by decide +kernel
theorem d_D_keep_2 : decode b_D_keep 2 = .ok (.iload_n 3, 1) := by decide +kernel
theorem d_D_keep_3 : decode b_D_keep 3 = .ok (.iload_n 2, 1) := by decide +kernel
theorem d_D_keep_4 : decode b_D_keep 4 = .ok (.if_icmp .ge 15, 3) := by decide +kernel
theorem d_D_keep_7 : decode b_D_keep 7 = .ok (.aload_n 1, 1) := by decide +kernel
theorem d_D_keep_8 : decode b_D_keep 8 = .ok (.iload_n 3, 1) := by decide +kernel
theorem d_D_keep_9 : decode b_D_keep 9 = .ok (.aload_n 0, 1) := by decide +kernel
theorem d_D_keep_10 : decode b_D_keep 10 = .ok (.iload_n 3, 1) := by decide +kernel
theorem d_D_keep_11 : decode b_D_keep 11 = .ok (.iaload, 1) := by decide +kernel
theorem d_D_keep_12 : decode b_D_keep 12 = .ok (.iastore, 1) := by decide +kernel
theorem d_D_keep_13 : decode b_D_keep 13 = .ok (.iinc 3 1, 3) := by decide +kernel
theorem d_D_keep_16 : decode b_D_keep 16 = .ok (.goto (-14), 3) := by decide +kernel
theorem d_D_keep_19 : decode b_D_keep 19 = .ok (.return_, 1) := by decide +kernel
theorem d_D_stale_0 : decode b_D_stale 0 = .ok (.aload_n 0, 1) := by decide +kernel
theorem d_D_stale_1 : decode b_D_stale 1 = .ok (.iload_n 1, 1) := by decide +kernel
theorem d_D_stale_2 : decode b_D_stale 2 = .ok (.iconst 0, 1) := by decide +kernel
theorem d_D_stale_3 : decode b_D_stale 3 = .ok (.iconst 1, 1) := by decide +kernel
theorem d_D_stale_4 : decode b_D_stale 4 = .ok (.invokestatic 103, 3) := by decide +kernel
theorem d_D_stale_7 : decode b_D_stale 7 = .ok (.ifCond .eq 17, 3) := by decide +kernel
theorem d_D_stale_10 : decode b_D_stale 10 = .ok (.iload_n 2, 1) := by decide +kernel
theorem d_D_stale_11 : decode b_D_stale 11 = .ok (.iconst 0, 1) := by decide +kernel
theorem d_D_stale_12 : decode b_D_stale 12 = .ok (.bipush 11, 2) := by decide +kernel
theorem d_D_stale_14 : decode b_D_stale 14 = .ok (.invokestatic 103, 3) := by decide +kernel
theorem d_D_stale_17 : decode b_D_stale 17 = .ok (.ifCond .eq 7, 3) := by decide +kernel
theorem d_D_stale_20 : decode b_D_stale 20 = .ok (.iconst 1, 1) := by decide +kernel
theorem d_D_stale_21 : decode b_D_stale 21 = .ok (.goto 4, 3) := by decide +kernel
theorem d_D_stale_24 : decode b_D_stale 24 = .ok (.iconst 0, 1) := by decide +kernel
theorem d_D_stale_25 : decode b_D_stale 25 = .ok (.invokevirtual 107, 3) := by decide +kernel
theorem d_D_stale_28 : decode b_D_stale 28 = .ok (.ifCond .eq 5, 3) := by decide +kernel
theorem d_D_stale_31 : decode b_D_stale 31 = .ok (.iconst 0, 1) := by decide +kernel
theorem d_D_stale_32 : decode b_D_stale 32 = .ok (.ireturn, 1) := by decide +kernel
theorem d_D_stale_33 : decode b_D_stale 33 = .ok (.aload_n 0, 1) := by decide +kernel
theorem d_D_stale_34 : decode b_D_stale 34 = .ok (.getfield 42, 3) := by decide +kernel
theorem d_D_stale_37 : decode b_D_stale 37 = .ok (.aload_n 0, 1) := by decide +kernel
theorem d_D_stale_38 : decode b_D_stale 38 = .ok (.getfield 45, 3) := by decide +kernel
theorem d_D_stale_41 : decode b_D_stale 41 = .ok (.bipush 24, 2) := by decide +kernel
theorem d_D_stale_43 : decode b_D_stale 43 = .ok (.invokestatic 175, 3) := by decide +kernel
theorem d_D_stale_46 : decode b_D_stale 46 = .ok (.aload_n 0, 1) := by decide +kernel
theorem d_D_stale_47 : decode b_D_stale 47 = .ok (.getfield 48, 3) := by decide +kernel
theorem d_D_stale_50 : decode b_D_stale 50 = .ok (.aload_n 0, 1) := by decide +kernel
theorem d_D_stale_51 : decode b_D_stale 51 = .ok (.getfield 51, 3) := by decide +kernel
theorem d_D_stale_54 : decode b_D_stale 54 = .ok (.bipush 16, 2) := by decide +kernel
theorem d_D_stale_56 : decode b_D_stale 56 = .ok (.invokestatic 175, 3) := by decide +kernel
theorem d_D_stale_59 : decode b_D_stale 59 = .ok (.aload_n 0, 1) := by decide +kernel
theorem d_D_stale_60 : decode b_D_stale 60 = .ok (.getfield 54, 3) := by decide +kernel
theorem d_D_stale_63 : decode b_D_stale 63 = .ok (.aload_n 0, 1) := by decide +kernel
theorem d_D_stale_64 : decode b_D_stale 64 = .ok (.getfield 57, 3) := by decide +kernel
theorem d_D_stale_67 : decode b_D_stale 67 = .ok (.bipush 7, 2) := by decide +kernel
theorem d_D_stale_69 : decode b_D_stale 69 = .ok (.invokestatic 175, 3) := by decide +kernel
theorem d_D_stale_72 : decode b_D_stale 72 = .ok (.aload_n 0, 1) := by decide +kernel
theorem d_D_stale_73 : decode b_D_stale 73 = .ok (.aload_n 0, 1) := by decide +kernel
theorem d_D_stale_74 : decode b_D_stale 74 = .ok (.getfield 100, 3) := by decide +kernel
theorem d_D_stale_77 : decode b_D_stale 77 = .ok (.putfield 115, 3) := by decide +kernel
theorem d_D_stale_80 : decode b_D_stale 80 = .ok (.aload_n 0, 1) := by decide +kernel
theorem d_D_stale_81 : decode b_D_stale 81 = .ok (.aload_n 0, 1) := by decide +kernel
theorem d_D_stale_82 : decode b_D_stale 82 = .ok (.getfield 121, 3) := by decide +kernel
theorem d_D_stale_85 : decode b_D_stale 85 = .ok (.putfield 179, 3) := by decide +kernel
theorem d_D_stale_88 : decode b_D_stale 88 = .ok (.aload_n 0, 1) := by decide +kernel
theorem d_D_stale_89 : decode b_D_stale 89 = .ok (.iload_n 1, 1) := by decide +kernel
theorem d_D_stale_90 : decode b_D_stale 90 = .ok (.iload_n 2, 1) := by decide +kernel
theorem d_D_stale_91 : decode b_D_stale 91 = .ok (.invokevirtual 171, 3) := by decide +kernel
theorem d_D_stale_94 : decode b_D_stale 94 = .ok (.lstore_n 3, 1) := by decide +kernel
theorem d_D_stale_95 : decode b_D_stale 95 = .ok (.aload_n 0, 1) := by decide +kernel
theorem d_D_stale_96 : decode b_D_stale 96 = .ok (.getfield 45, 3) := by decide +kernel
theorem d_D_stale_99 : decode b_D_stale 99 = .ok (.aload_n 0, 1) := by decide +kernel
theorem d_D_stale_100 : decode b_D_stale 100 = .ok (.getfield 42, 3) := by decide +kernel
theorem d_D_stale_103 : decode b_D_stale 103 = .ok (.bipush 24, 2) := by decide +kernel
theorem d_D_stale_105 : decode b_D_stale 105 = .ok (.invokestatic 175, 3) := by decide +kernel
theorem d_D_stale_108 : decode b_D_stale 108 = .ok (.aload_n 0, 1) := by decide +kernel
theorem d_D_stale_109 : decode b_D_stale 109 = .ok (.getfield 51, 3) := by decide +kernel
theorem d_D_stale_112 : decode b_D_stale 112 = .ok (.aload_n 0, 1) := by decide +kernel
theorem d_D_stale_113 : decode b_D_stale 113 = .ok (.getfield 48, 3) := by decide +kernel
theorem d_D_stale_116 : decode b_D_stale 116 = .ok (.bipush 16, 2) := by decide +kernel
theorem d_D_stale_118 : decode b_D_stale 118 = .ok (.invokestatic 175, 3) := by decide +kernel
theorem d_D_stale_121 : decode b_D_stale 121 = .ok (.aload_n 0, 1) := by decide +kernel
theorem d_D_stale_122 : decode b_D_stale 122 = .ok (.getfield 57, 3) := by decide +kernel
theorem d_D_stale_125 : decode b_D_stale 125 = .ok (.aload_n 0, 1) := by decide +kernel
theorem d_D_stale_126 : decode b_D_stale 126 = .ok (.getfield 54, 3) := by decide +kernel
theorem d_D_stale_129 : decode b_D_stale 129 = .ok (.bipush 7, 2) := by decide +kernel
theorem d_D_stale_131 : decode b_D_stale 131 = .ok (.invokestatic 175, 3) := by decide +kernel
theorem d_D_stale_134 : decode b_D_stale 134 = .ok (.aload_n 0, 1) := by decide +kernel
theorem d_D_stale_135 : decode b_D_stale 135 = .ok (.aload_n 0, 1) := by decide +kernel
theorem d_D_stale_136 : decode b_D_stale 136 = .ok (.getfield 115, 3) := by decide +kernel
theorem d_D_stale_139 : decode b_D_stale 139 = .ok (.putfield 100, 3) := by decide +kernel
theorem d_D_stale_142 : decode b_D_stale 142 = .ok (.aload_n 0, 1) := by decide +kernel
theorem d_D_stale_143 : decode b_D_stale 143 = .ok (.aload_n 0, 1) := by decide +kernel
theorem d_D_stale_144 : decode b_D_stale 144 = .ok (.getfield 179, 3) := by decide +kernel
theorem d_D_stale_147 : decode b_D_stale 147 = .ok (.putfield 121, 3) := by decide +kernel
theorem d_D_stale_150 : decode b_D_stale 150 = .ok (.aload_n 0, 1) := by decide +kernel
theorem d_D_stale_151 : decode b_D_stale 151 = .ok (.iconst 0, 1) := by decide +kernel
theorem d_D_stale_152 : decode b_D_stale 152 = .ok (.putfield 115, 3) := by decide +kernel
theorem d_D_stale_155 : decode b_D_stale 155 = .ok (.iconst 0, 1) := by decide +kernel
theorem d_D_stale_156 : decode b_D_stale 156 = .ok (.istore 5, 2) := by decide +kernel
theorem d_D_stale_158 : decode b_D_stale 158 = .ok (.iload 5, 2) := by decide +kernel
theorem d_D_stale_160 : decode b_D_stale 160 = .ok (.bipush 24, 2) := by decide +kernel
theorem d_D_stale_162 : decode b_D_stale 162 = .ok (.if_icmp .ge 17, 3) := by decide +kernel
theorem d_D_stale_165 : decode b_D_stale 165 = .ok (.aload_n 0, 1) := by decide +kernel
theorem d_D_stale_166 : decode b_D_stale 166 = .ok (.getfield 45, 3) := by decide +kernel
theorem d_D_stale_169 : decode b_D_stale 169 = .ok (.iload 5, 2) := by decide +kernel
theorem d_D_stale_171 : decode b_D_stale 171 = .ok (.iconst (-1), 1) := by decide +kernel
theorem d_D_stale_172 : decode b_D_stale 172 = .ok (.iastore, 1) := by decide +kernel
theorem d_D_stale_173 : decode b_D_stale 173 = .ok (.iinc 5 1, 3) := by decide +kernel
theorem d_D_stale_176 : decode b_D_stale 176 = .ok (.goto (-18), 3) := by decide +kernel
theorem d_D_stale_179 : decode b_D_stale 179 = .ok (.aload_n 0, 1) := by decide +kernel
theorem d_D_stale_180 : decode b_D_stale 180 = .ok (.getfield 131, 3) := by decide +kernel
theorem d_D_stale_183 : decode b_D_stale 183 = .ok (.ireturn, 1) := by decide +kernel
theorem d_D_forget_0 : decode b_D_forget 0 = .ok (.aload_n 0, 1) := by decide +kernel
theorem d_D_forget_1 : decode b_D_forget 1 = .ok (.iload_n 1, 1) := by decide +kernel
theorem d_D_forget_2 : decode b_D_forget 2 = .ok (.iconst 0, 1) := by decide +kernel
theorem d_D_forget_3 : decode b_D_forget 3 = .ok (.iconst 1, 1) := by decide +kernel
theorem d_D_forget_4 : decode b_D_forget 4 = .ok (.invokestatic 103, 3) := by decide +kernel
theorem d_D_forget_7 : decode b_D_forget 7 = .ok (.invokevirtual 107, 3) := by decide +kernel
theorem d_D_forget_10 : decode b_D_forget 10 = .ok (.ifCond .eq 5, 3) := by decide +kernel
theorem d_D_forget_13 : decode b_D_forget 13 = .ok (.iconst 0, 1) := by decide +kernel
theorem d_D_forget_14 : decode b_D_forget 14 = .ok (.ireturn, 1) := by decide +kernel
theorem d_D_forget_15 : decode b_D_forget 15 = .ok (.aload_n 0, 1) := by decide +kernel
theorem d_D_forget_16 : decode b_D_forget 16 = .ok (.iload_n 1, 1) := by decide +kernel
theorem d_D_forget_17 : decode b_D_forget 17 = .ok (.invokevirtual 182, 3) := by decide +kernel
theorem d_D_forget_20 : decode b_D_forget 20 = .ok (.istore_n 2, 1) := by decide +kernel
theorem d_D_forget_21 : decode b_D_forget 21 = .ok (.iconst 0, 1) := by decide +kernel
theorem d_D_forget_22 : decode b_D_forget 22 = .ok (.istore_n 3, 1) := by decide +kernel
theorem d_D_forget_23 : decode b_D_forget 23 = .ok (.iload_n 3, 1) := by decide +kernel
theorem d_D_forget_24 : decode b_D_forget 24 = .ok (.bipush 12, 2) := by decide +kernel
theorem d_D_forget_26 : decode b_D_forget 26 = .ok (.if_icmp .ge 21, 3) := by decide +kernel
theorem d_D_forget_29 : decode b_D_forget 29 = .ok (.aload_n 0, 1) := by decide +kernel
theorem d_D_forget_30 : decode b_D_forget 30 = .ok (.getfield 42, 3) := by decide +kernel
theorem d_D_forget_33 : decode b_D_forget 33 = .ok (.iload_n 1, 1) := by decide +kernel
theorem d_D_forget_34 : decode b_D_forget 34 = .ok (.bipush 12, 2) := by decide +kernel
theorem d_D_forget_36 : decode b_D_forget 36 = .ok (.imul, 1) := by decide +kernel
theorem d_D_forget_37 : decode b_D_forget 37 = .ok (.iload_n 3, 1) := by decide +kernel
theorem d_D_forget_38 : decode b_D_forget 38 = .ok (.iadd, 1) := by decide +kernel
theorem d_D_forget_39 : decode b_D_forget 39 = .ok (.iconst (-1), 1) := by decide +kernel
theorem d_D_forget_40 : decode b_D_forget 40 = .ok (.iastore, 1) := by decide +kernel
theorem d_D_forget_41 : decode b_D_forget 41 = .ok (.iinc 3 1, 3) := by decide +kernel
theorem d_D_forget_44 : decode b_D_forget 44 = .ok (.goto (-21), 3) := by decide +kernel
theorem d_D_forget_47 : decode b_D_forget 47 = .ok (.iload_n 2, 1) := by decide +kernel
theorem d_D_forget_48 : decode b_D_forget 48 = .ok (.ireturn, 1) := by decide +kernel
theorem d_D_tracesOf_0 : decode b_D_tracesOf 0 = .ok (.iconst 0, 1) := by decide +kernel
theorem d_D_tracesOf_1 : decode b_D_tracesOf 1 = .ok (.istore_n 2, 1) := by decide +kernel
theorem d_D_tracesOf_2 : decode b_D_tracesOf 2 = .ok (.iconst 0, 1) := by decide +kernel
theorem d_D_tracesOf_3 : decode b_D_tracesOf 3 = .ok (.istore_n 3, 1) := by decide +kernel
theorem d_D_tracesOf_4 : decode b_D_tracesOf 4 = .ok (.iload_n 3, 1) := by decide +kernel
theorem d_D_tracesOf_5 : decode b_D_tracesOf 5 = .ok (.bipush 12, 2) := by decide +kernel
theorem d_D_tracesOf_7 : decode b_D_tracesOf 7 = .ok (.if_icmp .ge 26, 3) := by decide +kernel
theorem d_D_tracesOf_10 : decode b_D_tracesOf 10 = .ok (.aload_n 0, 1) := by decide +kernel
theorem d_D_tracesOf_11 : decode b_D_tracesOf 11 = .ok (.getfield 42, 3) := by decide +kernel
theorem d_D_tracesOf_14 : decode b_D_tracesOf 14 = .ok (.iload_n 1, 1) := by decide +kernel
theorem d_D_tracesOf_15 : decode b_D_tracesOf 15 = .ok (.bipush 12, 2) := by decide +kernel
theorem d_D_tracesOf_17 : decode b_D_tracesOf 17 = .ok (.imul, 1) := by decide +kernel
theorem d_D_tracesOf_18 : decode b_D_tracesOf 18 = .ok (.iload_n 3, 1) := by decide +kernel
theorem d_D_tracesOf_19 : decode b_D_tracesOf 19 = .ok (.iadd, 1) := by decide +kernel
theorem d_D_tracesOf_20 : decode b_D_tracesOf 20 = .ok (.iaload, 1) := by decide +kernel
theorem d_D_tracesOf_21 : decode b_D_tracesOf 21 = .ok (.ifCond .lt 6, 3) := by decide +kernel
theorem d_D_tracesOf_24 : decode b_D_tracesOf 24 = .ok (.iinc 2 1, 3) := by decide +kernel
theorem d_D_tracesOf_27 : decode b_D_tracesOf 27 = .ok (.iinc 3 1, 3) := by decide +kernel
theorem d_D_tracesOf_30 : decode b_D_tracesOf 30 = .ok (.goto (-26), 3) := by decide +kernel
theorem d_D_tracesOf_33 : decode b_D_tracesOf 33 = .ok (.iload_n 2, 1) := by decide +kernel
theorem d_D_tracesOf_34 : decode b_D_tracesOf 34 = .ok (.ireturn, 1) := by decide +kernel
theorem d_D_cut_0 : decode b_D_cut 0 = .ok (.aload_n 0, 1) := by decide +kernel
theorem d_D_cut_1 : decode b_D_cut 1 = .ok (.getfield 100, 3) := by decide +kernel
theorem d_D_cut_4 : decode b_D_cut 4 = .ok (.iload_n 1, 1) := by decide +kernel
theorem d_D_cut_5 : decode b_D_cut 5 = .ok (.if_icmp .le 12, 3) := by decide +kernel
theorem d_D_cut_8 : decode b_D_cut 8 = .ok (.aload_n 0, 1) := by decide +kernel
theorem d_D_cut_9 : decode b_D_cut 9 = .ok (.getfield 100, 3) := by decide +kernel
theorem d_D_cut_12 : decode b_D_cut 12 = .ok (.iload_n 1, 1) := by decide +kernel
theorem d_D_cut_13 : decode b_D_cut 13 = .ok (.isub, 1) := by decide +kernel
theorem d_D_cut_14 : decode b_D_cut 14 = .ok (.goto 4, 3) := by decide +kernel
theorem d_D_cut_17 : decode b_D_cut 17 = .ok (.iconst 0, 1) := by decide +kernel
theorem d_D_cut_18 : decode b_D_cut 18 = .ok (.istore_n 2, 1) := by decide +kernel
theorem d_D_cut_19 : decode b_D_cut 19 = .ok (.iconst 0, 1) := by decide +kernel
theorem d_D_cut_20 : decode b_D_cut 20 = .ok (.istore_n 3, 1) := by decide +kernel
theorem d_D_cut_21 : decode b_D_cut 21 = .ok (.iload_n 3, 1) := by decide +kernel
theorem d_D_cut_22 : decode b_D_cut 22 = .ok (.iload_n 2, 1) := by decide +kernel
theorem d_D_cut_23 : decode b_D_cut 23 = .ok (.iadd, 1) := by decide +kernel
theorem d_D_cut_24 : decode b_D_cut 24 = .ok (.aload_n 0, 1) := by decide +kernel
theorem d_D_cut_25 : decode b_D_cut 25 = .ok (.getfield 100, 3) := by decide +kernel
theorem d_D_cut_28 : decode b_D_cut 28 = .ok (.if_icmp .ge 23, 3) := by decide +kernel
theorem d_D_cut_31 : decode b_D_cut 31 = .ok (.aload_n 0, 1) := by decide +kernel
theorem d_D_cut_32 : decode b_D_cut 32 = .ok (.getfield 48, 3) := by decide +kernel
theorem d_D_cut_35 : decode b_D_cut 35 = .ok (.iload_n 3, 1) := by decide +kernel
theorem d_D_cut_36 : decode b_D_cut 36 = .ok (.aload_n 0, 1) := by decide +kernel
theorem d_D_cut_37 : decode b_D_cut 37 = .ok (.getfield 48, 3) := by decide +kernel
theorem d_D_cut_40 : decode b_D_cut 40 = .ok (.iload_n 3, 1) := by decide +kernel
theorem d_D_cut_41 : decode b_D_cut 41 = .ok (.iload_n 2, 1) := by decide +kernel
theorem d_D_cut_42 : decode b_D_cut 42 = .ok (.iadd, 1) := by decide +kernel
theorem d_D_cut_43 : decode b_D_cut 43 = .ok (.iaload, 1) := by decide +kernel
theorem d_D_cut_44 : decode b_D_cut 44 = .ok (.iastore, 1) := by decide +kernel
theorem d_D_cut_45 : decode b_D_cut 45 = .ok (.iinc 3 1, 3) := by decide +kernel
theorem d_D_cut_48 : decode b_D_cut 48 = .ok (.goto (-27), 3) := by decide +kernel
theorem d_D_cut_51 : decode b_D_cut 51 = .ok (.aload_n 0, 1) := by decide +kernel
theorem d_D_cut_52 : decode b_D_cut 52 = .ok (.dup, 1) := by decide +kernel
theorem d_D_cut_53 : decode b_D_cut 53 = .ok (.getfield 100, 3) := by decide +kernel
theorem d_D_cut_56 : decode b_D_cut 56 = .ok (.iload_n 2, 1) := by decide +kernel
theorem d_D_cut_57 : decode b_D_cut 57 = .ok (.isub, 1) := by decide +kernel
theorem d_D_cut_58 : decode b_D_cut 58 = .ok (.putfield 100, 3) := by decide +kernel
theorem d_D_cut_61 : decode b_D_cut 61 = .ok (.iload_n 2, 1) := by decide +kernel
theorem d_D_cut_62 : decode b_D_cut 62 = .ok (.ireturn, 1) := by decide +kernel
theorem d_D_shrink_0 : decode b_D_shrink 0 = .ok (.aload_n 0, 1) := by decide +kernel
theorem d_D_shrink_1 : decode b_D_shrink 1 = .ok (.iload_n 1, 1) := by decide +kernel
theorem d_D_shrink_2 : decode b_D_shrink 2 = .ok (.iconst 0, 1) := by decide +kernel
theorem d_D_shrink_3 : decode b_D_shrink 3 = .ok (.bipush 16, 2) := by decide +kernel
theorem d_D_shrink_5 : decode b_D_shrink 5 = .ok (.invokestatic 103, 3) := by decide +kernel
theorem d_D_shrink_8 : decode b_D_shrink 8 = .ok (.invokevirtual 107, 3) := by decide +kernel
theorem d_D_shrink_11 : decode b_D_shrink 11 = .ok (.ifCond .eq 5, 3) := by decide +kernel
theorem d_D_shrink_14 : decode b_D_shrink 14 = .ok (.iconst 0, 1) := by decide +kernel
theorem d_D_shrink_15 : decode b_D_shrink 15 = .ok (.ireturn, 1) := by decide +kernel
theorem d_D_shrink_16 : decode b_D_shrink 16 = .ok (.aload_n 0, 1) := by decide +kernel
theorem d_D_shrink_17 : decode b_D_shrink 17 = .ok (.iload_n 1, 1) := by decide +kernel
theorem d_D_shrink_18 : decode b_D_shrink 18 = .ok (.invokevirtual 152, 3) := by decide +kernel
theorem d_D_shrink_21 : decode b_D_shrink 21 = .ok (.ireturn, 1) := by decide +kernel
theorem d_D_traceWith_0 : decode b_D_traceWith 0 = .ok (.aload_n 0, 1) := by decide +kernel
theorem d_D_traceWith_1 : decode b_D_traceWith 1 = .ok (.iload_n 1, 1) := by decide +kernel
theorem d_D_traceWith_2 : decode b_D_traceWith 2 = .ok (.iconst 0, 1) := by decide +kernel
theorem d_D_traceWith_3 : decode b_D_traceWith 3 = .ok (.iconst 1, 1) := by decide +kernel
theorem d_D_traceWith_4 : decode b_D_traceWith 4 = .ok (.invokestatic 103, 3) := by decide +kernel
theorem d_D_traceWith_7 : decode b_D_traceWith 7 = .ok (.ifCond .eq 17, 3) := by decide +kernel
theorem d_D_traceWith_10 : decode b_D_traceWith 10 = .ok (.iload_n 2, 1) := by decide +kernel
theorem d_D_traceWith_11 : decode b_D_traceWith 11 = .ok (.iconst 0, 1) := by decide +kernel
theorem d_D_traceWith_12 : decode b_D_traceWith 12 = .ok (.bipush 11, 2) := by decide +kernel
theorem d_D_traceWith_14 : decode b_D_traceWith 14 = .ok (.invokestatic 103, 3) := by decide +kernel
theorem d_D_traceWith_17 : decode b_D_traceWith 17 = .ok (.ifCond .eq 7, 3) := by decide +kernel
theorem d_D_traceWith_20 : decode b_D_traceWith 20 = .ok (.iconst 1, 1) := by decide +kernel
theorem d_D_traceWith_21 : decode b_D_traceWith 21 = .ok (.goto 4, 3) := by decide +kernel
theorem d_D_traceWith_24 : decode b_D_traceWith 24 = .ok (.iconst 0, 1) := by decide +kernel
theorem d_D_traceWith_25 : decode b_D_traceWith 25 = .ok (.invokevirtual 107, 3) := by decide +kernel
theorem d_D_traceWith_28 : decode b_D_traceWith 28 = .ok (.ifCond .eq 5, 3) := by decide +kernel
theorem d_D_traceWith_31 : decode b_D_traceWith 31 = .ok (.iconst (-1), 1) := by decide +kernel
theorem d_D_traceWith_32 : decode b_D_traceWith 32 = .ok (.ireturn, 1) := by decide +kernel
theorem d_D_traceWith_33 : decode b_D_traceWith 33 = .ok (.aload_n 0, 1) := by decide +kernel
theorem d_D_traceWith_34 : decode b_D_traceWith 34 = .ok (.getfield 42, 3) := by decide +kernel
theorem d_D_traceWith_37 : decode b_D_traceWith 37 = .ok (.iload_n 1, 1) := by decide +kernel
theorem d_D_traceWith_38 : decode b_D_traceWith 38 = .ok (.bipush 12, 2) := by decide +kernel
theorem d_D_traceWith_40 : decode b_D_traceWith 40 = .ok (.imul, 1) := by decide +kernel
theorem d_D_traceWith_41 : decode b_D_traceWith 41 = .ok (.iload_n 2, 1) := by decide +kernel
theorem d_D_traceWith_42 : decode b_D_traceWith 42 = .ok (.iadd, 1) := by decide +kernel
theorem d_D_traceWith_43 : decode b_D_traceWith 43 = .ok (.iaload, 1) := by decide +kernel
theorem d_D_traceWith_44 : decode b_D_traceWith 44 = .ok (.istore 4, 2) := by decide +kernel
theorem d_D_traceWith_46 : decode b_D_traceWith 46 = .ok (.iload 4, 2) := by decide +kernel
theorem d_D_traceWith_48 : decode b_D_traceWith 48 = .ok (.ifCond .lt 19, 3) := by decide +kernel
theorem d_D_traceWith_51 : decode b_D_traceWith 51 = .ok (.iload_n 3, 1) := by decide +kernel
theorem d_D_traceWith_52 : decode b_D_traceWith 52 = .ok (.iconst (-1), 1) := by decide +kernel
theorem d_D_traceWith_53 : decode b_D_traceWith 53 = .ok (.if_icmp .lt 14, 3) := by decide +kernel
theorem d_D_traceWith_56 : decode b_D_traceWith 56 = .ok (.iload_n 3, 1) := by decide +kernel
theorem d_D_traceWith_57 : decode b_D_traceWith 57 = .ok (.aload_n 0, 1) := by decide +kernel
theorem d_D_traceWith_58 : decode b_D_traceWith 58 = .ok (.getfield 23, 3) := by decide +kernel
theorem d_D_traceWith_61 : decode b_D_traceWith 61 = .ok (.iload 4, 2) := by decide +kernel
theorem d_D_traceWith_63 : decode b_D_traceWith 63 = .ok (.iaload, 1) := by decide +kernel
theorem d_D_traceWith_64 : decode b_D_traceWith 64 = .ok (.if_icmp .lt 10, 3) := by decide +kernel
theorem d_D_traceWith_67 : decode b_D_traceWith 67 = .ok (.aload_n 0, 1) := by decide +kernel
theorem d_D_traceWith_68 : decode b_D_traceWith 68 = .ok (.iconst 2, 1) := by decide +kernel
theorem d_D_traceWith_69 : decode b_D_traceWith 69 = .ok (.putfield 96, 3) := by decide +kernel
theorem d_D_traceWith_72 : decode b_D_traceWith 72 = .ok (.iconst (-1), 1) := by decide +kernel
theorem d_D_traceWith_73 : decode b_D_traceWith 73 = .ok (.ireturn, 1) := by decide +kernel
theorem d_D_traceWith_74 : decode b_D_traceWith 74 = .ok (.iload 4, 2) := by decide +kernel
theorem d_D_traceWith_76 : decode b_D_traceWith 76 = .ok (.ireturn, 1) := by decide +kernel
theorem d_D_trace_0 : decode b_D_trace 0 = .ok (.aload_n 0, 1) := by decide +kernel
theorem d_D_trace_1 : decode b_D_trace 1 = .ok (.iload_n 1, 1) := by decide +kernel
theorem d_D_trace_2 : decode b_D_trace 2 = .ok (.iload_n 2, 1) := by decide +kernel
theorem d_D_trace_3 : decode b_D_trace 3 = .ok (.iload_n 3, 1) := by decide +kernel
theorem d_D_trace_4 : decode b_D_trace 4 = .ok (.invokevirtual 185, 3) := by decide +kernel
theorem d_D_trace_7 : decode b_D_trace 7 = .ok (.istore 4, 2) := by decide +kernel
theorem d_D_trace_9 : decode b_D_trace 9 = .ok (.iload 4, 2) := by decide +kernel
theorem d_D_trace_11 : decode b_D_trace 11 = .ok (.ifCond .ge 5, 3) := by decide +kernel
theorem d_D_trace_14 : decode b_D_trace 14 = .ok (.iconst 0, 1) := by decide +kernel
theorem d_D_trace_15 : decode b_D_trace 15 = .ok (.ireturn, 1) := by decide +kernel
theorem d_D_trace_16 : decode b_D_trace 16 = .ok (.iload_n 3, 1) := by decide +kernel
theorem d_D_trace_17 : decode b_D_trace 17 = .ok (.ifCond .ge 13, 3) := by decide +kernel
theorem d_D_trace_20 : decode b_D_trace 20 = .ok (.aload_n 0, 1) := by decide +kernel
theorem d_D_trace_21 : decode b_D_trace 21 = .ok (.getfield 23, 3) := by decide +kernel
theorem d_D_trace_24 : decode b_D_trace 24 = .ok (.iload 4, 2) := by decide +kernel
theorem d_D_trace_26 : decode b_D_trace 26 = .ok (.iaload, 1) := by decide +kernel
theorem d_D_trace_27 : decode b_D_trace 27 = .ok (.goto 15, 3) := by decide +kernel
theorem d_D_trace_30 : decode b_D_trace 30 = .ok (.aload_n 0, 1) := by decide +kernel
theorem d_D_trace_31 : decode b_D_trace 31 = .ok (.getfield 26, 3) := by decide +kernel
theorem d_D_trace_34 : decode b_D_trace 34 = .ok (.iload 4, 2) := by decide +kernel
theorem d_D_trace_36 : decode b_D_trace 36 = .ok (.bipush 12, 2) := by decide +kernel
theorem d_D_trace_38 : decode b_D_trace 38 = .ok (.imul, 1) := by decide +kernel
theorem d_D_trace_39 : decode b_D_trace 39 = .ok (.iload_n 3, 1) := by decide +kernel
theorem d_D_trace_40 : decode b_D_trace 40 = .ok (.iadd, 1) := by decide +kernel
theorem d_D_trace_41 : decode b_D_trace 41 = .ok (.iaload, 1) := by decide +kernel
theorem d_D_trace_42 : decode b_D_trace 42 = .ok (.ireturn, 1) := by decide +kernel
theorem d_D_traced_0 : decode b_D_traced 0 = .ok (.aload_n 0, 1) := by decide +kernel
theorem d_D_traced_1 : decode b_D_traced 1 = .ok (.iload_n 1, 1) := by decide +kernel
theorem d_D_traced_2 : decode b_D_traced 2 = .ok (.iload_n 2, 1) := by decide +kernel
theorem d_D_traced_3 : decode b_D_traced 3 = .ok (.iload_n 3, 1) := by decide +kernel
theorem d_D_traced_4 : decode b_D_traced 4 = .ok (.invokevirtual 185, 3) := by decide +kernel
theorem d_D_traced_7 : decode b_D_traced 7 = .ok (.istore 4, 2) := by decide +kernel
theorem d_D_traced_9 : decode b_D_traced 9 = .ok (.iload 4, 2) := by decide +kernel
theorem d_D_traced_11 : decode b_D_traced 11 = .ok (.ifCond .ge 5, 3) := by decide +kernel
theorem d_D_traced_14 : decode b_D_traced 14 = .ok (.lconst 0, 1) := by decide +kernel
theorem d_D_traced_15 : decode b_D_traced 15 = .ok (.lreturn, 1) := by decide +kernel
theorem d_D_traced_16 : decode b_D_traced 16 = .ok (.iload_n 3, 1) := by decide +kernel
theorem d_D_traced_17 : decode b_D_traced 17 = .ok (.ifCond .ge 13, 3) := by decide +kernel
theorem d_D_traced_20 : decode b_D_traced 20 = .ok (.aload_n 0, 1) := by decide +kernel
theorem d_D_traced_21 : decode b_D_traced 21 = .ok (.getfield 35, 3) := by decide +kernel
theorem d_D_traced_24 : decode b_D_traced 24 = .ok (.iload 4, 2) := by decide +kernel
theorem d_D_traced_26 : decode b_D_traced 26 = .ok (.laload, 1) := by decide +kernel
theorem d_D_traced_27 : decode b_D_traced 27 = .ok (.goto 15, 3) := by decide +kernel
theorem d_D_traced_30 : decode b_D_traced 30 = .ok (.aload_n 0, 1) := by decide +kernel
theorem d_D_traced_31 : decode b_D_traced 31 = .ok (.getfield 32, 3) := by decide +kernel
theorem d_D_traced_34 : decode b_D_traced 34 = .ok (.iload 4, 2) := by decide +kernel
theorem d_D_traced_36 : decode b_D_traced 36 = .ok (.bipush 12, 2) := by decide +kernel
theorem d_D_traced_38 : decode b_D_traced 38 = .ok (.imul, 1) := by decide +kernel
theorem d_D_traced_39 : decode b_D_traced 39 = .ok (.iload_n 3, 1) := by decide +kernel
theorem d_D_traced_40 : decode b_D_traced 40 = .ok (.iadd, 1) := by decide +kernel
theorem d_D_traced_41 : decode b_D_traced 41 = .ok (.laload, 1) := by decide +kernel
theorem d_D_traced_42 : decode b_D_traced 42 = .ok (.lreturn, 1) := by decide +kernel
theorem d_D_cached_0 : decode b_D_cached 0 = .ok (.aload_n 0, 1) := by decide +kernel
theorem d_D_cached_1 : decode b_D_cached 1 = .ok (.iload_n 1, 1) := by decide +kernel
theorem d_D_cached_2 : decode b_D_cached 2 = .ok (.iconst 0, 1) := by decide +kernel
theorem d_D_cached_3 : decode b_D_cached 3 = .ok (.aload_n 0, 1) := by decide +kernel
theorem d_D_cached_4 : decode b_D_cached 4 = .ok (.getfield 100, 3) := by decide +kernel
theorem d_D_cached_7 : decode b_D_cached 7 = .ok (.iconst 1, 1) := by decide +kernel
theorem d_D_cached_8 : decode b_D_cached 8 = .ok (.isub, 1) := by decide +kernel
theorem d_D_cached_9 : decode b_D_cached 9 = .ok (.invokestatic 103, 3) := by decide +kernel
theorem d_D_cached_12 : decode b_D_cached 12 = .ok (.ifCond .eq 7, 3) := by decide +kernel
theorem d_D_cached_15 : decode b_D_cached 15 = .ok (.iconst 0, 1) := by decide +kernel
theorem d_D_cached_16 : decode b_D_cached 16 = .ok (.goto 4, 3) := by decide +kernel
theorem d_D_cached_19 : decode b_D_cached 19 = .ok (.iconst 1, 1) := by decide +kernel
theorem d_D_cached_20 : decode b_D_cached 20 = .ok (.putfield 96, 3) := by decide +kernel
theorem d_D_cached_23 : decode b_D_cached 23 = .ok (.aload_n 0, 1) := by decide +kernel
theorem d_D_cached_24 : decode b_D_cached 24 = .ok (.getfield 96, 3) := by decide +kernel
theorem d_D_cached_27 : decode b_D_cached 27 = .ok (.ifCond .le 7, 3) := by decide +kernel
theorem d_D_cached_30 : decode b_D_cached 30 = .ok (.iconst 0, 1) := by decide +kernel
theorem d_D_cached_31 : decode b_D_cached 31 = .ok (.goto 14, 3) := by decide +kernel
theorem d_D_cached_34 : decode b_D_cached 34 = .ok (.aload_n 0, 1) := by decide +kernel
theorem d_D_cached_35 : decode b_D_cached 35 = .ok (.getfield 29, 3) := by decide +kernel
theorem d_D_cached_38 : decode b_D_cached 38 = .ok (.aload_n 0, 1) := by decide +kernel
theorem d_D_cached_39 : decode b_D_cached 39 = .ok (.getfield 48, 3) := by decide +kernel
theorem d_D_cached_42 : decode b_D_cached 42 = .ok (.iload_n 1, 1) := by decide +kernel
theorem d_D_cached_43 : decode b_D_cached 43 = .ok (.iaload, 1) := by decide +kernel
theorem d_D_cached_44 : decode b_D_cached 44 = .ok (.iaload, 1) := by decide +kernel
theorem d_D_cached_45 : decode b_D_cached 45 = .ok (.ireturn, 1) := by decide +kernel
theorem d_D_count_0 : decode b_D_count 0 = .ok (.aload_n 0, 1) := by decide +kernel
theorem d_D_count_1 : decode b_D_count 1 = .ok (.iconst 0, 1) := by decide +kernel
theorem d_D_count_2 : decode b_D_count 2 = .ok (.putfield 96, 3) := by decide +kernel
theorem d_D_count_5 : decode b_D_count 5 = .ok (.iload_n 1, 1) := by decide +kernel
theorem d_D_count_6 : decode b_D_count 6 = .ok (.ifCond .lt 16, 3) := by decide +kernel
theorem d_D_count_9 : decode b_D_count 9 = .ok (.iload_n 1, 1) := by decide +kernel
theorem d_D_count_10 : decode b_D_count 10 = .ok (.bipush 7, 2) := by decide +kernel
theorem d_D_count_12 : decode b_D_count 12 = .ok (.if_icmp .ge 10, 3) := by decide +kernel
theorem d_D_count_15 : decode b_D_count 15 = .ok (.aload_n 0, 1) := by decide +kernel
theorem d_D_count_16 : decode b_D_count 16 = .ok (.getfield 54, 3) := by decide +kernel
theorem d_D_count_19 : decode b_D_count 19 = .ok (.iload_n 1, 1) := by decide +kernel
theorem d_D_count_20 : decode b_D_count 20 = .ok (.iaload, 1) := by decide +kernel
theorem d_D_count_21 : decode b_D_count 21 = .ok (.ireturn, 1) := by decide +kernel
theorem d_D_count_22 : decode b_D_count 22 = .ok (.iload_n 1, 1) := by decide +kernel
theorem d_D_count_23 : decode b_D_count 23 = .ok (.bipush 7, 2) := by decide +kernel
theorem d_D_count_25 : decode b_D_count 25 = .ok (.if_icmp .ne 10, 3) := by decide +kernel
theorem d_D_count_28 : decode b_D_count 28 = .ok (.aload_n 0, 1) := by decide +kernel
theorem d_D_count_29 : decode b_D_count 29 = .ok (.getfield 100, 3) := by decide +kernel
theorem d_D_count_32 : decode b_D_count 32 = .ok (.goto 40, 3) := by decide +kernel
theorem d_D_count_35 : decode b_D_count 35 = .ok (.iload_n 1, 1) := by decide +kernel
theorem d_D_count_36 : decode b_D_count 36 = .ok (.bipush 8, 2) := by decide +kernel
theorem d_D_count_38 : decode b_D_count 38 = .ok (.if_icmp .eq 9, 3) := by decide +kernel
theorem d_D_count_41 : decode b_D_count 41 = .ok (.iload_n 1, 1) := by decide +kernel
theorem d_D_count_42 : decode b_D_count 42 = .ok (.bipush 9, 2) := by decide +kernel
theorem d_D_count_44 : decode b_D_count 44 = .ok (.if_icmp .ne 14, 3) := by decide +kernel
theorem d_D_count_47 : decode b_D_count 47 = .ok (.aload_n 0, 1) := by decide +kernel
theorem d_D_count_48 : decode b_D_count 48 = .ok (.iload_n 1, 1) := by decide +kernel
theorem d_D_count_49 : decode b_D_count 49 = .ok (.bipush 8, 2) := by decide +kernel
theorem d_D_count_51 : decode b_D_count 51 = .ok (.isub, 1) := by decide +kernel
theorem d_D_count_52 : decode b_D_count 52 = .ok (.invokevirtual 182, 3) := by decide +kernel
theorem d_D_count_55 : decode b_D_count 55 = .ok (.goto 17, 3) := by decide +kernel
theorem d_D_count_58 : decode b_D_count 58 = .ok (.iload_n 1, 1) := by decide +kernel
theorem d_D_count_59 : decode b_D_count 59 = .ok (.bipush 10, 2) := by decide +kernel
theorem d_D_count_61 : decode b_D_count 61 = .ok (.if_icmp .ne 10, 3) := by decide +kernel
theorem d_D_count_64 : decode b_D_count 64 = .ok (.aload_n 0, 1) := by decide +kernel
theorem d_D_count_65 : decode b_D_count 65 = .ok (.getfield 121, 3) := by decide +kernel
theorem d_D_count_68 : decode b_D_count 68 = .ok (.goto 4, 3) := by decide +kernel
theorem d_D_count_71 : decode b_D_count 71 = .ok (.iconst (-1), 1) := by decide +kernel
theorem d_D_count_72 : decode b_D_count 72 = .ok (.ireturn, 1) := by decide +kernel
theorem d_L_input_0 : decode b_L_input 0 = .ok (.aload_n 0, 1) := by decide +kernel
theorem d_L_input_1 : decode b_L_input 1 = .ok (.iload_n 1, 1) := by decide +kernel
theorem d_L_input_2 : decode b_L_input 2 = .ok (.lload_n 2, 1) := by decide +kernel
theorem d_L_input_3 : decode b_L_input 3 = .ok (.invokevirtual 7, 3) := by decide +kernel
theorem d_L_input_6 : decode b_L_input 6 = .ok (.goto 7, 3) := by decide +kernel
theorem d_L_input_9 : decode b_L_input 9 = .ok (.astore 4, 2) := by decide +kernel
theorem d_L_input_11 : decode b_L_input 11 = .ok (.iconst 1, 1) := by decide +kernel
theorem d_L_input_12 : decode b_L_input 12 = .ok (.ireturn, 1) := by decide +kernel
theorem d_L_input_13 : decode b_L_input 13 = .ok (.iconst 0, 1) := by decide +kernel
theorem d_L_input_14 : decode b_L_input 14 = .ok (.ireturn, 1) := by decide +kernel
theorem d_L_task_0 : decode b_L_task 0 = .ok (.aload_n 0, 1) := by decide +kernel
theorem d_L_task_1 : decode b_L_task 1 = .ok (.iload_n 1, 1) := by decide +kernel
theorem d_L_task_2 : decode b_L_task 2 = .ok (.iload_n 2, 1) := by decide +kernel
theorem d_L_task_3 : decode b_L_task 3 = .ok (.iload_n 3, 1) := by decide +kernel
theorem d_L_task_4 : decode b_L_task 4 = .ok (.iload 4, 2) := by decide +kernel
theorem d_L_task_6 : decode b_L_task 6 = .ok (.iload 5, 2) := by decide +kernel
theorem d_L_task_8 : decode b_L_task 8 = .ok (.invokevirtual 15, 3) := by decide +kernel
theorem d_L_task_11 : decode b_L_task 11 = .ok (.goto 7, 3) := by decide +kernel
theorem d_L_task_14 : decode b_L_task 14 = .ok (.astore 6, 2) := by decide +kernel
theorem d_L_task_16 : decode b_L_task 16 = .ok (.iconst 1, 1) := by decide +kernel
theorem d_L_task_17 : decode b_L_task 17 = .ok (.ireturn, 1) := by decide +kernel
theorem d_L_task_18 : decode b_L_task 18 = .ok (.iconst 0, 1) := by decide +kernel
theorem d_L_task_19 : decode b_L_task 19 = .ok (.ireturn, 1) := by decide +kernel
theorem d_L_remove_0 : decode b_L_remove 0 = .ok (.aload_n 0, 1) := by decide +kernel
theorem d_L_remove_1 : decode b_L_remove 1 = .ok (.iload_n 1, 1) := by decide +kernel
theorem d_L_remove_2 : decode b_L_remove 2 = .ok (.invokevirtual 19, 3) := by decide +kernel
theorem d_L_remove_5 : decode b_L_remove 5 = .ok (.goto 9, 3) := by decide +kernel
theorem d_L_remove_8 : decode b_L_remove 8 = .ok (.astore_n 2, 1) := by decide +kernel
theorem d_L_remove_9 : decode b_L_remove 9 = .ok (.iconst 1, 1) := by decide +kernel
theorem d_L_remove_10 : decode b_L_remove 10 = .ok (.ireturn, 1) := by decide +kernel
theorem d_L_remove_11 : decode b_L_remove 11 = .ok (.astore_n 2, 1) := by decide +kernel
theorem d_L_remove_12 : decode b_L_remove 12 = .ok (.iconst 2, 1) := by decide +kernel
theorem d_L_remove_13 : decode b_L_remove 13 = .ok (.ireturn, 1) := by decide +kernel
theorem d_L_remove_14 : decode b_L_remove 14 = .ok (.iconst 0, 1) := by decide +kernel
theorem d_L_remove_15 : decode b_L_remove 15 = .ok (.ireturn, 1) := by decide +kernel
theorem d_L_build_0 : decode b_L_build 0 = .ok (.aload_n 3, 1) := by decide +kernel
theorem d_L_build_1 : decode b_L_build 1 = .ok (.iconst 0, 1) := by decide +kernel
theorem d_L_build_2 : decode b_L_build 2 = .ok (.aload_n 0, 1) := by decide +kernel
theorem d_L_build_3 : decode b_L_build 3 = .ok (.iload_n 1, 1) := by decide +kernel
theorem d_L_build_4 : decode b_L_build 4 = .ok (.iload_n 2, 1) := by decide +kernel
theorem d_L_build_5 : decode b_L_build 5 = .ok (.invokevirtual 25, 3) := by decide +kernel
theorem d_L_build_8 : decode b_L_build 8 = .ok (.lastore, 1) := by decide +kernel
theorem d_L_build_9 : decode b_L_build 9 = .ok (.goto 19, 3) := by decide +kernel
theorem d_L_build_12 : decode b_L_build 12 = .ok (.astore 4, 2) := by decide +kernel
theorem d_L_build_14 : decode b_L_build 14 = .ok (.iconst 1, 1) := by decide +kernel
theorem d_L_build_15 : decode b_L_build 15 = .ok (.ireturn, 1) := by decide +kernel
theorem d_L_build_16 : decode b_L_build 16 = .ok (.astore 4, 2) := by decide +kernel
theorem d_L_build_18 : decode b_L_build 18 = .ok (.iconst 2, 1) := by decide +kernel
theorem d_L_build_19 : decode b_L_build 19 = .ok (.ireturn, 1) := by decide +kernel
theorem d_L_build_20 : decode b_L_build 20 = .ok (.astore 4, 2) := by decide +kernel
theorem d_L_build_22 : decode b_L_build 22 = .ok (.iconst 3, 1) := by decide +kernel
theorem d_L_build_23 : decode b_L_build 23 = .ok (.ireturn, 1) := by decide +kernel
theorem d_L_build_24 : decode b_L_build 24 = .ok (.astore 4, 2) := by decide +kernel
theorem d_L_build_26 : decode b_L_build 26 = .ok (.iconst 4, 1) := by decide +kernel
theorem d_L_build_27 : decode b_L_build 27 = .ok (.ireturn, 1) := by decide +kernel
theorem d_L_build_28 : decode b_L_build 28 = .ok (.iconst 0, 1) := by decide +kernel
theorem d_L_build_29 : decode b_L_build 29 = .ok (.ireturn, 1) := by decide +kernel
theorem d_L_forget_0 : decode b_L_forget 0 = .ok (.aload_n 2, 1) := by decide +kernel
theorem d_L_forget_1 : decode b_L_forget 1 = .ok (.iconst 0, 1) := by decide +kernel
theorem d_L_forget_2 : decode b_L_forget 2 = .ok (.aload_n 0, 1) := by decide +kernel
theorem d_L_forget_3 : decode b_L_forget 3 = .ok (.iload_n 1, 1) := by decide +kernel
theorem d_L_forget_4 : decode b_L_forget 4 = .ok (.invokevirtual 33, 3) := by decide +kernel
theorem d_L_forget_7 : decode b_L_forget 7 = .ok (.i2l, 1) := by decide +kernel
theorem d_L_forget_8 : decode b_L_forget 8 = .ok (.lastore, 1) := by decide +kernel
theorem d_L_forget_9 : decode b_L_forget 9 = .ok (.goto 6, 3) := by decide +kernel
theorem d_L_forget_12 : decode b_L_forget 12 = .ok (.astore_n 3, 1) := by decide +kernel
theorem d_L_forget_13 : decode b_L_forget 13 = .ok (.iconst 1, 1) := by decide +kernel
theorem d_L_forget_14 : decode b_L_forget 14 = .ok (.ireturn, 1) := by decide +kernel
theorem d_L_forget_15 : decode b_L_forget 15 = .ok (.iconst 0, 1) := by decide +kernel
theorem d_L_forget_16 : decode b_L_forget 16 = .ok (.ireturn, 1) := by decide +kernel
theorem d_L_shrink_0 : decode b_L_shrink 0 = .ok (.aload_n 2, 1) := by decide +kernel
theorem d_L_shrink_1 : decode b_L_shrink 1 = .ok (.iconst 0, 1) := by decide +kernel
theorem d_L_shrink_2 : decode b_L_shrink 2 = .ok (.aload_n 0, 1) := by decide +kernel
theorem d_L_shrink_3 : decode b_L_shrink 3 = .ok (.iload_n 1, 1) := by decide +kernel
theorem d_L_shrink_4 : decode b_L_shrink 4 = .ok (.invokevirtual 37, 3) := by decide +kernel
theorem d_L_shrink_7 : decode b_L_shrink 7 = .ok (.i2l, 1) := by decide +kernel
theorem d_L_shrink_8 : decode b_L_shrink 8 = .ok (.lastore, 1) := by decide +kernel
theorem d_L_shrink_9 : decode b_L_shrink 9 = .ok (.goto 6, 3) := by decide +kernel
theorem d_L_shrink_12 : decode b_L_shrink 12 = .ok (.astore_n 3, 1) := by decide +kernel
theorem d_L_shrink_13 : decode b_L_shrink 13 = .ok (.iconst 1, 1) := by decide +kernel
theorem d_L_shrink_14 : decode b_L_shrink 14 = .ok (.ireturn, 1) := by decide +kernel
theorem d_L_shrink_15 : decode b_L_shrink 15 = .ok (.iconst 0, 1) := by decide +kernel
theorem d_L_shrink_16 : decode b_L_shrink 16 = .ok (.ireturn, 1) := by decide +kernel
theorem d_L_trace_0 : decode b_L_trace 0 = .ok (.aload 4, 2) := by decide +kernel
theorem d_L_trace_2 : decode b_L_trace 2 = .ok (.iconst 0, 1) := by decide +kernel
theorem d_L_trace_3 : decode b_L_trace 3 = .ok (.aload_n 0, 1) := by decide +kernel
theorem d_L_trace_4 : decode b_L_trace 4 = .ok (.iload_n 1, 1) := by decide +kernel
theorem d_L_trace_5 : decode b_L_trace 5 = .ok (.iload_n 2, 1) := by decide +kernel
theorem d_L_trace_6 : decode b_L_trace 6 = .ok (.iload_n 3, 1) := by decide +kernel
theorem d_L_trace_7 : decode b_L_trace 7 = .ok (.invokevirtual 40, 3) := by decide +kernel
theorem d_L_trace_10 : decode b_L_trace 10 = .ok (.i2l, 1) := by decide +kernel
theorem d_L_trace_11 : decode b_L_trace 11 = .ok (.lastore, 1) := by decide +kernel
theorem d_L_trace_12 : decode b_L_trace 12 = .ok (.goto 11, 3) := by decide +kernel
theorem d_L_trace_15 : decode b_L_trace 15 = .ok (.astore 5, 2) := by decide +kernel
theorem d_L_trace_17 : decode b_L_trace 17 = .ok (.iconst 1, 1) := by decide +kernel
theorem d_L_trace_18 : decode b_L_trace 18 = .ok (.ireturn, 1) := by decide +kernel
theorem d_L_trace_19 : decode b_L_trace 19 = .ok (.astore 5, 2) := by decide +kernel
theorem d_L_trace_21 : decode b_L_trace 21 = .ok (.iconst 2, 1) := by decide +kernel
theorem d_L_trace_22 : decode b_L_trace 22 = .ok (.ireturn, 1) := by decide +kernel
theorem d_L_trace_23 : decode b_L_trace 23 = .ok (.iconst 0, 1) := by decide +kernel
theorem d_L_trace_24 : decode b_L_trace 24 = .ok (.ireturn, 1) := by decide +kernel
theorem d_L_traced_0 : decode b_L_traced 0 = .ok (.aload 4, 2) := by decide +kernel
theorem d_L_traced_2 : decode b_L_traced 2 = .ok (.iconst 0, 1) := by decide +kernel
theorem d_L_traced_3 : decode b_L_traced 3 = .ok (.aload_n 0, 1) := by decide +kernel
theorem d_L_traced_4 : decode b_L_traced 4 = .ok (.iload_n 1, 1) := by decide +kernel
theorem d_L_traced_5 : decode b_L_traced 5 = .ok (.iload_n 2, 1) := by decide +kernel
theorem d_L_traced_6 : decode b_L_traced 6 = .ok (.iload_n 3, 1) := by decide +kernel
theorem d_L_traced_7 : decode b_L_traced 7 = .ok (.invokevirtual 44, 3) := by decide +kernel
theorem d_L_traced_10 : decode b_L_traced 10 = .ok (.lastore, 1) := by decide +kernel
theorem d_L_traced_11 : decode b_L_traced 11 = .ok (.goto 11, 3) := by decide +kernel
theorem d_L_traced_14 : decode b_L_traced 14 = .ok (.astore 5, 2) := by decide +kernel
theorem d_L_traced_16 : decode b_L_traced 16 = .ok (.iconst 1, 1) := by decide +kernel
theorem d_L_traced_17 : decode b_L_traced 17 = .ok (.ireturn, 1) := by decide +kernel
theorem d_L_traced_18 : decode b_L_traced 18 = .ok (.astore 5, 2) := by decide +kernel
theorem d_L_traced_20 : decode b_L_traced 20 = .ok (.iconst 2, 1) := by decide +kernel
theorem d_L_traced_21 : decode b_L_traced 21 = .ok (.ireturn, 1) := by decide +kernel
theorem d_L_traced_22 : decode b_L_traced 22 = .ok (.iconst 0, 1) := by decide +kernel
theorem d_L_traced_23 : decode b_L_traced 23 = .ok (.ireturn, 1) := by decide +kernel
theorem d_L_stale_0 : decode b_L_stale 0 = .ok (.aload_n 3, 1) := by decide +kernel
theorem d_L_stale_1 : decode b_L_stale 1 = .ok (.iconst 0, 1) := by decide +kernel
theorem d_L_stale_2 : decode b_L_stale 2 = .ok (.aload_n 0, 1) := by decide +kernel
theorem d_L_stale_3 : decode b_L_stale 3 = .ok (.iload_n 1, 1) := by decide +kernel
theorem d_L_stale_4 : decode b_L_stale 4 = .ok (.iload_n 2, 1) := by decide +kernel
theorem d_L_stale_5 : decode b_L_stale 5 = .ok (.invokevirtual 48, 3) := by decide +kernel
theorem d_L_stale_8 : decode b_L_stale 8 = .ok (.ifCond .eq 7, 3) := by decide +kernel
theorem d_L_stale_11 : decode b_L_stale 11 = .ok (.lconst 1, 1) := by decide +kernel
theorem d_L_stale_12 : decode b_L_stale 12 = .ok (.goto 4, 3) := by decide +kernel
theorem d_L_stale_15 : decode b_L_stale 15 = .ok (.lconst 0, 1) := by decide +kernel
theorem d_L_stale_16 : decode b_L_stale 16 = .ok (.lastore, 1) := by decide +kernel
theorem d_L_stale_17 : decode b_L_stale 17 = .ok (.goto 19, 3) := by decide +kernel
theorem d_L_stale_20 : decode b_L_stale 20 = .ok (.astore 4, 2) := by decide +kernel
theorem d_L_stale_22 : decode b_L_stale 22 = .ok (.iconst 1, 1) := by decide +kernel
theorem d_L_stale_23 : decode b_L_stale 23 = .ok (.ireturn, 1) := by decide +kernel
theorem d_L_stale_24 : decode b_L_stale 24 = .ok (.astore 4, 2) := by decide +kernel
theorem d_L_stale_26 : decode b_L_stale 26 = .ok (.iconst 2, 1) := by decide +kernel
theorem d_L_stale_27 : decode b_L_stale 27 = .ok (.ireturn, 1) := by decide +kernel
theorem d_L_stale_28 : decode b_L_stale 28 = .ok (.astore 4, 2) := by decide +kernel
theorem d_L_stale_30 : decode b_L_stale 30 = .ok (.iconst 3, 1) := by decide +kernel
theorem d_L_stale_31 : decode b_L_stale 31 = .ok (.ireturn, 1) := by decide +kernel
theorem d_L_stale_32 : decode b_L_stale 32 = .ok (.astore 4, 2) := by decide +kernel
theorem d_L_stale_34 : decode b_L_stale 34 = .ok (.iconst 4, 1) := by decide +kernel
theorem d_L_stale_35 : decode b_L_stale 35 = .ok (.ireturn, 1) := by decide +kernel
theorem d_L_stale_36 : decode b_L_stale 36 = .ok (.iconst 0, 1) := by decide +kernel
theorem d_L_stale_37 : decode b_L_stale 37 = .ok (.ireturn, 1) := by decide +kernel
theorem d_L_cached_0 : decode b_L_cached 0 = .ok (.aload_n 2, 1) := by decide +kernel
theorem d_L_cached_1 : decode b_L_cached 1 = .ok (.iconst 0, 1) := by decide +kernel
theorem d_L_cached_2 : decode b_L_cached 2 = .ok (.aload_n 0, 1) := by decide +kernel
theorem d_L_cached_3 : decode b_L_cached 3 = .ok (.iload_n 1, 1) := by decide +kernel
theorem d_L_cached_4 : decode b_L_cached 4 = .ok (.invokevirtual 52, 3) := by decide +kernel
theorem d_L_cached_7 : decode b_L_cached 7 = .ok (.i2l, 1) := by decide +kernel
theorem d_L_cached_8 : decode b_L_cached 8 = .ok (.lastore, 1) := by decide +kernel
theorem d_L_cached_9 : decode b_L_cached 9 = .ok (.goto 6, 3) := by decide +kernel
theorem d_L_cached_12 : decode b_L_cached 12 = .ok (.astore_n 3, 1) := by decide +kernel
theorem d_L_cached_13 : decode b_L_cached 13 = .ok (.iconst 1, 1) := by decide +kernel
theorem d_L_cached_14 : decode b_L_cached 14 = .ok (.ireturn, 1) := by decide +kernel
theorem d_L_cached_15 : decode b_L_cached 15 = .ok (.iconst 0, 1) := by decide +kernel
theorem d_L_cached_16 : decode b_L_cached 16 = .ok (.ireturn, 1) := by decide +kernel
theorem d_L_law_0 : decode b_L_law 0 = .ok (.new 8, 3) := by decide +kernel
theorem d_L_law_3 : decode b_L_law 3 = .ok (.dup, 1) := by decide +kernel
theorem d_L_law_4 : decode b_L_law 4 = .ok (.invokespecial 55, 3) := by decide +kernel
theorem d_L_law_7 : decode b_L_law 7 = .ok (.astore_n 1, 1) := by decide +kernel
theorem d_L_law_8 : decode b_L_law 8 = .ok (.new 56, 3) := by decide +kernel
theorem d_L_law_11 : decode b_L_law 11 = .ok (.dup, 1) := by decide +kernel
theorem d_L_law_12 : decode b_L_law 12 = .ok (.invokespecial 58, 3) := by decide +kernel
theorem d_L_law_15 : decode b_L_law 15 = .ok (.astore_n 2, 1) := by decide +kernel
theorem d_L_law_16 : decode b_L_law 16 = .ok (.iconst 1, 1) := by decide +kernel
theorem d_L_law_17 : decode b_L_law 17 = .ok (.newarray .long, 2) := by decide +kernel
theorem d_L_law_19 : decode b_L_law 19 = .ok (.astore_n 3, 1) := by decide +kernel
theorem d_L_law_20 : decode b_L_law 20 = .ok (.iconst 0, 1) := by decide +kernel
theorem d_L_law_21 : decode b_L_law 21 = .ok (.istore 4, 2) := by decide +kernel
theorem d_L_law_23 : decode b_L_law 23 = .ok (.iload 4, 2) := by decide +kernel
theorem d_L_law_25 : decode b_L_law 25 = .ok (.aload_n 0, 1) := by decide +kernel
theorem d_L_law_26 : decode b_L_law 26 = .ok (.arraylength, 1) := by decide +kernel
theorem d_L_law_27 : decode b_L_law 27 = .ok (.bipush 6, 2) := by decide +kernel
theorem d_L_law_29 : decode b_L_law 29 = .ok (.isub, 1) := by decide +kernel
theorem d_L_law_30 : decode b_L_law 30 = .ok (.if_icmp .gt 770, 3) := by decide +kernel
theorem d_L_law_33 : decode b_L_law 33 = .ok (.aload_n 0, 1) := by decide +kernel
theorem d_L_law_34 : decode b_L_law 34 = .ok (.iload 4, 2) := by decide +kernel
theorem d_L_law_36 : decode b_L_law 36 = .ok (.iaload, 1) := by decide +kernel
theorem d_L_law_37 : decode b_L_law 37 = .ok (.bipush 15, 2) := by decide +kernel
theorem d_L_law_39 : decode b_L_law 39 = .ok (.iand, 1) := by decide +kernel
theorem d_L_law_40 : decode b_L_law 40 = .ok (.tableswitch 754 0 10 #[60, 140, 224, 260, 327, 383, 439, 519, 598, 673, 729], 60) := by decide +kernel
theorem d_L_law_100 : decode b_L_law 100 = .ok (.aload_n 1, 1) := by decide +kernel
theorem d_L_law_101 : decode b_L_law 101 = .ok (.aload_n 0, 1) := by decide +kernel
theorem d_L_law_102 : decode b_L_law 102 = .ok (.iload 4, 2) := by decide +kernel
theorem d_L_law_104 : decode b_L_law 104 = .ok (.iconst 1, 1) := by decide +kernel
theorem d_L_law_105 : decode b_L_law 105 = .ok (.iadd, 1) := by decide +kernel
theorem d_L_law_106 : decode b_L_law 106 = .ok (.iaload, 1) := by decide +kernel
theorem d_L_law_107 : decode b_L_law 107 = .ok (.aload_n 0, 1) := by decide +kernel
theorem d_L_law_108 : decode b_L_law 108 = .ok (.iload 4, 2) := by decide +kernel
theorem d_L_law_110 : decode b_L_law 110 = .ok (.iconst 2, 1) := by decide +kernel
theorem d_L_law_111 : decode b_L_law 111 = .ok (.iadd, 1) := by decide +kernel
theorem d_L_law_112 : decode b_L_law 112 = .ok (.iaload, 1) := by decide +kernel
theorem d_L_law_113 : decode b_L_law 113 = .ok (.i2l, 1) := by decide +kernel
theorem d_L_law_114 : decode b_L_law 114 = .ok (.bipush 32, 2) := by decide +kernel
theorem d_L_law_116 : decode b_L_law 116 = .ok (.lshl, 1) := by decide +kernel
theorem d_L_law_117 : decode b_L_law 117 = .ok (.aload_n 0, 1) := by decide +kernel
theorem d_L_law_118 : decode b_L_law 118 = .ok (.iload 4, 2) := by decide +kernel
theorem d_L_law_120 : decode b_L_law 120 = .ok (.iconst 3, 1) := by decide +kernel
theorem d_L_law_121 : decode b_L_law 121 = .ok (.iadd, 1) := by decide +kernel
theorem d_L_law_122 : decode b_L_law 122 = .ok (.iaload, 1) := by decide +kernel
theorem d_L_law_123 : decode b_L_law 123 = .ok (.i2l, 1) := by decide +kernel
theorem d_L_law_124 : decode b_L_law 124 = .ok (.ldc2_w 59, 3) := by decide +kernel
theorem d_L_law_127 : decode b_L_law 127 = .ok (.land, 1) := by decide +kernel
theorem d_L_law_128 : decode b_L_law 128 = .ok (.lor, 1) := by decide +kernel
theorem d_L_law_129 : decode b_L_law 129 = .ok (.invokestatic 61, 3) := by decide +kernel
