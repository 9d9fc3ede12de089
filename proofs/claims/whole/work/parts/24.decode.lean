theorem d_D_check_125 : decode b_D_check 125 = .ok (.iadd, 1) := by decide +kernel
theorem d_D_check_126 : decode b_D_check 126 = .ok (.laload, 1) := by decide +kernel
theorem d_D_check_127 : decode b_D_check 127 = .ok (.lcmp, 1) := by decide +kernel
theorem d_D_check_128 : decode b_D_check 128 = .ok (.ifCond .ne 16, 3) := by decide +kernel
theorem d_D_check_131 : decode b_D_check 131 = .ok (.aload_n 0, 1) := by decide +kernel
theorem d_D_check_132 : decode b_D_check 132 = .ok (.getfield 75, 3) := by decide +kernel
theorem d_D_check_135 : decode b_D_check 135 = .ok (.iload_n 1, 1) := by decide +kernel
theorem d_D_check_136 : decode b_D_check 136 = .ok (.dup2, 1) := by decide +kernel
theorem d_D_check_137 : decode b_D_check 137 = .ok (.iaload, 1) := by decide +kernel
theorem d_D_check_138 : decode b_D_check 138 = .ok (.iconst 1, 1) := by decide +kernel
theorem d_D_check_139 : decode b_D_check 139 = .ok (.iadd, 1) := by decide +kernel
theorem d_D_check_140 : decode b_D_check 140 = .ok (.iastore, 1) := by decide +kernel
theorem d_D_check_141 : decode b_D_check 141 = .ok (.goto 8, 3) := by decide +kernel
theorem d_D_check_144 : decode b_D_check 144 = .ok (.aload_n 0, 1) := by decide +kernel
theorem d_D_check_145 : decode b_D_check 145 = .ok (.iload_n 1, 1) := by decide +kernel
theorem d_D_check_146 : decode b_D_check 146 = .ok (.invokevirtual 135, 3) := by decide +kernel
theorem d_D_check_149 : decode b_D_check 149 = .ok (.return_, 1) := by decide +kernel
theorem d_D_modulo_0 : decode b_D_modulo 0 = .ok (.lload_n 0, 1) := by decide +kernel
theorem d_D_modulo_1 : decode b_D_modulo 1 = .ok (.iload_n 2, 1) := by decide +kernel
theorem d_D_modulo_2 : decode b_D_modulo 2 = .ok (.i2l, 1) := by decide +kernel
theorem d_D_modulo_3 : decode b_D_modulo 3 = .ok (.lrem, 1) := by decide +kernel
theorem d_D_modulo_4 : decode b_D_modulo 4 = .ok (.iload_n 2, 1) := by decide +kernel
theorem d_D_modulo_5 : decode b_D_modulo 5 = .ok (.i2l, 1) := by decide +kernel
theorem d_D_modulo_6 : decode b_D_modulo 6 = .ok (.ladd, 1) := by decide +kernel
theorem d_D_modulo_7 : decode b_D_modulo 7 = .ok (.iload_n 2, 1) := by decide +kernel
theorem d_D_modulo_8 : decode b_D_modulo 8 = .ok (.i2l, 1) := by decide +kernel
theorem d_D_modulo_9 : decode b_D_modulo 9 = .ok (.lrem, 1) := by decide +kernel
theorem d_D_modulo_10 : decode b_D_modulo 10 = .ok (.lreturn, 1) := by decide +kernel
theorem d_D_wanted_0 : decode b_D_wanted 0 = .ok (.aload_n 0, 1) := by decide +kernel
theorem d_D_wanted_1 : decode b_D_wanted 1 = .ok (.getfield 66, 3) := by decide +kernel
theorem d_D_wanted_4 : decode b_D_wanted 4 = .ok (.iload_n 1, 1) := by decide +kernel
theorem d_D_wanted_5 : decode b_D_wanted 5 = .ok (.iaload, 1) := by decide +kernel
theorem d_D_wanted_6 : decode b_D_wanted 6 = .ok (.istore_n 2, 1) := by decide +kernel
theorem d_D_wanted_7 : decode b_D_wanted 7 = .ok (.aload_n 0, 1) := by decide +kernel
theorem d_D_wanted_8 : decode b_D_wanted 8 = .ok (.getfield 13, 3) := by decide +kernel
theorem d_D_wanted_11 : decode b_D_wanted 11 = .ok (.iload_n 2, 1) := by decide +kernel
theorem d_D_wanted_12 : decode b_D_wanted 12 = .ok (.iaload, 1) := by decide +kernel
theorem d_D_wanted_13 : decode b_D_wanted 13 = .ok (.istore_n 3, 1) := by decide +kernel
theorem d_D_wanted_14 : decode b_D_wanted 14 = .ok (.aload_n 0, 1) := by decide +kernel
theorem d_D_wanted_15 : decode b_D_wanted 15 = .ok (.getfield 87, 3) := by decide +kernel
theorem d_D_wanted_18 : decode b_D_wanted 18 = .ok (.iload_n 1, 1) := by decide +kernel
theorem d_D_wanted_19 : decode b_D_wanted 19 = .ok (.iaload, 1) := by decide +kernel
theorem d_D_wanted_20 : decode b_D_wanted 20 = .ok (.istore 4, 2) := by decide +kernel
theorem d_D_wanted_22 : decode b_D_wanted 22 = .ok (.aload_n 0, 1) := by decide +kernel
theorem d_D_wanted_23 : decode b_D_wanted 23 = .ok (.getfield 16, 3) := by decide +kernel
theorem d_D_wanted_26 : decode b_D_wanted 26 = .ok (.iload_n 2, 1) := by decide +kernel
theorem d_D_wanted_27 : decode b_D_wanted 27 = .ok (.iconst 3, 1) := by decide +kernel
theorem d_D_wanted_28 : decode b_D_wanted 28 = .ok (.imul, 1) := by decide +kernel
theorem d_D_wanted_29 : decode b_D_wanted 29 = .ok (.iaload, 1) := by decide +kernel
theorem d_D_wanted_30 : decode b_D_wanted 30 = .ok (.istore 5, 2) := by decide +kernel
theorem d_D_wanted_32 : decode b_D_wanted 32 = .ok (.aload_n 0, 1) := by decide +kernel
theorem d_D_wanted_33 : decode b_D_wanted 33 = .ok (.getfield 16, 3) := by decide +kernel
theorem d_D_wanted_36 : decode b_D_wanted 36 = .ok (.iload_n 2, 1) := by decide +kernel
theorem d_D_wanted_37 : decode b_D_wanted 37 = .ok (.iconst 3, 1) := by decide +kernel
theorem d_D_wanted_38 : decode b_D_wanted 38 = .ok (.imul, 1) := by decide +kernel
theorem d_D_wanted_39 : decode b_D_wanted 39 = .ok (.iconst 1, 1) := by decide +kernel
theorem d_D_wanted_40 : decode b_D_wanted 40 = .ok (.iadd, 1) := by decide +kernel
theorem d_D_wanted_41 : decode b_D_wanted 41 = .ok (.iaload, 1) := by decide +kernel
theorem d_D_wanted_42 : decode b_D_wanted 42 = .ok (.istore 6, 2) := by decide +kernel
theorem d_D_wanted_44 : decode b_D_wanted 44 = .ok (.aload_n 0, 1) := by decide +kernel
theorem d_D_wanted_45 : decode b_D_wanted 45 = .ok (.getfield 16, 3) := by decide +kernel
theorem d_D_wanted_48 : decode b_D_wanted 48 = .ok (.iload_n 2, 1) := by decide +kernel
theorem d_D_wanted_49 : decode b_D_wanted 49 = .ok (.iconst 3, 1) := by decide +kernel
theorem d_D_wanted_50 : decode b_D_wanted 50 = .ok (.imul, 1) := by decide +kernel
theorem d_D_wanted_51 : decode b_D_wanted 51 = .ok (.iconst 2, 1) := by decide +kernel
theorem d_D_wanted_52 : decode b_D_wanted 52 = .ok (.iadd, 1) := by decide +kernel
theorem d_D_wanted_53 : decode b_D_wanted 53 = .ok (.iaload, 1) := by decide +kernel
theorem d_D_wanted_54 : decode b_D_wanted 54 = .ok (.istore 7, 2) := by decide +kernel
theorem d_D_wanted_56 : decode b_D_wanted 56 = .ok (.iload_n 3, 1) := by decide +kernel
theorem d_D_wanted_57 : decode b_D_wanted 57 = .ok (.iconst 2, 1) := by decide +kernel
theorem d_D_wanted_58 : decode b_D_wanted 58 = .ok (.if_icmp .lt 9, 3) := by decide +kernel
theorem d_D_wanted_61 : decode b_D_wanted 61 = .ok (.iload_n 3, 1) := by decide +kernel
theorem d_D_wanted_62 : decode b_D_wanted 62 = .ok (.bipush 6, 2) := by decide +kernel
theorem d_D_wanted_64 : decode b_D_wanted 64 = .ok (.if_icmp .ne 25, 3) := by decide +kernel
theorem d_D_wanted_67 : decode b_D_wanted 67 = .ok (.iload 4, 2) := by decide +kernel
theorem d_D_wanted_69 : decode b_D_wanted 69 = .ok (.iconst 3, 1) := by decide +kernel
theorem d_D_wanted_70 : decode b_D_wanted 70 = .ok (.if_icmp .ne 7, 3) := by decide +kernel
theorem d_D_wanted_73 : decode b_D_wanted 73 = .ok (.iconst (-1), 1) := by decide +kernel
theorem d_D_wanted_74 : decode b_D_wanted 74 = .ok (.goto 14, 3) := by decide +kernel
theorem d_D_wanted_77 : decode b_D_wanted 77 = .ok (.aload_n 0, 1) := by decide +kernel
theorem d_D_wanted_78 : decode b_D_wanted 78 = .ok (.getfield 16, 3) := by decide +kernel
theorem d_D_wanted_81 : decode b_D_wanted 81 = .ok (.iload_n 2, 1) := by decide +kernel
theorem d_D_wanted_82 : decode b_D_wanted 82 = .ok (.iconst 3, 1) := by decide +kernel
theorem d_D_wanted_83 : decode b_D_wanted 83 = .ok (.imul, 1) := by decide +kernel
theorem d_D_wanted_84 : decode b_D_wanted 84 = .ok (.iload 4, 2) := by decide +kernel
theorem d_D_wanted_86 : decode b_D_wanted 86 = .ok (.iadd, 1) := by decide +kernel
theorem d_D_wanted_87 : decode b_D_wanted 87 = .ok (.iaload, 1) := by decide +kernel
theorem d_D_wanted_88 : decode b_D_wanted 88 = .ok (.ireturn, 1) := by decide +kernel
theorem d_D_wanted_89 : decode b_D_wanted 89 = .ok (.iload 4, 2) := by decide +kernel
theorem d_D_wanted_91 : decode b_D_wanted 91 = .ok (.ifCond .ne 6, 3) := by decide +kernel
theorem d_D_wanted_94 : decode b_D_wanted 94 = .ok (.iload 5, 2) := by decide +kernel
theorem d_D_wanted_96 : decode b_D_wanted 96 = .ok (.ireturn, 1) := by decide +kernel
theorem d_D_wanted_97 : decode b_D_wanted 97 = .ok (.iload_n 3, 1) := by decide +kernel
theorem d_D_wanted_98 : decode b_D_wanted 98 = .ok (.iconst 2, 1) := by decide +kernel
theorem d_D_wanted_99 : decode b_D_wanted 99 = .ok (.if_icmp .ne 32, 3) := by decide +kernel
theorem d_D_wanted_102 : decode b_D_wanted 102 = .ok (.iload 4, 2) := by decide +kernel
theorem d_D_wanted_104 : decode b_D_wanted 104 = .ok (.iconst 2, 1) := by decide +kernel
theorem d_D_wanted_105 : decode b_D_wanted 105 = .ok (.if_icmp .ne 7, 3) := by decide +kernel
theorem d_D_wanted_108 : decode b_D_wanted 108 = .ok (.iconst (-1), 1) := by decide +kernel
theorem d_D_wanted_109 : decode b_D_wanted 109 = .ok (.goto 21, 3) := by decide +kernel
theorem d_D_wanted_112 : decode b_D_wanted 112 = .ok (.aload_n 0, 1) := by decide +kernel
theorem d_D_wanted_113 : decode b_D_wanted 113 = .ok (.getfield 90, 3) := by decide +kernel
theorem d_D_wanted_116 : decode b_D_wanted 116 = .ok (.iload_n 1, 1) := by decide +kernel
theorem d_D_wanted_117 : decode b_D_wanted 117 = .ok (.laload, 1) := by decide +kernel
theorem d_D_wanted_118 : decode b_D_wanted 118 = .ok (.lconst 0, 1) := by decide +kernel
theorem d_D_wanted_119 : decode b_D_wanted 119 = .ok (.lcmp, 1) := by decide +kernel
theorem d_D_wanted_120 : decode b_D_wanted 120 = .ok (.ifCond .le 8, 3) := by decide +kernel
theorem d_D_wanted_123 : decode b_D_wanted 123 = .ok (.iload 6, 2) := by decide +kernel
theorem d_D_wanted_125 : decode b_D_wanted 125 = .ok (.goto 5, 3) := by decide +kernel
theorem d_D_wanted_128 : decode b_D_wanted 128 = .ok (.iload 7, 2) := by decide +kernel
theorem d_D_wanted_130 : decode b_D_wanted 130 = .ok (.ireturn, 1) := by decide +kernel
theorem d_D_wanted_131 : decode b_D_wanted 131 = .ok (.iload_n 3, 1) := by decide +kernel
theorem d_D_wanted_132 : decode b_D_wanted 132 = .ok (.iconst 4, 1) := by decide +kernel
theorem d_D_wanted_133 : decode b_D_wanted 133 = .ok (.if_icmp .ne 26, 3) := by decide +kernel
theorem d_D_wanted_136 : decode b_D_wanted 136 = .ok (.iload 4, 2) := by decide +kernel
theorem d_D_wanted_138 : decode b_D_wanted 138 = .ok (.iconst 2, 1) := by decide +kernel
theorem d_D_wanted_139 : decode b_D_wanted 139 = .ok (.if_icmp .ne 7, 3) := by decide +kernel
theorem d_D_wanted_142 : decode b_D_wanted 142 = .ok (.iconst (-1), 1) := by decide +kernel
theorem d_D_wanted_143 : decode b_D_wanted 143 = .ok (.goto 15, 3) := by decide +kernel
theorem d_D_wanted_146 : decode b_D_wanted 146 = .ok (.aload_n 0, 1) := by decide +kernel
theorem d_D_wanted_147 : decode b_D_wanted 147 = .ok (.getfield 90, 3) := by decide +kernel
theorem d_D_wanted_150 : decode b_D_wanted 150 = .ok (.iload_n 1, 1) := by decide +kernel
theorem d_D_wanted_151 : decode b_D_wanted 151 = .ok (.laload, 1) := by decide +kernel
theorem d_D_wanted_152 : decode b_D_wanted 152 = .ok (.bipush 12, 2) := by decide +kernel
theorem d_D_wanted_154 : decode b_D_wanted 154 = .ok (.invokestatic 146, 3) := by decide +kernel
theorem d_D_wanted_157 : decode b_D_wanted 157 = .ok (.l2i, 1) := by decide +kernel
theorem d_D_wanted_158 : decode b_D_wanted 158 = .ok (.ireturn, 1) := by decide +kernel
theorem d_D_wanted_159 : decode b_D_wanted 159 = .ok (.iload_n 3, 1) := by decide +kernel
theorem d_D_wanted_160 : decode b_D_wanted 160 = .ok (.bipush 7, 2) := by decide +kernel
theorem d_D_wanted_162 : decode b_D_wanted 162 = .ok (.if_icmp .ne 27, 3) := by decide +kernel
theorem d_D_wanted_165 : decode b_D_wanted 165 = .ok (.iload 4, 2) := by decide +kernel
theorem d_D_wanted_167 : decode b_D_wanted 167 = .ok (.i2l, 1) := by decide +kernel
theorem d_D_wanted_168 : decode b_D_wanted 168 = .ok (.aload_n 0, 1) := by decide +kernel
theorem d_D_wanted_169 : decode b_D_wanted 169 = .ok (.getfield 90, 3) := by decide +kernel
theorem d_D_wanted_172 : decode b_D_wanted 172 = .ok (.iload_n 1, 1) := by decide +kernel
theorem d_D_wanted_173 : decode b_D_wanted 173 = .ok (.laload, 1) := by decide +kernel
theorem d_D_wanted_174 : decode b_D_wanted 174 = .ok (.iconst 4, 1) := by decide +kernel
theorem d_D_wanted_175 : decode b_D_wanted 175 = .ok (.invokestatic 146, 3) := by decide +kernel
theorem d_D_wanted_178 : decode b_D_wanted 178 = .ok (.lcmp, 1) := by decide +kernel
theorem d_D_wanted_179 : decode b_D_wanted 179 = .ok (.ifCond .le 7, 3) := by decide +kernel
theorem d_D_wanted_182 : decode b_D_wanted 182 = .ok (.iconst (-1), 1) := by decide +kernel
theorem d_D_wanted_183 : decode b_D_wanted 183 = .ok (.goto 5, 3) := by decide +kernel
theorem d_D_wanted_186 : decode b_D_wanted 186 = .ok (.iload 6, 2) := by decide +kernel
theorem d_D_wanted_188 : decode b_D_wanted 188 = .ok (.ireturn, 1) := by decide +kernel
theorem d_D_wanted_189 : decode b_D_wanted 189 = .ok (.iload_n 3, 1) := by decide +kernel
theorem d_D_wanted_190 : decode b_D_wanted 190 = .ok (.bipush 8, 2) := by decide +kernel
theorem d_D_wanted_192 : decode b_D_wanted 192 = .ok (.if_icmp .eq 9, 3) := by decide +kernel
theorem d_D_wanted_195 : decode b_D_wanted 195 = .ok (.iload 4, 2) := by decide +kernel
theorem d_D_wanted_197 : decode b_D_wanted 197 = .ok (.iconst 2, 1) := by decide +kernel
theorem d_D_wanted_198 : decode b_D_wanted 198 = .ok (.if_icmp .ne 7, 3) := by decide +kernel
theorem d_D_wanted_201 : decode b_D_wanted 201 = .ok (.iconst (-1), 1) := by decide +kernel
theorem d_D_wanted_202 : decode b_D_wanted 202 = .ok (.goto 5, 3) := by decide +kernel
theorem d_D_wanted_205 : decode b_D_wanted 205 = .ok (.iload 6, 2) := by decide +kernel
theorem d_D_wanted_207 : decode b_D_wanted 207 = .ok (.ireturn, 1) := by decide +kernel
theorem d_D_take_0 : decode b_D_take 0 = .ok (.aload_n 0, 1) := by decide +kernel
theorem d_D_take_1 : decode b_D_take 1 = .ok (.getfield 13, 3) := by decide +kernel
theorem d_D_take_4 : decode b_D_take 4 = .ok (.aload_n 0, 1) := by decide +kernel
theorem d_D_take_5 : decode b_D_take 5 = .ok (.getfield 66, 3) := by decide +kernel
theorem d_D_take_8 : decode b_D_take 8 = .ok (.iload_n 1, 1) := by decide +kernel
theorem d_D_take_9 : decode b_D_take 9 = .ok (.iaload, 1) := by decide +kernel
theorem d_D_take_10 : decode b_D_take 10 = .ok (.iaload, 1) := by decide +kernel
theorem d_D_take_11 : decode b_D_take 11 = .ok (.istore 4, 2) := by decide +kernel
theorem d_D_take_13 : decode b_D_take 13 = .ok (.aload_n 0, 1) := by decide +kernel
theorem d_D_take_14 : decode b_D_take 14 = .ok (.getfield 87, 3) := by decide +kernel
theorem d_D_take_17 : decode b_D_take 17 = .ok (.iload_n 1, 1) := by decide +kernel
theorem d_D_take_18 : decode b_D_take 18 = .ok (.iaload, 1) := by decide +kernel
theorem d_D_take_19 : decode b_D_take 19 = .ok (.ifCond .ne 10, 3) := by decide +kernel
theorem d_D_take_22 : decode b_D_take 22 = .ok (.aload_n 0, 1) := by decide +kernel
theorem d_D_take_23 : decode b_D_take 23 = .ok (.getfield 90, 3) := by decide +kernel
theorem d_D_take_26 : decode b_D_take 26 = .ok (.iload_n 1, 1) := by decide +kernel
theorem d_D_take_27 : decode b_D_take 27 = .ok (.lload_n 2, 1) := by decide +kernel
theorem d_D_take_28 : decode b_D_take 28 = .ok (.lastore, 1) := by decide +kernel
theorem d_D_take_29 : decode b_D_take 29 = .ok (.iload 4, 2) := by decide +kernel
theorem d_D_take_31 : decode b_D_take 31 = .ok (.ifCond .eq 10, 3) := by decide +kernel
theorem d_D_take_34 : decode b_D_take 34 = .ok (.iload 4, 2) := by decide +kernel
theorem d_D_take_36 : decode b_D_take 36 = .ok (.bipush 7, 2) := by decide +kernel
theorem d_D_take_38 : decode b_D_take 38 = .ok (.if_icmp .ne 16, 3) := by decide +kernel
theorem d_D_take_41 : decode b_D_take 41 = .ok (.aload_n 0, 1) := by decide +kernel
theorem d_D_take_42 : decode b_D_take 42 = .ok (.getfield 93, 3) := by decide +kernel
theorem d_D_take_45 : decode b_D_take 45 = .ok (.iload_n 1, 1) := by decide +kernel
theorem d_D_take_46 : decode b_D_take 46 = .ok (.dup2, 1) := by decide +kernel
theorem d_D_take_47 : decode b_D_take 47 = .ok (.laload, 1) := by decide +kernel
theorem d_D_take_48 : decode b_D_take 48 = .ok (.lload_n 2, 1) := by decide +kernel
theorem d_D_take_49 : decode b_D_take 49 = .ok (.ladd, 1) := by decide +kernel
theorem d_D_take_50 : decode b_D_take 50 = .ok (.lastore, 1) := by decide +kernel
theorem d_D_take_51 : decode b_D_take 51 = .ok (.goto 75, 3) := by decide +kernel
theorem d_D_take_54 : decode b_D_take 54 = .ok (.iload 4, 2) := by decide +kernel
theorem d_D_take_56 : decode b_D_take 56 = .ok (.iconst 1, 1) := by decide +kernel
theorem d_D_take_57 : decode b_D_take 57 = .ok (.if_icmp .ne 16, 3) := by decide +kernel
theorem d_D_take_60 : decode b_D_take 60 = .ok (.aload_n 0, 1) := by decide +kernel
theorem d_D_take_61 : decode b_D_take 61 = .ok (.getfield 93, 3) := by decide +kernel
theorem d_D_take_64 : decode b_D_take 64 = .ok (.iload_n 1, 1) := by decide +kernel
theorem d_D_take_65 : decode b_D_take 65 = .ok (.dup2, 1) := by decide +kernel
theorem d_D_take_66 : decode b_D_take 66 = .ok (.laload, 1) := by decide +kernel
theorem d_D_take_67 : decode b_D_take 67 = .ok (.lload_n 2, 1) := by decide +kernel
theorem d_D_take_68 : decode b_D_take 68 = .ok (.lmul, 1) := by decide +kernel
theorem d_D_take_69 : decode b_D_take 69 = .ok (.lastore, 1) := by decide +kernel
theorem d_D_take_70 : decode b_D_take 70 = .ok (.goto 56, 3) := by decide +kernel
theorem d_D_take_73 : decode b_D_take 73 = .ok (.iload 4, 2) := by decide +kernel
theorem d_D_take_75 : decode b_D_take 75 = .ok (.bipush 6, 2) := by decide +kernel
theorem d_D_take_77 : decode b_D_take 77 = .ok (.if_icmp .ne 42, 3) := by decide +kernel
theorem d_D_take_80 : decode b_D_take 80 = .ok (.aload_n 0, 1) := by decide +kernel
theorem d_D_take_81 : decode b_D_take 81 = .ok (.getfield 93, 3) := by decide +kernel
theorem d_D_take_84 : decode b_D_take 84 = .ok (.iload_n 1, 1) := by decide +kernel
theorem d_D_take_85 : decode b_D_take 85 = .ok (.aload_n 0, 1) := by decide +kernel
theorem d_D_take_86 : decode b_D_take 86 = .ok (.getfield 87, 3) := by decide +kernel
theorem d_D_take_89 : decode b_D_take 89 = .ok (.iload_n 1, 1) := by decide +kernel
theorem d_D_take_90 : decode b_D_take 90 = .ok (.iaload, 1) := by decide +kernel
theorem d_D_take_91 : decode b_D_take 91 = .ok (.ifCond .eq 14, 3) := by decide +kernel
theorem d_D_take_94 : decode b_D_take 94 = .ok (.lload_n 2, 1) := by decide +kernel
theorem d_D_take_95 : decode b_D_take 95 = .ok (.aload_n 0, 1) := by decide +kernel
theorem d_D_take_96 : decode b_D_take 96 = .ok (.getfield 93, 3) := by decide +kernel
theorem d_D_take_99 : decode b_D_take 99 = .ok (.iload_n 1, 1) := by decide +kernel
theorem d_D_take_100 : decode b_D_take 100 = .ok (.laload, 1) := by decide +kernel
theorem d_D_take_101 : decode b_D_take 101 = .ok (.lcmp, 1) := by decide +kernel
theorem d_D_take_102 : decode b_D_take 102 = .ok (.ifCond .le 7, 3) := by decide +kernel
theorem d_D_take_105 : decode b_D_take 105 = .ok (.lload_n 2, 1) := by decide +kernel
theorem d_D_take_106 : decode b_D_take 106 = .ok (.goto 9, 3) := by decide +kernel
theorem d_D_take_109 : decode b_D_take 109 = .ok (.aload_n 0, 1) := by decide +kernel
theorem d_D_take_110 : decode b_D_take 110 = .ok (.getfield 93, 3) := by decide +kernel
theorem d_D_take_113 : decode b_D_take 113 = .ok (.iload_n 1, 1) := by decide +kernel
theorem d_D_take_114 : decode b_D_take 114 = .ok (.laload, 1) := by decide +kernel
theorem d_D_take_115 : decode b_D_take 115 = .ok (.lastore, 1) := by decide +kernel
theorem d_D_take_116 : decode b_D_take 116 = .ok (.goto 10, 3) := by decide +kernel
theorem d_D_take_119 : decode b_D_take 119 = .ok (.aload_n 0, 1) := by decide +kernel
theorem d_D_take_120 : decode b_D_take 120 = .ok (.getfield 93, 3) := by decide +kernel
theorem d_D_take_123 : decode b_D_take 123 = .ok (.iload_n 1, 1) := by decide +kernel
theorem d_D_take_124 : decode b_D_take 124 = .ok (.lload_n 2, 1) := by decide +kernel
theorem d_D_take_125 : decode b_D_take 125 = .ok (.lastore, 1) := by decide +kernel
theorem d_D_take_126 : decode b_D_take 126 = .ok (.aload_n 0, 1) := by decide +kernel
theorem d_D_take_127 : decode b_D_take 127 = .ok (.getfield 87, 3) := by decide +kernel
theorem d_D_take_130 : decode b_D_take 130 = .ok (.iload_n 1, 1) := by decide +kernel
theorem d_D_take_131 : decode b_D_take 131 = .ok (.dup2, 1) := by decide +kernel
theorem d_D_take_132 : decode b_D_take 132 = .ok (.iaload, 1) := by decide +kernel
theorem d_D_take_133 : decode b_D_take 133 = .ok (.iconst 1, 1) := by decide +kernel
theorem d_D_take_134 : decode b_D_take 134 = .ok (.iadd, 1) := by decide +kernel
theorem d_D_take_135 : decode b_D_take 135 = .ok (.iastore, 1) := by decide +kernel
theorem d_D_take_136 : decode b_D_take 136 = .ok (.return_, 1) := by decide +kernel
theorem d_D_end_0 : decode b_D_end 0 = .ok (.aload_n 0, 1) := by decide +kernel
theorem d_D_end_1 : decode b_D_end 1 = .ok (.getfield 66, 3) := by decide +kernel
theorem d_D_end_4 : decode b_D_end 4 = .ok (.iload_n 1, 1) := by decide +kernel
theorem d_D_end_5 : decode b_D_end 5 = .ok (.iaload, 1) := by decide +kernel
theorem d_D_end_6 : decode b_D_end 6 = .ok (.istore_n 2, 1) := by decide +kernel
theorem d_D_end_7 : decode b_D_end 7 = .ok (.aload_n 0, 1) := by decide +kernel
theorem d_D_end_8 : decode b_D_end 8 = .ok (.getfield 13, 3) := by decide +kernel
theorem d_D_end_11 : decode b_D_end 11 = .ok (.iload_n 2, 1) := by decide +kernel
theorem d_D_end_12 : decode b_D_end 12 = .ok (.iaload, 1) := by decide +kernel
theorem d_D_end_13 : decode b_D_end 13 = .ok (.istore_n 3, 1) := by decide +kernel
theorem d_D_end_14 : decode b_D_end 14 = .ok (.aload_n 0, 1) := by decide +kernel
theorem d_D_end_15 : decode b_D_end 15 = .ok (.getfield 84, 3) := by decide +kernel
theorem d_D_end_18 : decode b_D_end 18 = .ok (.iload_n 1, 1) := by decide +kernel
theorem d_D_end_19 : decode b_D_end 19 = .ok (.iaload, 1) := by decide +kernel
theorem d_D_end_20 : decode b_D_end 20 = .ok (.istore 4, 2) := by decide +kernel
theorem d_D_end_22 : decode b_D_end 22 = .ok (.aload_n 0, 1) := by decide +kernel
theorem d_D_end_23 : decode b_D_end 23 = .ok (.getfield 93, 3) := by decide +kernel
theorem d_D_end_26 : decode b_D_end 26 = .ok (.iload_n 1, 1) := by decide +kernel
theorem d_D_end_27 : decode b_D_end 27 = .ok (.laload, 1) := by decide +kernel
theorem d_D_end_28 : decode b_D_end 28 = .ok (.lstore 5, 2) := by decide +kernel
theorem d_D_end_30 : decode b_D_end 30 = .ok (.iload_n 3, 1) := by decide +kernel
theorem d_D_end_31 : decode b_D_end 31 = .ok (.bipush 6, 2) := by decide +kernel
theorem d_D_end_33 : decode b_D_end 33 = .ok (.if_icmp .ne 17, 3) := by decide +kernel
theorem d_D_end_36 : decode b_D_end 36 = .ok (.aload_n 0, 1) := by decide +kernel
theorem d_D_end_37 : decode b_D_end 37 = .ok (.getfield 87, 3) := by decide +kernel
theorem d_D_end_40 : decode b_D_end 40 = .ok (.iload_n 1, 1) := by decide +kernel
theorem d_D_end_41 : decode b_D_end 41 = .ok (.iaload, 1) := by decide +kernel
theorem d_D_end_42 : decode b_D_end 42 = .ok (.ifCond .ne 8, 3) := by decide +kernel
theorem d_D_end_45 : decode b_D_end 45 = .ok (.aload_n 0, 1) := by decide +kernel
theorem d_D_end_46 : decode b_D_end 46 = .ok (.iconst 2, 1) := by decide +kernel
theorem d_D_end_47 : decode b_D_end 47 = .ok (.putfield 96, 3) := by decide +kernel
theorem d_D_end_50 : decode b_D_end 50 = .ok (.iload_n 3, 1) := by decide +kernel
theorem d_D_end_51 : decode b_D_end 51 = .ok (.iconst 3, 1) := by decide +kernel
theorem d_D_end_52 : decode b_D_end 52 = .ok (.if_icmp .eq 8, 3) := by decide +kernel
theorem d_D_end_55 : decode b_D_end 55 = .ok (.iload_n 3, 1) := by decide +kernel
theorem d_D_end_56 : decode b_D_end 56 = .ok (.iconst 5, 1) := by decide +kernel
theorem d_D_end_57 : decode b_D_end 57 = .ok (.if_icmp .ne 15, 3) := by decide +kernel
theorem d_D_end_60 : decode b_D_end 60 = .ok (.lload 5, 2) := by decide +kernel
theorem d_D_end_62 : decode b_D_end 62 = .ok (.lconst 0, 1) := by decide +kernel
theorem d_D_end_63 : decode b_D_end 63 = .ok (.lcmp, 1) := by decide +kernel
theorem d_D_end_64 : decode b_D_end 64 = .ok (.ifCond .ne 8, 3) := by decide +kernel
theorem d_D_end_67 : decode b_D_end 67 = .ok (.aload_n 0, 1) := by decide +kernel
theorem d_D_end_68 : decode b_D_end 68 = .ok (.iconst 3, 1) := by decide +kernel
theorem d_D_end_69 : decode b_D_end 69 = .ok (.putfield 96, 3) := by decide +kernel
theorem d_D_end_72 : decode b_D_end 72 = .ok (.iload_n 3, 1) := by decide +kernel
theorem d_D_end_73 : decode b_D_end 73 = .ok (.bipush 9, 2) := by decide +kernel
theorem d_D_end_75 : decode b_D_end 75 = .ok (.if_icmp .ne 20, 3) := by decide +kernel
theorem d_D_end_78 : decode b_D_end 78 = .ok (.aload_n 0, 1) := by decide +kernel
theorem d_D_end_79 : decode b_D_end 79 = .ok (.getfield 90, 3) := by decide +kernel
theorem d_D_end_82 : decode b_D_end 82 = .ok (.iload_n 1, 1) := by decide +kernel
theorem d_D_end_83 : decode b_D_end 83 = .ok (.laload, 1) := by decide +kernel
theorem d_D_end_84 : decode b_D_end 84 = .ok (.lload 5, 2) := by decide +kernel
theorem d_D_end_86 : decode b_D_end 86 = .ok (.lcmp, 1) := by decide +kernel
theorem d_D_end_87 : decode b_D_end 87 = .ok (.ifCond .le 8, 3) := by decide +kernel
theorem d_D_end_90 : decode b_D_end 90 = .ok (.aload_n 0, 1) := by decide +kernel
theorem d_D_end_91 : decode b_D_end 91 = .ok (.iconst 4, 1) := by decide +kernel
theorem d_D_end_92 : decode b_D_end 92 = .ok (.putfield 96, 3) := by decide +kernel
theorem d_D_end_95 : decode b_D_end 95 = .ok (.aload_n 0, 1) := by decide +kernel
theorem d_D_end_96 : decode b_D_end 96 = .ok (.getfield 96, 3) := by decide +kernel
theorem d_D_end_99 : decode b_D_end 99 = .ok (.ifCond .le 4, 3) := by decide +kernel
theorem d_D_end_102 : decode b_D_end 102 = .ok (.return_, 1) := by decide +kernel
theorem d_D_end_103 : decode b_D_end 103 = .ok (.iload_n 3, 1) := by decide +kernel
theorem d_D_end_104 : decode b_D_end 104 = .ok (.iconst 3, 1) := by decide +kernel
theorem d_D_end_105 : decode b_D_end 105 = .ok (.if_icmp .ne 14, 3) := by decide +kernel
theorem d_D_end_108 : decode b_D_end 108 = .ok (.aload_n 0, 1) := by decide +kernel
theorem d_D_end_109 : decode b_D_end 109 = .ok (.getfield 90, 3) := by decide +kernel
theorem d_D_end_112 : decode b_D_end 112 = .ok (.iload_n 1, 1) := by decide +kernel
theorem d_D_end_113 : decode b_D_end 113 = .ok (.laload, 1) := by decide +kernel
theorem d_D_end_114 : decode b_D_end 114 = .ok (.lload 5, 2) := by decide +kernel
theorem d_D_end_116 : decode b_D_end 116 = .ok (.ldiv, 1) := by decide +kernel
theorem d_D_end_117 : decode b_D_end 117 = .ok (.lstore 5, 2) := by decide +kernel
theorem d_D_end_119 : decode b_D_end 119 = .ok (.iload_n 3, 1) := by decide +kernel
theorem d_D_end_120 : decode b_D_end 120 = .ok (.iconst 5, 1) := by decide +kernel
theorem d_D_end_121 : decode b_D_end 121 = .ok (.if_icmp .ne 14, 3) := by decide +kernel
theorem d_D_end_124 : decode b_D_end 124 = .ok (.aload_n 0, 1) := by decide +kernel
theorem d_D_end_125 : decode b_D_end 125 = .ok (.getfield 90, 3) := by decide +kernel
theorem d_D_end_128 : decode b_D_end 128 = .ok (.iload_n 1, 1) := by decide +kernel
theorem d_D_end_129 : decode b_D_end 129 = .ok (.laload, 1) := by decide +kernel
theorem d_D_end_130 : decode b_D_end 130 = .ok (.lload 5, 2) := by decide +kernel
theorem d_D_end_132 : decode b_D_end 132 = .ok (.lrem, 1) := by decide +kernel
theorem d_D_end_133 : decode b_D_end 133 = .ok (.lstore 5, 2) := by decide +kernel
theorem d_D_end_135 : decode b_D_end 135 = .ok (.iload_n 3, 1) := by decide +kernel
theorem d_D_end_136 : decode b_D_end 136 = .ok (.bipush 8, 2) := by decide +kernel
theorem d_D_end_138 : decode b_D_end 138 = .ok (.if_icmp .ne 8, 3) := by decide +kernel
theorem d_D_end_141 : decode b_D_end 141 = .ok (.ldc2_w 150, 3) := by decide +kernel
theorem d_D_end_144 : decode b_D_end 144 = .ok (.lstore 5, 2) := by decide +kernel
theorem d_D_end_146 : decode b_D_end 146 = .ok (.iload_n 3, 1) := by decide +kernel
theorem d_D_end_147 : decode b_D_end 147 = .ok (.bipush 9, 2) := by decide +kernel
theorem d_D_end_149 : decode b_D_end 149 = .ok (.if_icmp .ne 11, 3) := by decide +kernel
theorem d_D_end_152 : decode b_D_end 152 = .ok (.aload_n 0, 1) := by decide +kernel
theorem d_D_end_153 : decode b_D_end 153 = .ok (.getfield 90, 3) := by decide +kernel
theorem d_D_end_156 : decode b_D_end 156 = .ok (.iload_n 1, 1) := by decide +kernel
theorem d_D_end_157 : decode b_D_end 157 = .ok (.laload, 1) := by decide +kernel
theorem d_D_end_158 : decode b_D_end 158 = .ok (.lstore 5, 2) := by decide +kernel
theorem d_D_end_160 : decode b_D_end 160 = .ok (.aload_n 0, 1) := by decide +kernel
theorem d_D_end_161 : decode b_D_end 161 = .ok (.getfield 35, 3) := by decide +kernel
theorem d_D_end_164 : decode b_D_end 164 = .ok (.iload 4, 2) := by decide +kernel
theorem d_D_end_166 : decode b_D_end 166 = .ok (.lload 5, 2) := by decide +kernel
theorem d_D_end_168 : decode b_D_end 168 = .ok (.lastore, 1) := by decide +kernel
theorem d_D_end_169 : decode b_D_end 169 = .ok (.aload_n 0, 1) := by decide +kernel
theorem d_D_end_170 : decode b_D_end 170 = .ok (.getfield 42, 3) := by decide +kernel
theorem d_D_end_173 : decode b_D_end 173 = .ok (.aload_n 0, 1) := by decide +kernel
theorem d_D_end_174 : decode b_D_end 174 = .ok (.getfield 124, 3) := by decide +kernel
theorem d_D_end_177 : decode b_D_end 177 = .ok (.bipush 12, 2) := by decide +kernel
theorem d_D_end_179 : decode b_D_end 179 = .ok (.imul, 1) := by decide +kernel
theorem d_D_end_180 : decode b_D_end 180 = .ok (.iload_n 2, 1) := by decide +kernel
theorem d_D_end_181 : decode b_D_end 181 = .ok (.iadd, 1) := by decide +kernel
theorem d_D_end_182 : decode b_D_end 182 = .ok (.iload 4, 2) := by decide +kernel
theorem d_D_end_184 : decode b_D_end 184 = .ok (.iastore, 1) := by decide +kernel
theorem d_D_end_185 : decode b_D_end 185 = .ok (.aload_n 0, 1) := by decide +kernel
theorem d_D_end_186 : decode b_D_end 186 = .ok (.getfield 48, 3) := by decide +kernel
theorem d_D_end_189 : decode b_D_end 189 = .ok (.aload_n 0, 1) := by decide +kernel
theorem d_D_end_190 : decode b_D_end 190 = .ok (.getfield 100, 3) := by decide +kernel
theorem d_D_end_193 : decode b_D_end 193 = .ok (.iload 4, 2) := by decide +kernel
theorem d_D_end_195 : decode b_D_end 195 = .ok (.iastore, 1) := by decide +kernel
theorem d_D_end_196 : decode b_D_end 196 = .ok (.aload_n 0, 1) := by decide +kernel
theorem d_D_end_197 : decode b_D_end 197 = .ok (.dup, 1) := by decide +kernel
theorem d_D_end_198 : decode b_D_end 198 = .ok (.getfield 100, 3) := by decide +kernel
theorem d_D_end_201 : decode b_D_end 201 = .ok (.iconst 1, 1) := by decide +kernel
theorem d_D_end_202 : decode b_D_end 202 = .ok (.iadd, 1) := by decide +kernel
theorem d_D_end_203 : decode b_D_end 203 = .ok (.putfield 100, 3) := by decide +kernel
theorem d_D_end_206 : decode b_D_end 206 = .ok (.aload_n 0, 1) := by decide +kernel
theorem d_D_end_207 : decode b_D_end 207 = .ok (.getfield 100, 3) := by decide +kernel
theorem d_D_end_210 : decode b_D_end 210 = .ok (.bipush 16, 2) := by decide +kernel
theorem d_D_end_212 : decode b_D_end 212 = .ok (.if_icmp .le 10, 3) := by decide +kernel
theorem d_D_end_215 : decode b_D_end 215 = .ok (.aload_n 0, 1) := by decide +kernel
theorem d_D_end_216 : decode b_D_end 216 = .ok (.bipush 16, 2) := by decide +kernel
theorem d_D_end_218 : decode b_D_end 218 = .ok (.invokevirtual 152, 3) := by decide +kernel
theorem d_D_end_221 : decode b_D_end 221 = .ok (.pop, 1) := by decide +kernel
theorem d_D_end_222 : decode b_D_end 222 = .ok (.aload_n 0, 1) := by decide +kernel
theorem d_D_end_223 : decode b_D_end 223 = .ok (.getfield 54, 3) := by decide +kernel
theorem d_D_end_226 : decode b_D_end 226 = .ok (.iconst 3, 1) := by decide +kernel
theorem d_D_end_227 : decode b_D_end 227 = .ok (.dup2, 1) := by decide +kernel
theorem d_D_end_228 : decode b_D_end 228 = .ok (.iaload, 1) := by decide +kernel
theorem d_D_end_229 : decode b_D_end 229 = .ok (.iconst 1, 1) := by decide +kernel
theorem d_D_end_230 : decode b_D_end 230 = .ok (.iadd, 1) := by decide +kernel
theorem d_D_end_231 : decode b_D_end 231 = .ok (.iastore, 1) := by decide +kernel
theorem d_D_end_232 : decode b_D_end 232 = .ok (.aload_n 0, 1) := by decide +kernel
theorem d_D_end_233 : decode b_D_end 233 = .ok (.iload_n 1, 1) := by decide +kernel
theorem d_D_end_234 : decode b_D_end 234 = .ok (.lload 5, 2) := by decide +kernel
theorem d_D_end_236 : decode b_D_end 236 = .ok (.invokevirtual 138, 3) := by decide +kernel
theorem d_D_end_239 : decode b_D_end 239 = .ok (.return_, 1) := by decide +kernel
theorem d_D_goOn_0 : decode b_D_goOn 0 = .ok (.aload_n 0, 1) := by decide +kernel
theorem d_D_goOn_1 : decode b_D_goOn 1 = .ok (.iload_n 1, 1) := by decide +kernel
theorem d_D_goOn_2 : decode b_D_goOn 2 = .ok (.invokevirtual 156, 3) := by decide +kernel
theorem d_D_goOn_5 : decode b_D_goOn 5 = .ok (.istore_n 2, 1) := by decide +kernel
theorem d_D_goOn_6 : decode b_D_goOn 6 = .ok (.iload_n 2, 1) := by decide +kernel
theorem d_D_goOn_7 : decode b_D_goOn 7 = .ok (.ifCond .ge 9, 3) := by decide +kernel
theorem d_D_goOn_10 : decode b_D_goOn 10 = .ok (.aload_n 0, 1) := by decide +kernel
theorem d_D_goOn_11 : decode b_D_goOn 11 = .ok (.iload_n 1, 1) := by decide +kernel
theorem d_D_goOn_12 : decode b_D_goOn 12 = .ok (.invokevirtual 159, 3) := by decide +kernel
theorem d_D_goOn_15 : decode b_D_goOn 15 = .ok (.return_, 1) := by decide +kernel
theorem d_D_goOn_16 : decode b_D_goOn 16 = .ok (.aload_n 0, 1) := by decide +kernel
theorem d_D_goOn_17 : decode b_D_goOn 17 = .ok (.getfield 75, 3) := by decide +kernel
theorem d_D_goOn_20 : decode b_D_goOn 20 = .ok (.iload_n 1, 1) := by decide +kernel
theorem d_D_goOn_21 : decode b_D_goOn 21 = .ok (.iaload, 1) := by decide +kernel
theorem d_D_goOn_22 : decode b_D_goOn 22 = .ok (.ifCond .ne 13, 3) := by decide +kernel
theorem d_D_goOn_25 : decode b_D_goOn 25 = .ok (.aload_n 0, 1) := by decide +kernel
theorem d_D_goOn_26 : decode b_D_goOn 26 = .ok (.getfield 54, 3) := by decide +kernel
theorem d_D_goOn_29 : decode b_D_goOn 29 = .ok (.iconst 0, 1) := by decide +kernel
theorem d_D_goOn_30 : decode b_D_goOn 30 = .ok (.dup2, 1) := by decide +kernel
theorem d_D_goOn_31 : decode b_D_goOn 31 = .ok (.iaload, 1) := by decide +kernel
theorem d_D_goOn_32 : decode b_D_goOn 32 = .ok (.iconst 1, 1) := by decide +kernel
theorem d_D_goOn_33 : decode b_D_goOn 33 = .ok (.iadd, 1) := by decide +kernel
theorem d_D_goOn_34 : decode b_D_goOn 34 = .ok (.iastore, 1) := by decide +kernel
theorem d_D_goOn_35 : decode b_D_goOn 35 = .ok (.aload_n 0, 1) := by decide +kernel
theorem d_D_goOn_36 : decode b_D_goOn 36 = .ok (.getfield 75, 3) := by decide +kernel
theorem d_D_goOn_39 : decode b_D_goOn 39 = .ok (.iload_n 1, 1) := by decide +kernel
theorem d_D_goOn_40 : decode b_D_goOn 40 = .ok (.iconst 1, 1) := by decide +kernel
theorem d_D_goOn_41 : decode b_D_goOn 41 = .ok (.iastore, 1) := by decide +kernel
theorem d_D_goOn_42 : decode b_D_goOn 42 = .ok (.aload_n 0, 1) := by decide +kernel
theorem d_D_goOn_43 : decode b_D_goOn 43 = .ok (.iload_n 2, 1) := by decide +kernel
theorem d_D_goOn_44 : decode b_D_goOn 44 = .ok (.invokevirtual 142, 3) := by decide +kernel
theorem d_D_goOn_47 : decode b_D_goOn 47 = .ok (.ifCond .ne 4, 3) := by decide +kernel
theorem d_D_goOn_50 : decode b_D_goOn 50 = .ok (.return_, 1) := by decide +kernel
theorem d_D_goOn_51 : decode b_D_goOn 51 = .ok (.aload_n 0, 1) := by decide +kernel
theorem d_D_goOn_52 : decode b_D_goOn 52 = .ok (.getfield 75, 3) := by decide +kernel
theorem d_D_goOn_55 : decode b_D_goOn 55 = .ok (.iload_n 1, 1) := by decide +kernel
theorem d_D_goOn_56 : decode b_D_goOn 56 = .ok (.iconst 0, 1) := by decide +kernel
theorem d_D_goOn_57 : decode b_D_goOn 57 = .ok (.iastore, 1) := by decide +kernel
theorem d_D_goOn_58 : decode b_D_goOn 58 = .ok (.aload_n 0, 1) := by decide +kernel
theorem d_D_goOn_59 : decode b_D_goOn 59 = .ok (.getfield 84, 3) := by decide +kernel
theorem d_D_goOn_62 : decode b_D_goOn 62 = .ok (.iload_n 1, 1) := by decide +kernel
theorem d_D_goOn_63 : decode b_D_goOn 63 = .ok (.iaload, 1) := by decide +kernel
theorem d_D_goOn_64 : decode b_D_goOn 64 = .ok (.istore_n 3, 1) := by decide +kernel
theorem d_D_goOn_65 : decode b_D_goOn 65 = .ok (.iconst 0, 1) := by decide +kernel
theorem d_D_goOn_66 : decode b_D_goOn 66 = .ok (.istore 4, 2) := by decide +kernel
theorem d_D_goOn_68 : decode b_D_goOn 68 = .ok (.iconst 0, 1) := by decide +kernel
theorem d_D_goOn_69 : decode b_D_goOn 69 = .ok (.istore 5, 2) := by decide +kernel
theorem d_D_goOn_71 : decode b_D_goOn 71 = .ok (.iload 5, 2) := by decide +kernel
theorem d_D_goOn_73 : decode b_D_goOn 73 = .ok (.aload_n 0, 1) := by decide +kernel
theorem d_D_goOn_74 : decode b_D_goOn 74 = .ok (.getfield 23, 3) := by decide +kernel
theorem d_D_goOn_77 : decode b_D_goOn 77 = .ok (.iload_n 3, 1) := by decide +kernel
theorem d_D_goOn_78 : decode b_D_goOn 78 = .ok (.iaload, 1) := by decide +kernel
theorem d_D_goOn_79 : decode b_D_goOn 79 = .ok (.if_icmp .ge 28, 3) := by decide +kernel
theorem d_D_goOn_82 : decode b_D_goOn 82 = .ok (.aload_n 0, 1) := by decide +kernel
theorem d_D_goOn_83 : decode b_D_goOn 83 = .ok (.getfield 26, 3) := by decide +kernel
theorem d_D_goOn_86 : decode b_D_goOn 86 = .ok (.iload_n 3, 1) := by decide +kernel
theorem d_D_goOn_87 : decode b_D_goOn 87 = .ok (.bipush 12, 2) := by decide +kernel
theorem d_D_goOn_89 : decode b_D_goOn 89 = .ok (.imul, 1) := by decide +kernel
theorem d_D_goOn_90 : decode b_D_goOn 90 = .ok (.iload 5, 2) := by decide +kernel
theorem d_D_goOn_92 : decode b_D_goOn 92 = .ok (.iadd, 1) := by decide +kernel
theorem d_D_goOn_93 : decode b_D_goOn 93 = .ok (.iaload, 1) := by decide +kernel
theorem d_D_goOn_94 : decode b_D_goOn 94 = .ok (.iload_n 2, 1) := by decide +kernel
theorem d_D_goOn_95 : decode b_D_goOn 95 = .ok (.if_icmp .ne 6, 3) := by decide +kernel
theorem d_D_goOn_98 : decode b_D_goOn 98 = .ok (.iconst 1, 1) := by decide +kernel
theorem d_D_goOn_99 : decode b_D_goOn 99 = .ok (.istore 4, 2) := by decide +kernel
theorem d_D_goOn_101 : decode b_D_goOn 101 = .ok (.iinc 5 1, 3) := by decide +kernel
theorem d_D_goOn_104 : decode b_D_goOn 104 = .ok (.goto (-33), 3) := by decide +kernel
theorem d_D_goOn_107 : decode b_D_goOn 107 = .ok (.iload 4, 2) := by decide +kernel
theorem d_D_goOn_109 : decode b_D_goOn 109 = .ok (.ifCond .ne 52, 3) := by decide +kernel
theorem d_D_goOn_112 : decode b_D_goOn 112 = .ok (.aload_n 0, 1) := by decide +kernel
theorem d_D_goOn_113 : decode b_D_goOn 113 = .ok (.getfield 26, 3) := by decide +kernel
theorem d_D_goOn_116 : decode b_D_goOn 116 = .ok (.iload_n 3, 1) := by decide +kernel
theorem d_D_goOn_117 : decode b_D_goOn 117 = .ok (.bipush 12, 2) := by decide +kernel
theorem d_D_goOn_119 : decode b_D_goOn 119 = .ok (.imul, 1) := by decide +kernel
theorem d_D_goOn_120 : decode b_D_goOn 120 = .ok (.aload_n 0, 1) := by decide +kernel
theorem d_D_goOn_121 : decode b_D_goOn 121 = .ok (.getfield 23, 3) := by decide +kernel
theorem d_D_goOn_124 : decode b_D_goOn 124 = .ok (.iload_n 3, 1) := by decide +kernel
theorem d_D_goOn_125 : decode b_D_goOn 125 = .ok (.iaload, 1) := by decide +kernel
theorem d_D_goOn_126 : decode b_D_goOn 126 = .ok (.iadd, 1) := by decide +kernel
theorem d_D_goOn_127 : decode b_D_goOn 127 = .ok (.iload_n 2, 1) := by decide +kernel
theorem d_D_goOn_128 : decode b_D_goOn 128 = .ok (.iastore, 1) := by decide +kernel
theorem d_D_goOn_129 : decode b_D_goOn 129 = .ok (.aload_n 0, 1) := by decide +kernel
theorem d_D_goOn_130 : decode b_D_goOn 130 = .ok (.getfield 32, 3) := by decide +kernel
theorem d_D_goOn_133 : decode b_D_goOn 133 = .ok (.iload_n 3, 1) := by decide +kernel
theorem d_D_goOn_134 : decode b_D_goOn 134 = .ok (.bipush 12, 2) := by decide +kernel
theorem d_D_goOn_136 : decode b_D_goOn 136 = .ok (.imul, 1) := by decide +kernel
theorem d_D_goOn_137 : decode b_D_goOn 137 = .ok (.aload_n 0, 1) := by decide +kernel
theorem d_D_goOn_138 : decode b_D_goOn 138 = .ok (.getfield 23, 3) := by decide +kernel
theorem d_D_goOn_141 : decode b_D_goOn 141 = .ok (.iload_n 3, 1) := by decide +kernel
theorem d_D_goOn_142 : decode b_D_goOn 142 = .ok (.iaload, 1) := by decide +kernel
theorem d_D_goOn_143 : decode b_D_goOn 143 = .ok (.iadd, 1) := by decide +kernel
theorem d_D_goOn_144 : decode b_D_goOn 144 = .ok (.aload_n 0, 1) := by decide +kernel
theorem d_D_goOn_145 : decode b_D_goOn 145 = .ok (.getfield 63, 3) := by decide +kernel
theorem d_D_goOn_148 : decode b_D_goOn 148 = .ok (.iload_n 2, 1) := by decide +kernel
theorem d_D_goOn_149 : decode b_D_goOn 149 = .ok (.laload, 1) := by decide +kernel
theorem d_D_goOn_150 : decode b_D_goOn 150 = .ok (.lastore, 1) := by decide +kernel
theorem d_D_goOn_151 : decode b_D_goOn 151 = .ok (.aload_n 0, 1) := by decide +kernel
theorem d_D_goOn_152 : decode b_D_goOn 152 = .ok (.getfield 23, 3) := by decide +kernel
theorem d_D_goOn_155 : decode b_D_goOn 155 = .ok (.iload_n 3, 1) := by decide +kernel
theorem d_D_goOn_156 : decode b_D_goOn 156 = .ok (.dup2, 1) := by decide +kernel
theorem d_D_goOn_157 : decode b_D_goOn 157 = .ok (.iaload, 1) := by decide +kernel
theorem d_D_goOn_158 : decode b_D_goOn 158 = .ok (.iconst 1, 1) := by decide +kernel
theorem d_D_goOn_159 : decode b_D_goOn 159 = .ok (.iadd, 1) := by decide +kernel
theorem d_D_goOn_160 : decode b_D_goOn 160 = .ok (.iastore, 1) := by decide +kernel
theorem d_D_goOn_161 : decode b_D_goOn 161 = .ok (.aload_n 0, 1) := by decide +kernel
theorem d_D_goOn_162 : decode b_D_goOn 162 = .ok (.iload_n 1, 1) := by decide +kernel
theorem d_D_goOn_163 : decode b_D_goOn 163 = .ok (.aload_n 0, 1) := by decide +kernel
theorem d_D_goOn_164 : decode b_D_goOn 164 = .ok (.getfield 63, 3) := by decide +kernel
theorem d_D_goOn_167 : decode b_D_goOn 167 = .ok (.iload_n 2, 1) := by decide +kernel
theorem d_D_goOn_168 : decode b_D_goOn 168 = .ok (.laload, 1) := by decide +kernel
theorem d_D_goOn_169 : decode b_D_goOn 169 = .ok (.invokevirtual 162, 3) := by decide +kernel
theorem d_D_goOn_172 : decode b_D_goOn 172 = .ok (.return_, 1) := by decide +kernel
theorem d_D_session_0 : decode b_D_session 0 = .ok (.aload_n 0, 1) := by decide +kernel
theorem d_D_session_1 : decode b_D_session 1 = .ok (.iload_n 1, 1) := by decide +kernel
theorem d_D_session_2 : decode b_D_session 2 = .ok (.putfield 124, 3) := by decide +kernel
theorem d_D_session_5 : decode b_D_session 5 = .ok (.aload_n 0, 1) := by decide +kernel
theorem d_D_session_6 : decode b_D_session 6 = .ok (.iconst 0, 1) := by decide +kernel
theorem d_D_session_7 : decode b_D_session 7 = .ok (.putfield 131, 3) := by decide +kernel
theorem d_D_session_10 : decode b_D_session 10 = .ok (.aload_n 0, 1) := by decide +kernel
theorem d_D_session_11 : decode b_D_session 11 = .ok (.iconst 0, 1) := by decide +kernel
theorem d_D_session_12 : decode b_D_session 12 = .ok (.putfield 118, 3) := by decide +kernel
theorem d_D_session_15 : decode b_D_session 15 = .ok (.iconst 0, 1) := by decide +kernel
theorem d_D_session_16 : decode b_D_session 16 = .ok (.istore_n 3, 1) := by decide +kernel
theorem d_D_session_17 : decode b_D_session 17 = .ok (.iload_n 3, 1) := by decide +kernel
theorem d_D_session_18 : decode b_D_session 18 = .ok (.bipush 12, 2) := by decide +kernel
theorem d_D_session_20 : decode b_D_session 20 = .ok (.if_icmp .ge 16, 3) := by decide +kernel
theorem d_D_session_23 : decode b_D_session 23 = .ok (.aload_n 0, 1) := by decide +kernel
theorem d_D_session_24 : decode b_D_session 24 = .ok (.getfield 60, 3) := by decide +kernel
theorem d_D_session_27 : decode b_D_session 27 = .ok (.iload_n 3, 1) := by decide +kernel
theorem d_D_session_28 : decode b_D_session 28 = .ok (.iconst 0, 1) := by decide +kernel
theorem d_D_session_29 : decode b_D_session 29 = .ok (.iastore, 1) := by decide +kernel
theorem d_D_session_30 : decode b_D_session 30 = .ok (.iinc 3 1, 3) := by decide +kernel
theorem d_D_session_33 : decode b_D_session 33 = .ok (.goto (-16), 3) := by decide +kernel
theorem d_D_session_36 : decode b_D_session 36 = .ok (.aload_n 0, 1) := by decide +kernel
theorem d_D_session_37 : decode b_D_session 37 = .ok (.iload_n 2, 1) := by decide +kernel
theorem d_D_session_38 : decode b_D_session 38 = .ok (.invokevirtual 142, 3) := by decide +kernel
theorem d_D_session_41 : decode b_D_session 41 = .ok (.istore_n 3, 1) := by decide +kernel
theorem d_D_session_42 : decode b_D_session 42 = .ok (.aload_n 0, 1) := by decide +kernel
theorem d_D_session_43 : decode b_D_session 43 = .ok (.getfield 118, 3) := by decide +kernel
theorem d_D_session_46 : decode b_D_session 46 = .ok (.ifCond .le 47, 3) := by decide +kernel
theorem d_D_session_49 : decode b_D_session 49 = .ok (.aload_n 0, 1) := by decide +kernel
theorem d_D_session_50 : decode b_D_session 50 = .ok (.getfield 96, 3) := by decide +kernel
theorem d_D_session_53 : decode b_D_session 53 = .ok (.ifCond .ne 40, 3) := by decide +kernel
theorem d_D_session_56 : decode b_D_session 56 = .ok (.aload_n 0, 1) := by decide +kernel
theorem d_D_session_57 : decode b_D_session 57 = .ok (.getfield 118, 3) := by decide +kernel
theorem d_D_session_60 : decode b_D_session 60 = .ok (.iconst 1, 1) := by decide +kernel
theorem d_D_session_61 : decode b_D_session 61 = .ok (.isub, 1) := by decide +kernel
theorem d_D_session_62 : decode b_D_session 62 = .ok (.istore 4, 2) := by decide +kernel
theorem d_D_session_64 : decode b_D_session 64 = .ok (.aload_n 0, 1) := by decide +kernel
theorem d_D_session_65 : decode b_D_session 65 = .ok (.getfield 69, 3) := by decide +kernel
theorem d_D_session_68 : decode b_D_session 68 = .ok (.iload 4, 2) := by decide +kernel
theorem d_D_session_70 : decode b_D_session 70 = .ok (.iaload, 1) := by decide +kernel
theorem d_D_session_71 : decode b_D_session 71 = .ok (.iconst 3, 1) := by decide +kernel
theorem d_D_session_72 : decode b_D_session 72 = .ok (.if_icmp .ne 12, 3) := by decide +kernel
theorem d_D_session_75 : decode b_D_session 75 = .ok (.aload_n 0, 1) := by decide +kernel
theorem d_D_session_76 : decode b_D_session 76 = .ok (.iload 4, 2) := by decide +kernel
theorem d_D_session_78 : decode b_D_session 78 = .ok (.invokevirtual 165, 3) := by decide +kernel
theorem d_D_session_81 : decode b_D_session 81 = .ok (.goto 9, 3) := by decide +kernel
theorem d_D_session_84 : decode b_D_session 84 = .ok (.aload_n 0, 1) := by decide +kernel
theorem d_D_session_85 : decode b_D_session 85 = .ok (.iload 4, 2) := by decide +kernel
theorem d_D_session_87 : decode b_D_session 87 = .ok (.invokevirtual 168, 3) := by decide +kernel
theorem d_D_session_90 : decode b_D_session 90 = .ok (.goto (-48), 3) := by decide +kernel
theorem d_D_session_93 : decode b_D_session 93 = .ok (.iconst 0, 1) := by decide +kernel
theorem d_D_session_94 : decode b_D_session 94 = .ok (.istore 4, 2) := by decide +kernel
theorem d_D_session_96 : decode b_D_session 96 = .ok (.iload 4, 2) := by decide +kernel
theorem d_D_session_98 : decode b_D_session 98 = .ok (.aload_n 0, 1) := by decide +kernel
theorem d_D_session_99 : decode b_D_session 99 = .ok (.getfield 118, 3) := by decide +kernel
theorem d_D_session_102 : decode b_D_session 102 = .ok (.if_icmp .ge 30, 3) := by decide +kernel
theorem d_D_session_105 : decode b_D_session 105 = .ok (.aload_n 0, 1) := by decide +kernel
theorem d_D_session_106 : decode b_D_session 106 = .ok (.getfield 69, 3) := by decide +kernel
theorem d_D_session_109 : decode b_D_session 109 = .ok (.iload 4, 2) := by decide +kernel
theorem d_D_session_111 : decode b_D_session 111 = .ok (.iaload, 1) := by decide +kernel
theorem d_D_session_112 : decode b_D_session 112 = .ok (.iconst 3, 1) := by decide +kernel
theorem d_D_session_113 : decode b_D_session 113 = .ok (.if_icmp .ne 13, 3) := by decide +kernel
theorem d_D_session_116 : decode b_D_session 116 = .ok (.aload_n 0, 1) := by decide +kernel
theorem d_D_session_117 : decode b_D_session 117 = .ok (.getfield 54, 3) := by decide +kernel
theorem d_D_session_120 : decode b_D_session 120 = .ok (.iconst 4, 1) := by decide +kernel
theorem d_D_session_121 : decode b_D_session 121 = .ok (.dup2, 1) := by decide +kernel
theorem d_D_session_122 : decode b_D_session 122 = .ok (.iaload, 1) := by decide +kernel
theorem d_D_session_123 : decode b_D_session 123 = .ok (.iconst 1, 1) := by decide +kernel
theorem d_D_session_124 : decode b_D_session 124 = .ok (.iadd, 1) := by decide +kernel
theorem d_D_session_125 : decode b_D_session 125 = .ok (.iastore, 1) := by decide +kernel
theorem d_D_session_126 : decode b_D_session 126 = .ok (.iinc 4 1, 3) := by decide +kernel
theorem d_D_session_129 : decode b_D_session 129 = .ok (.goto (-33), 3) := by decide +kernel
theorem d_D_session_132 : decode b_D_session 132 = .ok (.aload_n 0, 1) := by decide +kernel
theorem d_D_session_133 : decode b_D_session 133 = .ok (.iconst 0, 1) := by decide +kernel
theorem d_D_session_134 : decode b_D_session 134 = .ok (.putfield 118, 3) := by decide +kernel
theorem d_D_session_137 : decode b_D_session 137 = .ok (.aload_n 0, 1) := by decide +kernel
theorem d_D_session_138 : decode b_D_session 138 = .ok (.getfield 96, 3) := by decide +kernel
theorem d_D_session_141 : decode b_D_session 141 = .ok (.ifCond .le 7, 3) := by decide +kernel
theorem d_D_session_144 : decode b_D_session 144 = .ok (.lconst 0, 1) := by decide +kernel
theorem d_D_session_145 : decode b_D_session 145 = .ok (.goto 9, 3) := by decide +kernel
theorem d_D_session_148 : decode b_D_session 148 = .ok (.aload_n 0, 1) := by decide +kernel
theorem d_D_session_149 : decode b_D_session 149 = .ok (.getfield 63, 3) := by decide +kernel
theorem d_D_session_152 : decode b_D_session 152 = .ok (.iload_n 2, 1) := by decide +kernel
theorem d_D_session_153 : decode b_D_session 153 = .ok (.laload, 1) := by decide +kernel
theorem d_D_session_154 : decode b_D_session 154 = .ok (.lreturn, 1) := by decide +kernel
theorem d_D_build_0 : decode b_D_build 0 = .ok (.aload_n 0, 1) := by decide +kernel
theorem d_D_build_1 : decode b_D_build 1 = .ok (.iload_n 1, 1) := by decide +kernel
theorem d_D_build_2 : decode b_D_build 2 = .ok (.iconst 0, 1) := by decide +kernel
theorem d_D_build_3 : decode b_D_build 3 = .ok (.iconst 1, 1) := by decide +kernel
theorem d_D_build_4 : decode b_D_build 4 = .ok (.invokestatic 103, 3) := by decide +kernel
theorem d_D_build_7 : decode b_D_build 7 = .ok (.ifCond .eq 17, 3) := by decide +kernel
theorem d_D_build_10 : decode b_D_build 10 = .ok (.iload_n 2, 1) := by decide +kernel
theorem d_D_build_11 : decode b_D_build 11 = .ok (.iconst 0, 1) := by decide +kernel
theorem d_D_build_12 : decode b_D_build 12 = .ok (.bipush 11, 2) := by decide +kernel
theorem d_D_build_14 : decode b_D_build 14 = .ok (.invokestatic 103, 3) := by decide +kernel
theorem d_D_build_17 : decode b_D_build 17 = .ok (.ifCond .eq 7, 3) := by decide +kernel
theorem d_D_build_20 : decode b_D_build 20 = .ok (.iconst 1, 1) := by decide +kernel
theorem d_D_build_21 : decode b_D_build 21 = .ok (.goto 4, 3) := by decide +kernel
theorem d_D_build_24 : decode b_D_build 24 = .ok (.iconst 0, 1) := by decide +kernel
theorem d_D_build_25 : decode b_D_build 25 = .ok (.invokevirtual 107, 3) := by decide +kernel
theorem d_D_build_28 : decode b_D_build 28 = .ok (.ifCond .eq 5, 3) := by decide +kernel
theorem d_D_build_31 : decode b_D_build 31 = .ok (.lconst 0, 1) := by decide +kernel
theorem d_D_build_32 : decode b_D_build 32 = .ok (.lreturn, 1) := by decide +kernel
theorem d_D_build_33 : decode b_D_build 33 = .ok (.aload_n 0, 1) := by decide +kernel
theorem d_D_build_34 : decode b_D_build 34 = .ok (.iload_n 1, 1) := by decide +kernel
theorem d_D_build_35 : decode b_D_build 35 = .ok (.iload_n 2, 1) := by decide +kernel
theorem d_D_build_36 : decode b_D_build 36 = .ok (.invokevirtual 171, 3) := by decide +kernel
theorem d_D_build_39 : decode b_D_build 39 = .ok (.lstore_n 3, 1) := by decide +kernel
