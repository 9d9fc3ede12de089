theorem d_S_taskValue_92 : decode b_S_taskValue 92 = .ok (.lreturn, 1) := by decide +kernel
theorem d_S_taskValue_93 : decode b_S_taskValue 93 = .ok (.aload_n 0, 1) := by decide +kernel
theorem d_S_taskValue_94 : decode b_S_taskValue 94 = .ok (.invokevirtual 93, 3) := by decide +kernel
theorem d_S_taskValue_97 : decode b_S_taskValue 97 = .ok (.ifCond .eq 7, 3) := by decide +kernel
theorem d_S_taskValue_100 : decode b_S_taskValue 100 = .ok (.lconst 0, 1) := by decide +kernel
theorem d_S_taskValue_101 : decode b_S_taskValue 101 = .ok (.goto 8, 3) := by decide +kernel
theorem d_S_taskValue_104 : decode b_S_taskValue 104 = .ok (.aload_n 0, 1) := by decide +kernel
theorem d_S_taskValue_105 : decode b_S_taskValue 105 = .ok (.iload_n 1, 1) := by decide +kernel
theorem d_S_taskValue_106 : decode b_S_taskValue 106 = .ok (.invokevirtual 97, 3) := by decide +kernel
theorem d_S_taskValue_109 : decode b_S_taskValue 109 = .ok (.lreturn, 1) := by decide +kernel
theorem d_S_agrees_0 : decode b_S_agrees 0 = .ok (.iconst 0, 1) := by decide +kernel
theorem d_S_agrees_1 : decode b_S_agrees 1 = .ok (.istore_n 2, 1) := by decide +kernel
theorem d_S_agrees_2 : decode b_S_agrees 2 = .ok (.iload_n 2, 1) := by decide +kernel
theorem d_S_agrees_3 : decode b_S_agrees 3 = .ok (.aload_n 1, 1) := by decide +kernel
theorem d_S_agrees_4 : decode b_S_agrees 4 = .ok (.getfield 100, 3) := by decide +kernel
theorem d_S_agrees_7 : decode b_S_agrees 7 = .ok (.if_icmp .ge 38, 3) := by decide +kernel
theorem d_S_agrees_10 : decode b_S_agrees 10 = .ok (.aload_n 0, 1) := by decide +kernel
theorem d_S_agrees_11 : decode b_S_agrees 11 = .ok (.invokevirtual 93, 3) := by decide +kernel
theorem d_S_agrees_14 : decode b_S_agrees 14 = .ok (.ifCond .ne 31, 3) := by decide +kernel
theorem d_S_agrees_17 : decode b_S_agrees 17 = .ok (.aload_n 0, 1) := by decide +kernel
theorem d_S_agrees_18 : decode b_S_agrees 18 = .ok (.aload_n 1, 1) := by decide +kernel
theorem d_S_agrees_19 : decode b_S_agrees 19 = .ok (.getfield 103, 3) := by decide +kernel
theorem d_S_agrees_22 : decode b_S_agrees 22 = .ok (.iload_n 2, 1) := by decide +kernel
theorem d_S_agrees_23 : decode b_S_agrees 23 = .ok (.iaload, 1) := by decide +kernel
theorem d_S_agrees_24 : decode b_S_agrees 24 = .ok (.invokevirtual 47, 3) := by decide +kernel
theorem d_S_agrees_27 : decode b_S_agrees 27 = .ok (.aload_n 1, 1) := by decide +kernel
theorem d_S_agrees_28 : decode b_S_agrees 28 = .ok (.getfield 106, 3) := by decide +kernel
theorem d_S_agrees_31 : decode b_S_agrees 31 = .ok (.iload_n 2, 1) := by decide +kernel
theorem d_S_agrees_32 : decode b_S_agrees 32 = .ok (.laload, 1) := by decide +kernel
theorem d_S_agrees_33 : decode b_S_agrees 33 = .ok (.lcmp, 1) := by decide +kernel
theorem d_S_agrees_34 : decode b_S_agrees 34 = .ok (.ifCond .eq 5, 3) := by decide +kernel
theorem d_S_agrees_37 : decode b_S_agrees 37 = .ok (.iconst 0, 1) := by decide +kernel
theorem d_S_agrees_38 : decode b_S_agrees 38 = .ok (.ireturn, 1) := by decide +kernel
theorem d_S_agrees_39 : decode b_S_agrees 39 = .ok (.iinc 2 1, 3) := by decide +kernel
theorem d_S_agrees_42 : decode b_S_agrees 42 = .ok (.goto (-40), 3) := by decide +kernel
theorem d_S_agrees_45 : decode b_S_agrees 45 = .ok (.aload_n 0, 1) := by decide +kernel
theorem d_S_agrees_46 : decode b_S_agrees 46 = .ok (.invokevirtual 93, 3) := by decide +kernel
theorem d_S_agrees_49 : decode b_S_agrees 49 = .ok (.ifCond .ne 7, 3) := by decide +kernel
theorem d_S_agrees_52 : decode b_S_agrees 52 = .ok (.iconst 1, 1) := by decide +kernel
theorem d_S_agrees_53 : decode b_S_agrees 53 = .ok (.goto 4, 3) := by decide +kernel
theorem d_S_agrees_56 : decode b_S_agrees 56 = .ok (.iconst 0, 1) := by decide +kernel
theorem d_S_agrees_57 : decode b_S_agrees 57 = .ok (.ireturn, 1) := by decide +kernel
theorem d_S_agreeingEntry_0 : decode b_S_agreeingEntry 0 = .ok (.iload_n 1, 1) := by decide +kernel
theorem d_S_agreeingEntry_1 : decode b_S_agreeingEntry 1 = .ok (.bipush 16, 2) := by decide +kernel
theorem d_S_agreeingEntry_3 : decode b_S_agreeingEntry 3 = .ok (.imul, 1) := by decide +kernel
theorem d_S_agreeingEntry_4 : decode b_S_agreeingEntry 4 = .ok (.istore_n 2, 1) := by decide +kernel
theorem d_S_agreeingEntry_5 : decode b_S_agreeingEntry 5 = .ok (.aload_n 0, 1) := by decide +kernel
theorem d_S_agreeingEntry_6 : decode b_S_agreeingEntry 6 = .ok (.getfield 32, 3) := by decide +kernel
theorem d_S_agreeingEntry_9 : decode b_S_agreeingEntry 9 = .ok (.iload_n 1, 1) := by decide +kernel
theorem d_S_agreeingEntry_10 : decode b_S_agreeingEntry 10 = .ok (.aload_n 0, 1) := by decide +kernel
theorem d_S_agreeingEntry_11 : decode b_S_agreeingEntry 11 = .ok (.getfield 24, 3) := by decide +kernel
theorem d_S_agreeingEntry_14 : decode b_S_agreeingEntry 14 = .ok (.iload_n 2, 1) := by decide +kernel
theorem d_S_agreeingEntry_15 : decode b_S_agreeingEntry 15 = .ok (.invokevirtual 107, 3) := by decide +kernel
theorem d_S_agreeingEntry_18 : decode b_S_agreeingEntry 18 = .ok (.istore_n 3, 1) := by decide +kernel
theorem d_S_agreeingEntry_19 : decode b_S_agreeingEntry 19 = .ok (.iconst 0, 1) := by decide +kernel
theorem d_S_agreeingEntry_20 : decode b_S_agreeingEntry 20 = .ok (.istore 4, 2) := by decide +kernel
theorem d_S_agreeingEntry_22 : decode b_S_agreeingEntry 22 = .ok (.iload 4, 2) := by decide +kernel
theorem d_S_agreeingEntry_24 : decode b_S_agreeingEntry 24 = .ok (.iload_n 3, 1) := by decide +kernel
theorem d_S_agreeingEntry_25 : decode b_S_agreeingEntry 25 = .ok (.if_icmp .ge 44, 3) := by decide +kernel
theorem d_S_agreeingEntry_28 : decode b_S_agreeingEntry 28 = .ok (.aload_n 0, 1) := by decide +kernel
theorem d_S_agreeingEntry_29 : decode b_S_agreeingEntry 29 = .ok (.invokevirtual 93, 3) := by decide +kernel
theorem d_S_agreeingEntry_32 : decode b_S_agreeingEntry 32 = .ok (.ifCond .ne 37, 3) := by decide +kernel
theorem d_S_agreeingEntry_35 : decode b_S_agreeingEntry 35 = .ok (.aload_n 0, 1) := by decide +kernel
theorem d_S_agreeingEntry_36 : decode b_S_agreeingEntry 36 = .ok (.getfield 24, 3) := by decide +kernel
theorem d_S_agreeingEntry_39 : decode b_S_agreeingEntry 39 = .ok (.iload_n 2, 1) := by decide +kernel
theorem d_S_agreeingEntry_40 : decode b_S_agreeingEntry 40 = .ok (.iload 4, 2) := by decide +kernel
theorem d_S_agreeingEntry_42 : decode b_S_agreeingEntry 42 = .ok (.iadd, 1) := by decide +kernel
theorem d_S_agreeingEntry_43 : decode b_S_agreeingEntry 43 = .ok (.aaload, 1) := by decide +kernel
theorem d_S_agreeingEntry_44 : decode b_S_agreeingEntry 44 = .ok (.astore 5, 2) := by decide +kernel
theorem d_S_agreeingEntry_46 : decode b_S_agreeingEntry 46 = .ok (.aload 5, 2) := by decide +kernel
theorem d_S_agreeingEntry_48 : decode b_S_agreeingEntry 48 = .ok (.ifnull 15, 3) := by decide +kernel
theorem d_S_agreeingEntry_51 : decode b_S_agreeingEntry 51 = .ok (.aload_n 0, 1) := by decide +kernel
theorem d_S_agreeingEntry_52 : decode b_S_agreeingEntry 52 = .ok (.aload 5, 2) := by decide +kernel
theorem d_S_agreeingEntry_54 : decode b_S_agreeingEntry 54 = .ok (.invokevirtual 77, 3) := by decide +kernel
theorem d_S_agreeingEntry_57 : decode b_S_agreeingEntry 57 = .ok (.ifCond .eq 6, 3) := by decide +kernel
theorem d_S_agreeingEntry_60 : decode b_S_agreeingEntry 60 = .ok (.aload 5, 2) := by decide +kernel
theorem d_S_agreeingEntry_62 : decode b_S_agreeingEntry 62 = .ok (.areturn, 1) := by decide +kernel
theorem d_S_agreeingEntry_63 : decode b_S_agreeingEntry 63 = .ok (.iinc 4 1, 3) := by decide +kernel
theorem d_S_agreeingEntry_66 : decode b_S_agreeingEntry 66 = .ok (.goto (-44), 3) := by decide +kernel
theorem d_S_agreeingEntry_69 : decode b_S_agreeingEntry 69 = .ok (.aconst_null, 1) := by decide +kernel
theorem d_S_agreeingEntry_70 : decode b_S_agreeingEntry 70 = .ok (.areturn, 1) := by decide +kernel
theorem d_S_runTask_0 : decode b_S_runTask 0 = .ok (.aload_n 0, 1) := by decide +kernel
theorem d_S_runTask_1 : decode b_S_runTask 1 = .ok (.iconst 1, 1) := by decide +kernel
theorem d_S_runTask_2 : decode b_S_runTask 2 = .ok (.putfield 40, 3) := by decide +kernel
theorem d_S_runTask_5 : decode b_S_runTask 5 = .ok (.new 22, 3) := by decide +kernel
theorem d_S_runTask_8 : decode b_S_runTask 8 = .ok (.dup, 1) := by decide +kernel
theorem d_S_runTask_9 : decode b_S_runTask 9 = .ok (.iload_n 1, 1) := by decide +kernel
theorem d_S_runTask_10 : decode b_S_runTask 10 = .ok (.invokespecial 111, 3) := by decide +kernel
theorem d_S_runTask_13 : decode b_S_runTask 13 = .ok (.astore_n 2, 1) := by decide +kernel
theorem d_S_runTask_14 : decode b_S_runTask 14 = .ok (.aload_n 2, 1) := by decide +kernel
theorem d_S_runTask_15 : decode b_S_runTask 15 = .ok (.aload_n 0, 1) := by decide +kernel
theorem d_S_runTask_16 : decode b_S_runTask 16 = .ok (.aload_n 2, 1) := by decide +kernel
theorem d_S_runTask_17 : decode b_S_runTask 17 = .ok (.invokevirtual 114, 3) := by decide +kernel
theorem d_S_runTask_20 : decode b_S_runTask 20 = .ok (.putfield 81, 3) := by decide +kernel
theorem d_S_runTask_23 : decode b_S_runTask 23 = .ok (.aload_n 0, 1) := by decide +kernel
theorem d_S_runTask_24 : decode b_S_runTask 24 = .ok (.invokevirtual 93, 3) := by decide +kernel
theorem d_S_runTask_27 : decode b_S_runTask 27 = .ok (.ifCond .eq 18, 3) := by decide +kernel
theorem d_S_runTask_30 : decode b_S_runTask 30 = .ok (.aload_n 0, 1) := by decide +kernel
theorem d_S_runTask_31 : decode b_S_runTask 31 = .ok (.getfield 32, 3) := by decide +kernel
theorem d_S_runTask_34 : decode b_S_runTask 34 = .ok (.getfield 51, 3) := by decide +kernel
theorem d_S_runTask_37 : decode b_S_runTask 37 = .ok (.iconst 4, 1) := by decide +kernel
theorem d_S_runTask_38 : decode b_S_runTask 38 = .ok (.dup2, 1) := by decide +kernel
theorem d_S_runTask_39 : decode b_S_runTask 39 = .ok (.iaload, 1) := by decide +kernel
theorem d_S_runTask_40 : decode b_S_runTask 40 = .ok (.iconst 1, 1) := by decide +kernel
theorem d_S_runTask_41 : decode b_S_runTask 41 = .ok (.iadd, 1) := by decide +kernel
theorem d_S_runTask_42 : decode b_S_runTask 42 = .ok (.iastore, 1) := by decide +kernel
theorem d_S_runTask_43 : decode b_S_runTask 43 = .ok (.lconst 0, 1) := by decide +kernel
theorem d_S_runTask_44 : decode b_S_runTask 44 = .ok (.lreturn, 1) := by decide +kernel
theorem d_S_runTask_45 : decode b_S_runTask 45 = .ok (.aload_n 0, 1) := by decide +kernel
theorem d_S_runTask_46 : decode b_S_runTask 46 = .ok (.getfield 32, 3) := by decide +kernel
theorem d_S_runTask_49 : decode b_S_runTask 49 = .ok (.getfield 51, 3) := by decide +kernel
theorem d_S_runTask_52 : decode b_S_runTask 52 = .ok (.iconst 3, 1) := by decide +kernel
theorem d_S_runTask_53 : decode b_S_runTask 53 = .ok (.dup2, 1) := by decide +kernel
theorem d_S_runTask_54 : decode b_S_runTask 54 = .ok (.iaload, 1) := by decide +kernel
theorem d_S_runTask_55 : decode b_S_runTask 55 = .ok (.iconst 1, 1) := by decide +kernel
theorem d_S_runTask_56 : decode b_S_runTask 56 = .ok (.iadd, 1) := by decide +kernel
theorem d_S_runTask_57 : decode b_S_runTask 57 = .ok (.iastore, 1) := by decide +kernel
theorem d_S_runTask_58 : decode b_S_runTask 58 = .ok (.aload_n 0, 1) := by decide +kernel
theorem d_S_runTask_59 : decode b_S_runTask 59 = .ok (.getfield 32, 3) := by decide +kernel
theorem d_S_runTask_62 : decode b_S_runTask 62 = .ok (.aload_n 0, 1) := by decide +kernel
theorem d_S_runTask_63 : decode b_S_runTask 63 = .ok (.getfield 36, 3) := by decide +kernel
theorem d_S_runTask_66 : decode b_S_runTask 66 = .ok (.aload_n 2, 1) := by decide +kernel
theorem d_S_runTask_67 : decode b_S_runTask 67 = .ok (.invokevirtual 89, 3) := by decide +kernel
theorem d_S_runTask_70 : decode b_S_runTask 70 = .ok (.aload_n 0, 1) := by decide +kernel
theorem d_S_runTask_71 : decode b_S_runTask 71 = .ok (.getfield 32, 3) := by decide +kernel
theorem d_S_runTask_74 : decode b_S_runTask 74 = .ok (.aload_n 2, 1) := by decide +kernel
theorem d_S_runTask_75 : decode b_S_runTask 75 = .ok (.invokevirtual 118, 3) := by decide +kernel
theorem d_S_runTask_78 : decode b_S_runTask 78 = .ok (.aload_n 0, 1) := by decide +kernel
theorem d_S_runTask_79 : decode b_S_runTask 79 = .ok (.iload_n 1, 1) := by decide +kernel
theorem d_S_runTask_80 : decode b_S_runTask 80 = .ok (.aload_n 2, 1) := by decide +kernel
theorem d_S_runTask_81 : decode b_S_runTask 81 = .ok (.getfield 81, 3) := by decide +kernel
theorem d_S_runTask_84 : decode b_S_runTask 84 = .ok (.invokevirtual 66, 3) := by decide +kernel
theorem d_S_runTask_87 : decode b_S_runTask 87 = .ok (.lreturn, 1) := by decide +kernel
theorem d_S_ruleValue_0 : decode b_S_ruleValue 0 = .ok (.aload_n 0, 1) := by decide +kernel
theorem d_S_ruleValue_1 : decode b_S_ruleValue 1 = .ok (.getfield 28, 3) := by decide +kernel
theorem d_S_ruleValue_4 : decode b_S_ruleValue 4 = .ok (.getfield 122, 3) := by decide +kernel
theorem d_S_ruleValue_7 : decode b_S_ruleValue 7 = .ok (.aload_n 1, 1) := by decide +kernel
theorem d_S_ruleValue_8 : decode b_S_ruleValue 8 = .ok (.getfield 125, 3) := by decide +kernel
theorem d_S_ruleValue_11 : decode b_S_ruleValue 11 = .ok (.iaload, 1) := by decide +kernel
theorem d_S_ruleValue_12 : decode b_S_ruleValue 12 = .ok (.tableswitch 150 0 9 #[56, 62, 68, 90, 96, 115, 121, 127, 133, 144], 56) := by decide +kernel
theorem d_S_ruleValue_68 : decode b_S_ruleValue 68 = .ok (.aload_n 0, 1) := by decide +kernel
theorem d_S_ruleValue_69 : decode b_S_ruleValue 69 = .ok (.aload_n 1, 1) := by decide +kernel
theorem d_S_ruleValue_70 : decode b_S_ruleValue 70 = .ok (.invokevirtual 128, 3) := by decide +kernel
theorem d_S_ruleValue_73 : decode b_S_ruleValue 73 = .ok (.lreturn, 1) := by decide +kernel
theorem d_S_ruleValue_74 : decode b_S_ruleValue 74 = .ok (.aload_n 0, 1) := by decide +kernel
theorem d_S_ruleValue_75 : decode b_S_ruleValue 75 = .ok (.aload_n 1, 1) := by decide +kernel
theorem d_S_ruleValue_76 : decode b_S_ruleValue 76 = .ok (.invokevirtual 131, 3) := by decide +kernel
theorem d_S_ruleValue_79 : decode b_S_ruleValue 79 = .ok (.lreturn, 1) := by decide +kernel
theorem d_S_ruleValue_80 : decode b_S_ruleValue 80 = .ok (.aload_n 0, 1) := by decide +kernel
theorem d_S_ruleValue_81 : decode b_S_ruleValue 81 = .ok (.aload_n 1, 1) := by decide +kernel
theorem d_S_ruleValue_82 : decode b_S_ruleValue 82 = .ok (.aload_n 0, 1) := by decide +kernel
theorem d_S_ruleValue_83 : decode b_S_ruleValue 83 = .ok (.aload_n 1, 1) := by decide +kernel
theorem d_S_ruleValue_84 : decode b_S_ruleValue 84 = .ok (.iconst 0, 1) := by decide +kernel
theorem d_S_ruleValue_85 : decode b_S_ruleValue 85 = .ok (.invokevirtual 134, 3) := by decide +kernel
theorem d_S_ruleValue_88 : decode b_S_ruleValue 88 = .ok (.lconst 0, 1) := by decide +kernel
theorem d_S_ruleValue_89 : decode b_S_ruleValue 89 = .ok (.lcmp, 1) := by decide +kernel
theorem d_S_ruleValue_90 : decode b_S_ruleValue 90 = .ok (.ifCond .le 7, 3) := by decide +kernel
theorem d_S_ruleValue_93 : decode b_S_ruleValue 93 = .ok (.iconst 1, 1) := by decide +kernel
theorem d_S_ruleValue_94 : decode b_S_ruleValue 94 = .ok (.goto 4, 3) := by decide +kernel
theorem d_S_ruleValue_97 : decode b_S_ruleValue 97 = .ok (.iconst 2, 1) := by decide +kernel
theorem d_S_ruleValue_98 : decode b_S_ruleValue 98 = .ok (.invokevirtual 134, 3) := by decide +kernel
theorem d_S_ruleValue_101 : decode b_S_ruleValue 101 = .ok (.lreturn, 1) := by decide +kernel
theorem d_S_ruleValue_102 : decode b_S_ruleValue 102 = .ok (.aload_n 0, 1) := by decide +kernel
theorem d_S_ruleValue_103 : decode b_S_ruleValue 103 = .ok (.aload_n 1, 1) := by decide +kernel
theorem d_S_ruleValue_104 : decode b_S_ruleValue 104 = .ok (.invokevirtual 138, 3) := by decide +kernel
theorem d_S_ruleValue_107 : decode b_S_ruleValue 107 = .ok (.lreturn, 1) := by decide +kernel
theorem d_S_ruleValue_108 : decode b_S_ruleValue 108 = .ok (.aload_n 0, 1) := by decide +kernel
theorem d_S_ruleValue_109 : decode b_S_ruleValue 109 = .ok (.aload_n 1, 1) := by decide +kernel
theorem d_S_ruleValue_110 : decode b_S_ruleValue 110 = .ok (.aload_n 0, 1) := by decide +kernel
theorem d_S_ruleValue_111 : decode b_S_ruleValue 111 = .ok (.aload_n 1, 1) := by decide +kernel
theorem d_S_ruleValue_112 : decode b_S_ruleValue 112 = .ok (.iconst 0, 1) := by decide +kernel
theorem d_S_ruleValue_113 : decode b_S_ruleValue 113 = .ok (.invokevirtual 134, 3) := by decide +kernel
theorem d_S_ruleValue_116 : decode b_S_ruleValue 116 = .ok (.ldc2_w 141, 3) := by decide +kernel
theorem d_S_ruleValue_119 : decode b_S_ruleValue 119 = .ok (.invokestatic 143, 3) := by decide +kernel
theorem d_S_ruleValue_122 : decode b_S_ruleValue 122 = .ok (.l2i, 1) := by decide +kernel
theorem d_S_ruleValue_123 : decode b_S_ruleValue 123 = .ok (.invokevirtual 149, 3) := by decide +kernel
theorem d_S_ruleValue_126 : decode b_S_ruleValue 126 = .ok (.lreturn, 1) := by decide +kernel
theorem d_S_ruleValue_127 : decode b_S_ruleValue 127 = .ok (.aload_n 0, 1) := by decide +kernel
theorem d_S_ruleValue_128 : decode b_S_ruleValue 128 = .ok (.aload_n 1, 1) := by decide +kernel
theorem d_S_ruleValue_129 : decode b_S_ruleValue 129 = .ok (.invokevirtual 152, 3) := by decide +kernel
theorem d_S_ruleValue_132 : decode b_S_ruleValue 132 = .ok (.lreturn, 1) := by decide +kernel
theorem d_S_ruleValue_133 : decode b_S_ruleValue 133 = .ok (.aload_n 0, 1) := by decide +kernel
theorem d_S_ruleValue_134 : decode b_S_ruleValue 134 = .ok (.aload_n 1, 1) := by decide +kernel
theorem d_S_ruleValue_135 : decode b_S_ruleValue 135 = .ok (.invokevirtual 155, 3) := by decide +kernel
theorem d_S_ruleValue_138 : decode b_S_ruleValue 138 = .ok (.lreturn, 1) := by decide +kernel
theorem d_S_ruleValue_139 : decode b_S_ruleValue 139 = .ok (.aload_n 0, 1) := by decide +kernel
theorem d_S_ruleValue_140 : decode b_S_ruleValue 140 = .ok (.aload_n 1, 1) := by decide +kernel
theorem d_S_ruleValue_141 : decode b_S_ruleValue 141 = .ok (.invokevirtual 158, 3) := by decide +kernel
theorem d_S_ruleValue_144 : decode b_S_ruleValue 144 = .ok (.lreturn, 1) := by decide +kernel
theorem d_S_ruleValue_145 : decode b_S_ruleValue 145 = .ok (.aload_n 0, 1) := by decide +kernel
theorem d_S_ruleValue_146 : decode b_S_ruleValue 146 = .ok (.aload_n 1, 1) := by decide +kernel
theorem d_S_ruleValue_147 : decode b_S_ruleValue 147 = .ok (.iconst 0, 1) := by decide +kernel
theorem d_S_ruleValue_148 : decode b_S_ruleValue 148 = .ok (.invokevirtual 134, 3) := by decide +kernel
theorem d_S_ruleValue_151 : decode b_S_ruleValue 151 = .ok (.pop2, 1) := by decide +kernel
theorem d_S_ruleValue_152 : decode b_S_ruleValue 152 = .ok (.ldc2_w 161, 3) := by decide +kernel
theorem d_S_ruleValue_155 : decode b_S_ruleValue 155 = .ok (.lreturn, 1) := by decide +kernel
theorem d_S_ruleValue_156 : decode b_S_ruleValue 156 = .ok (.aload_n 0, 1) := by decide +kernel
theorem d_S_ruleValue_157 : decode b_S_ruleValue 157 = .ok (.aload_n 1, 1) := by decide +kernel
theorem d_S_ruleValue_158 : decode b_S_ruleValue 158 = .ok (.invokevirtual 163, 3) := by decide +kernel
theorem d_S_ruleValue_161 : decode b_S_ruleValue 161 = .ok (.lreturn, 1) := by decide +kernel
theorem d_S_ruleValue_162 : decode b_S_ruleValue 162 = .ok (.lconst 0, 1) := by decide +kernel
theorem d_S_ruleValue_163 : decode b_S_ruleValue 163 = .ok (.lreturn, 1) := by decide +kernel
theorem d_S_askPart_0 : decode b_S_askPart 0 = .ok (.aload_n 0, 1) := by decide +kernel
theorem d_S_askPart_1 : decode b_S_askPart 1 = .ok (.aload_n 1, 1) := by decide +kernel
theorem d_S_askPart_2 : decode b_S_askPart 2 = .ok (.aload_n 0, 1) := by decide +kernel
theorem d_S_askPart_3 : decode b_S_askPart 3 = .ok (.getfield 28, 3) := by decide +kernel
theorem d_S_askPart_6 : decode b_S_askPart 6 = .ok (.getfield 166, 3) := by decide +kernel
theorem d_S_askPart_9 : decode b_S_askPart 9 = .ok (.aload_n 1, 1) := by decide +kernel
theorem d_S_askPart_10 : decode b_S_askPart 10 = .ok (.getfield 125, 3) := by decide +kernel
theorem d_S_askPart_13 : decode b_S_askPart 13 = .ok (.aaload, 1) := by decide +kernel
theorem d_S_askPart_14 : decode b_S_askPart 14 = .ok (.iload_n 2, 1) := by decide +kernel
theorem d_S_askPart_15 : decode b_S_askPart 15 = .ok (.iaload, 1) := by decide +kernel
theorem d_S_askPart_16 : decode b_S_askPart 16 = .ok (.invokevirtual 149, 3) := by decide +kernel
theorem d_S_askPart_19 : decode b_S_askPart 19 = .ok (.lreturn, 1) := by decide +kernel
theorem d_S_ask_0 : decode b_S_ask 0 = .ok (.aload_n 0, 1) := by decide +kernel
theorem d_S_ask_1 : decode b_S_ask 1 = .ok (.invokevirtual 93, 3) := by decide +kernel
theorem d_S_ask_4 : decode b_S_ask 4 = .ok (.ifCond .eq 5, 3) := by decide +kernel
theorem d_S_ask_7 : decode b_S_ask 7 = .ok (.lconst 0, 1) := by decide +kernel
theorem d_S_ask_8 : decode b_S_ask 8 = .ok (.lreturn, 1) := by decide +kernel
theorem d_S_ask_9 : decode b_S_ask 9 = .ok (.aload_n 0, 1) := by decide +kernel
theorem d_S_ask_10 : decode b_S_ask 10 = .ok (.getfield 32, 3) := by decide +kernel
theorem d_S_ask_13 : decode b_S_ask 13 = .ok (.getfield 51, 3) := by decide +kernel
theorem d_S_ask_16 : decode b_S_ask 16 = .ok (.iconst 0, 1) := by decide +kernel
theorem d_S_ask_17 : decode b_S_ask 17 = .ok (.dup2, 1) := by decide +kernel
theorem d_S_ask_18 : decode b_S_ask 18 = .ok (.iaload, 1) := by decide +kernel
theorem d_S_ask_19 : decode b_S_ask 19 = .ok (.iconst 1, 1) := by decide +kernel
theorem d_S_ask_20 : decode b_S_ask 20 = .ok (.iadd, 1) := by decide +kernel
theorem d_S_ask_21 : decode b_S_ask 21 = .ok (.iastore, 1) := by decide +kernel
theorem d_S_ask_22 : decode b_S_ask 22 = .ok (.aload_n 0, 1) := by decide +kernel
theorem d_S_ask_23 : decode b_S_ask 23 = .ok (.iload_n 2, 1) := by decide +kernel
theorem d_S_ask_24 : decode b_S_ask 24 = .ok (.invokevirtual 47, 3) := by decide +kernel
theorem d_S_ask_27 : decode b_S_ask 27 = .ok (.lstore_n 3, 1) := by decide +kernel
theorem d_S_ask_28 : decode b_S_ask 28 = .ok (.aload_n 1, 1) := by decide +kernel
theorem d_S_ask_29 : decode b_S_ask 29 = .ok (.iload_n 2, 1) := by decide +kernel
theorem d_S_ask_30 : decode b_S_ask 30 = .ok (.lload_n 3, 1) := by decide +kernel
theorem d_S_ask_31 : decode b_S_ask 31 = .ok (.invokevirtual 170, 3) := by decide +kernel
theorem d_S_ask_34 : decode b_S_ask 34 = .ok (.lload_n 3, 1) := by decide +kernel
theorem d_S_ask_35 : decode b_S_ask 35 = .ok (.lreturn, 1) := by decide +kernel
theorem d_S_sum_0 : decode b_S_sum 0 = .ok (.lconst 0, 1) := by decide +kernel
theorem d_S_sum_1 : decode b_S_sum 1 = .ok (.lstore_n 2, 1) := by decide +kernel
theorem d_S_sum_2 : decode b_S_sum 2 = .ok (.iconst 0, 1) := by decide +kernel
theorem d_S_sum_3 : decode b_S_sum 3 = .ok (.istore 4, 2) := by decide +kernel
theorem d_S_sum_5 : decode b_S_sum 5 = .ok (.iload 4, 2) := by decide +kernel
theorem d_S_sum_7 : decode b_S_sum 7 = .ok (.aload_n 0, 1) := by decide +kernel
theorem d_S_sum_8 : decode b_S_sum 8 = .ok (.getfield 28, 3) := by decide +kernel
theorem d_S_sum_11 : decode b_S_sum 11 = .ok (.getfield 174, 3) := by decide +kernel
theorem d_S_sum_14 : decode b_S_sum 14 = .ok (.aload_n 1, 1) := by decide +kernel
theorem d_S_sum_15 : decode b_S_sum 15 = .ok (.getfield 125, 3) := by decide +kernel
theorem d_S_sum_18 : decode b_S_sum 18 = .ok (.iaload, 1) := by decide +kernel
theorem d_S_sum_19 : decode b_S_sum 19 = .ok (.if_icmp .ge 19, 3) := by decide +kernel
theorem d_S_sum_22 : decode b_S_sum 22 = .ok (.lload_n 2, 1) := by decide +kernel
theorem d_S_sum_23 : decode b_S_sum 23 = .ok (.aload_n 0, 1) := by decide +kernel
theorem d_S_sum_24 : decode b_S_sum 24 = .ok (.aload_n 1, 1) := by decide +kernel
theorem d_S_sum_25 : decode b_S_sum 25 = .ok (.iload 4, 2) := by decide +kernel
theorem d_S_sum_27 : decode b_S_sum 27 = .ok (.invokevirtual 134, 3) := by decide +kernel
theorem d_S_sum_30 : decode b_S_sum 30 = .ok (.ladd, 1) := by decide +kernel
theorem d_S_sum_31 : decode b_S_sum 31 = .ok (.lstore_n 2, 1) := by decide +kernel
theorem d_S_sum_32 : decode b_S_sum 32 = .ok (.iinc 4 1, 3) := by decide +kernel
theorem d_S_sum_35 : decode b_S_sum 35 = .ok (.goto (-30), 3) := by decide +kernel
theorem d_S_sum_38 : decode b_S_sum 38 = .ok (.lload_n 2, 1) := by decide +kernel
theorem d_S_sum_39 : decode b_S_sum 39 = .ok (.lreturn, 1) := by decide +kernel
theorem d_S_product_0 : decode b_S_product 0 = .ok (.lconst 1, 1) := by decide +kernel
theorem d_S_product_1 : decode b_S_product 1 = .ok (.lstore_n 2, 1) := by decide +kernel
theorem d_S_product_2 : decode b_S_product 2 = .ok (.iconst 0, 1) := by decide +kernel
theorem d_S_product_3 : decode b_S_product 3 = .ok (.istore 4, 2) := by decide +kernel
theorem d_S_product_5 : decode b_S_product 5 = .ok (.iload 4, 2) := by decide +kernel
theorem d_S_product_7 : decode b_S_product 7 = .ok (.aload_n 0, 1) := by decide +kernel
theorem d_S_product_8 : decode b_S_product 8 = .ok (.getfield 28, 3) := by decide +kernel
theorem d_S_product_11 : decode b_S_product 11 = .ok (.getfield 174, 3) := by decide +kernel
theorem d_S_product_14 : decode b_S_product 14 = .ok (.aload_n 1, 1) := by decide +kernel
theorem d_S_product_15 : decode b_S_product 15 = .ok (.getfield 125, 3) := by decide +kernel
theorem d_S_product_18 : decode b_S_product 18 = .ok (.iaload, 1) := by decide +kernel
theorem d_S_product_19 : decode b_S_product 19 = .ok (.if_icmp .ge 19, 3) := by decide +kernel
theorem d_S_product_22 : decode b_S_product 22 = .ok (.lload_n 2, 1) := by decide +kernel
theorem d_S_product_23 : decode b_S_product 23 = .ok (.aload_n 0, 1) := by decide +kernel
theorem d_S_product_24 : decode b_S_product 24 = .ok (.aload_n 1, 1) := by decide +kernel
theorem d_S_product_25 : decode b_S_product 25 = .ok (.iload 4, 2) := by decide +kernel
theorem d_S_product_27 : decode b_S_product 27 = .ok (.invokevirtual 134, 3) := by decide +kernel
theorem d_S_product_30 : decode b_S_product 30 = .ok (.lmul, 1) := by decide +kernel
theorem d_S_product_31 : decode b_S_product 31 = .ok (.lstore_n 2, 1) := by decide +kernel
theorem d_S_product_32 : decode b_S_product 32 = .ok (.iinc 4 1, 3) := by decide +kernel
theorem d_S_product_35 : decode b_S_product 35 = .ok (.goto (-30), 3) := by decide +kernel
theorem d_S_product_38 : decode b_S_product 38 = .ok (.lload_n 2, 1) := by decide +kernel
theorem d_S_product_39 : decode b_S_product 39 = .ok (.lreturn, 1) := by decide +kernel
theorem d_S_quotient_0 : decode b_S_quotient 0 = .ok (.aload_n 0, 1) := by decide +kernel
theorem d_S_quotient_1 : decode b_S_quotient 1 = .ok (.aload_n 1, 1) := by decide +kernel
theorem d_S_quotient_2 : decode b_S_quotient 2 = .ok (.iconst 0, 1) := by decide +kernel
theorem d_S_quotient_3 : decode b_S_quotient 3 = .ok (.invokevirtual 134, 3) := by decide +kernel
theorem d_S_quotient_6 : decode b_S_quotient 6 = .ok (.lstore_n 2, 1) := by decide +kernel
theorem d_S_quotient_7 : decode b_S_quotient 7 = .ok (.aload_n 0, 1) := by decide +kernel
theorem d_S_quotient_8 : decode b_S_quotient 8 = .ok (.aload_n 1, 1) := by decide +kernel
theorem d_S_quotient_9 : decode b_S_quotient 9 = .ok (.iconst 1, 1) := by decide +kernel
theorem d_S_quotient_10 : decode b_S_quotient 10 = .ok (.invokevirtual 134, 3) := by decide +kernel
theorem d_S_quotient_13 : decode b_S_quotient 13 = .ok (.lstore 4, 2) := by decide +kernel
theorem d_S_quotient_15 : decode b_S_quotient 15 = .ok (.lload 4, 2) := by decide +kernel
theorem d_S_quotient_17 : decode b_S_quotient 17 = .ok (.lconst 0, 1) := by decide +kernel
theorem d_S_quotient_18 : decode b_S_quotient 18 = .ok (.lcmp, 1) := by decide +kernel
theorem d_S_quotient_19 : decode b_S_quotient 19 = .ok (.ifCond .ne 11, 3) := by decide +kernel
theorem d_S_quotient_22 : decode b_S_quotient 22 = .ok (.aload_n 0, 1) := by decide +kernel
theorem d_S_quotient_23 : decode b_S_quotient 23 = .ok (.iconst 2, 1) := by decide +kernel
theorem d_S_quotient_24 : decode b_S_quotient 24 = .ok (.invokevirtual 57, 3) := by decide +kernel
theorem d_S_quotient_27 : decode b_S_quotient 27 = .ok (.goto 7, 3) := by decide +kernel
theorem d_S_quotient_30 : decode b_S_quotient 30 = .ok (.lload_n 2, 1) := by decide +kernel
theorem d_S_quotient_31 : decode b_S_quotient 31 = .ok (.lload 4, 2) := by decide +kernel
theorem d_S_quotient_33 : decode b_S_quotient 33 = .ok (.ldiv, 1) := by decide +kernel
theorem d_S_quotient_34 : decode b_S_quotient 34 = .ok (.lreturn, 1) := by decide +kernel
theorem d_S_rest_0 : decode b_S_rest 0 = .ok (.aload_n 0, 1) := by decide +kernel
theorem d_S_rest_1 : decode b_S_rest 1 = .ok (.aload_n 1, 1) := by decide +kernel
theorem d_S_rest_2 : decode b_S_rest 2 = .ok (.iconst 0, 1) := by decide +kernel
theorem d_S_rest_3 : decode b_S_rest 3 = .ok (.invokevirtual 134, 3) := by decide +kernel
theorem d_S_rest_6 : decode b_S_rest 6 = .ok (.lstore_n 2, 1) := by decide +kernel
theorem d_S_rest_7 : decode b_S_rest 7 = .ok (.aload_n 0, 1) := by decide +kernel
theorem d_S_rest_8 : decode b_S_rest 8 = .ok (.aload_n 1, 1) := by decide +kernel
theorem d_S_rest_9 : decode b_S_rest 9 = .ok (.iconst 1, 1) := by decide +kernel
theorem d_S_rest_10 : decode b_S_rest 10 = .ok (.invokevirtual 134, 3) := by decide +kernel
theorem d_S_rest_13 : decode b_S_rest 13 = .ok (.lstore 4, 2) := by decide +kernel
theorem d_S_rest_15 : decode b_S_rest 15 = .ok (.lload 4, 2) := by decide +kernel
theorem d_S_rest_17 : decode b_S_rest 17 = .ok (.lconst 0, 1) := by decide +kernel
theorem d_S_rest_18 : decode b_S_rest 18 = .ok (.lcmp, 1) := by decide +kernel
theorem d_S_rest_19 : decode b_S_rest 19 = .ok (.ifCond .ne 11, 3) := by decide +kernel
theorem d_S_rest_22 : decode b_S_rest 22 = .ok (.aload_n 0, 1) := by decide +kernel
theorem d_S_rest_23 : decode b_S_rest 23 = .ok (.iconst 2, 1) := by decide +kernel
theorem d_S_rest_24 : decode b_S_rest 24 = .ok (.invokevirtual 57, 3) := by decide +kernel
theorem d_S_rest_27 : decode b_S_rest 27 = .ok (.goto 7, 3) := by decide +kernel
theorem d_S_rest_30 : decode b_S_rest 30 = .ok (.lload_n 2, 1) := by decide +kernel
theorem d_S_rest_31 : decode b_S_rest 31 = .ok (.lload 4, 2) := by decide +kernel
theorem d_S_rest_33 : decode b_S_rest 33 = .ok (.lrem, 1) := by decide +kernel
theorem d_S_rest_34 : decode b_S_rest 34 = .ok (.lreturn, 1) := by decide +kernel
theorem d_S_greatest_0 : decode b_S_greatest 0 = .ok (.aload_n 0, 1) := by decide +kernel
theorem d_S_greatest_1 : decode b_S_greatest 1 = .ok (.getfield 28, 3) := by decide +kernel
theorem d_S_greatest_4 : decode b_S_greatest 4 = .ok (.getfield 174, 3) := by decide +kernel
theorem d_S_greatest_7 : decode b_S_greatest 7 = .ok (.aload_n 1, 1) := by decide +kernel
theorem d_S_greatest_8 : decode b_S_greatest 8 = .ok (.getfield 125, 3) := by decide +kernel
theorem d_S_greatest_11 : decode b_S_greatest 11 = .ok (.iaload, 1) := by decide +kernel
theorem d_S_greatest_12 : decode b_S_greatest 12 = .ok (.ifCond .ne 9, 3) := by decide +kernel
theorem d_S_greatest_15 : decode b_S_greatest 15 = .ok (.aload_n 0, 1) := by decide +kernel
theorem d_S_greatest_16 : decode b_S_greatest 16 = .ok (.iconst 1, 1) := by decide +kernel
theorem d_S_greatest_17 : decode b_S_greatest 17 = .ok (.invokevirtual 57, 3) := by decide +kernel
theorem d_S_greatest_20 : decode b_S_greatest 20 = .ok (.lreturn, 1) := by decide +kernel
theorem d_S_greatest_21 : decode b_S_greatest 21 = .ok (.aload_n 0, 1) := by decide +kernel
theorem d_S_greatest_22 : decode b_S_greatest 22 = .ok (.aload_n 1, 1) := by decide +kernel
theorem d_S_greatest_23 : decode b_S_greatest 23 = .ok (.iconst 0, 1) := by decide +kernel
theorem d_S_greatest_24 : decode b_S_greatest 24 = .ok (.invokevirtual 134, 3) := by decide +kernel
theorem d_S_greatest_27 : decode b_S_greatest 27 = .ok (.lstore_n 2, 1) := by decide +kernel
theorem d_S_greatest_28 : decode b_S_greatest 28 = .ok (.iconst 1, 1) := by decide +kernel
theorem d_S_greatest_29 : decode b_S_greatest 29 = .ok (.istore 4, 2) := by decide +kernel
theorem d_S_greatest_31 : decode b_S_greatest 31 = .ok (.iload 4, 2) := by decide +kernel
theorem d_S_greatest_33 : decode b_S_greatest 33 = .ok (.aload_n 0, 1) := by decide +kernel
theorem d_S_greatest_34 : decode b_S_greatest 34 = .ok (.getfield 28, 3) := by decide +kernel
theorem d_S_greatest_37 : decode b_S_greatest 37 = .ok (.getfield 174, 3) := by decide +kernel
theorem d_S_greatest_40 : decode b_S_greatest 40 = .ok (.aload_n 1, 1) := by decide +kernel
theorem d_S_greatest_41 : decode b_S_greatest 41 = .ok (.getfield 125, 3) := by decide +kernel
theorem d_S_greatest_44 : decode b_S_greatest 44 = .ok (.iaload, 1) := by decide +kernel
theorem d_S_greatest_45 : decode b_S_greatest 45 = .ok (.if_icmp .ge 21, 3) := by decide +kernel
theorem d_S_greatest_48 : decode b_S_greatest 48 = .ok (.lload_n 2, 1) := by decide +kernel
theorem d_S_greatest_49 : decode b_S_greatest 49 = .ok (.aload_n 0, 1) := by decide +kernel
theorem d_S_greatest_50 : decode b_S_greatest 50 = .ok (.aload_n 1, 1) := by decide +kernel
theorem d_S_greatest_51 : decode b_S_greatest 51 = .ok (.iload 4, 2) := by decide +kernel
theorem d_S_greatest_53 : decode b_S_greatest 53 = .ok (.invokevirtual 134, 3) := by decide +kernel
theorem d_S_greatest_56 : decode b_S_greatest 56 = .ok (.invokestatic 177, 3) := by decide +kernel
theorem d_S_greatest_59 : decode b_S_greatest 59 = .ok (.lstore_n 2, 1) := by decide +kernel
theorem d_S_greatest_60 : decode b_S_greatest 60 = .ok (.iinc 4 1, 3) := by decide +kernel
theorem d_S_greatest_63 : decode b_S_greatest 63 = .ok (.goto (-32), 3) := by decide +kernel
theorem d_S_greatest_66 : decode b_S_greatest 66 = .ok (.lload_n 2, 1) := by decide +kernel
theorem d_S_greatest_67 : decode b_S_greatest 67 = .ok (.lreturn, 1) := by decide +kernel
theorem d_S_until_0 : decode b_S_until 0 = .ok (.aload_n 0, 1) := by decide +kernel
theorem d_S_until_1 : decode b_S_until 1 = .ok (.aload_n 1, 1) := by decide +kernel
theorem d_S_until_2 : decode b_S_until 2 = .ok (.iconst 0, 1) := by decide +kernel
theorem d_S_until_3 : decode b_S_until 3 = .ok (.invokevirtual 134, 3) := by decide +kernel
theorem d_S_until_6 : decode b_S_until 6 = .ok (.lstore_n 2, 1) := by decide +kernel
theorem d_S_until_7 : decode b_S_until 7 = .ok (.lload_n 2, 1) := by decide +kernel
theorem d_S_until_8 : decode b_S_until 8 = .ok (.ldc2_w 180, 3) := by decide +kernel
theorem d_S_until_11 : decode b_S_until 11 = .ok (.invokestatic 143, 3) := by decide +kernel
theorem d_S_until_14 : decode b_S_until 14 = .ok (.l2i, 1) := by decide +kernel
theorem d_S_until_15 : decode b_S_until 15 = .ok (.istore 4, 2) := by decide +kernel
theorem d_S_until_17 : decode b_S_until 17 = .ok (.iconst 0, 1) := by decide +kernel
theorem d_S_until_18 : decode b_S_until 18 = .ok (.istore 5, 2) := by decide +kernel
theorem d_S_until_20 : decode b_S_until 20 = .ok (.iload 5, 2) := by decide +kernel
theorem d_S_until_22 : decode b_S_until 22 = .ok (.iload 4, 2) := by decide +kernel
theorem d_S_until_24 : decode b_S_until 24 = .ok (.if_icmp .ge 18, 3) := by decide +kernel
theorem d_S_until_27 : decode b_S_until 27 = .ok (.lload_n 2, 1) := by decide +kernel
theorem d_S_until_28 : decode b_S_until 28 = .ok (.aload_n 0, 1) := by decide +kernel
theorem d_S_until_29 : decode b_S_until 29 = .ok (.aload_n 1, 1) := by decide +kernel
theorem d_S_until_30 : decode b_S_until 30 = .ok (.iconst 1, 1) := by decide +kernel
theorem d_S_until_31 : decode b_S_until 31 = .ok (.invokevirtual 134, 3) := by decide +kernel
theorem d_S_until_34 : decode b_S_until 34 = .ok (.ladd, 1) := by decide +kernel
theorem d_S_until_35 : decode b_S_until 35 = .ok (.lstore_n 2, 1) := by decide +kernel
theorem d_S_until_36 : decode b_S_until 36 = .ok (.iinc 5 1, 3) := by decide +kernel
theorem d_S_until_39 : decode b_S_until 39 = .ok (.goto (-19), 3) := by decide +kernel
theorem d_S_until_42 : decode b_S_until 42 = .ok (.lload_n 2, 1) := by decide +kernel
theorem d_S_until_43 : decode b_S_until 43 = .ok (.lreturn, 1) := by decide +kernel
theorem d_S_limit_0 : decode b_S_limit 0 = .ok (.aload_n 0, 1) := by decide +kernel
theorem d_S_limit_1 : decode b_S_limit 1 = .ok (.aload_n 1, 1) := by decide +kernel
theorem d_S_limit_2 : decode b_S_limit 2 = .ok (.iconst 0, 1) := by decide +kernel
theorem d_S_limit_3 : decode b_S_limit 3 = .ok (.invokevirtual 134, 3) := by decide +kernel
theorem d_S_limit_6 : decode b_S_limit 6 = .ok (.lstore_n 2, 1) := by decide +kernel
theorem d_S_limit_7 : decode b_S_limit 7 = .ok (.aload_n 0, 1) := by decide +kernel
theorem d_S_limit_8 : decode b_S_limit 8 = .ok (.aload_n 1, 1) := by decide +kernel
theorem d_S_limit_9 : decode b_S_limit 9 = .ok (.iconst 1, 1) := by decide +kernel
theorem d_S_limit_10 : decode b_S_limit 10 = .ok (.invokevirtual 134, 3) := by decide +kernel
theorem d_S_limit_13 : decode b_S_limit 13 = .ok (.lstore 4, 2) := by decide +kernel
theorem d_S_limit_15 : decode b_S_limit 15 = .ok (.lload_n 2, 1) := by decide +kernel
theorem d_S_limit_16 : decode b_S_limit 16 = .ok (.lload 4, 2) := by decide +kernel
theorem d_S_limit_18 : decode b_S_limit 18 = .ok (.lcmp, 1) := by decide +kernel
theorem d_S_limit_19 : decode b_S_limit 19 = .ok (.ifCond .le 11, 3) := by decide +kernel
theorem d_S_limit_22 : decode b_S_limit 22 = .ok (.aload_n 0, 1) := by decide +kernel
theorem d_S_limit_23 : decode b_S_limit 23 = .ok (.iconst 3, 1) := by decide +kernel
theorem d_S_limit_24 : decode b_S_limit 24 = .ok (.invokevirtual 57, 3) := by decide +kernel
theorem d_S_limit_27 : decode b_S_limit 27 = .ok (.goto 4, 3) := by decide +kernel
theorem d_S_limit_30 : decode b_S_limit 30 = .ok (.lload_n 2, 1) := by decide +kernel
theorem d_S_limit_31 : decode b_S_limit 31 = .ok (.lreturn, 1) := by decide +kernel
theorem d_T_init_0 : decode b_T_init 0 = .ok (.aload_n 0, 1) := by decide +kernel
theorem d_T_init_1 : decode b_T_init 1 = .ok (.invokespecial 3, 3) := by decide +kernel
theorem d_T_init_4 : decode b_T_init 4 = .ok (.aload_n 0, 1) := by decide +kernel
theorem d_T_init_5 : decode b_T_init 5 = .ok (.iconst 3, 1) := by decide +kernel
theorem d_T_init_6 : decode b_T_init 6 = .ok (.newarray .int, 2) := by decide +kernel
theorem d_T_init_8 : decode b_T_init 8 = .ok (.putfield 9, 3) := by decide +kernel
theorem d_T_init_11 : decode b_T_init 11 = .ok (.aload_n 0, 1) := by decide +kernel
theorem d_T_init_12 : decode b_T_init 12 = .ok (.iconst 3, 1) := by decide +kernel
theorem d_T_init_13 : decode b_T_init 13 = .ok (.newarray .long, 2) := by decide +kernel
theorem d_T_init_15 : decode b_T_init 15 = .ok (.putfield 15, 3) := by decide +kernel
theorem d_T_init_18 : decode b_T_init 18 = .ok (.aload_n 0, 1) := by decide +kernel
theorem d_T_init_19 : decode b_T_init 19 = .ok (.iload_n 1, 1) := by decide +kernel
theorem d_T_init_20 : decode b_T_init 20 = .ok (.putfield 19, 3) := by decide +kernel
theorem d_T_init_23 : decode b_T_init 23 = .ok (.return_, 1) := by decide +kernel
theorem d_T_note_0 : decode b_T_note 0 = .ok (.aload_n 0, 1) := by decide +kernel
theorem d_T_note_1 : decode b_T_note 1 = .ok (.getfield 23, 3) := by decide +kernel
theorem d_T_note_4 : decode b_T_note 4 = .ok (.iconst 3, 1) := by decide +kernel
theorem d_T_note_5 : decode b_T_note 5 = .ok (.if_icmp .ge 41, 3) := by decide +kernel
theorem d_T_note_8 : decode b_T_note 8 = .ok (.aload_n 0, 1) := by decide +kernel
theorem d_T_note_9 : decode b_T_note 9 = .ok (.iload_n 1, 1) := by decide +kernel
theorem d_T_note_10 : decode b_T_note 10 = .ok (.invokevirtual 26, 3) := by decide +kernel
theorem d_T_note_13 : decode b_T_note 13 = .ok (.ifCond .ne 33, 3) := by decide +kernel
theorem d_T_note_16 : decode b_T_note 16 = .ok (.aload_n 0, 1) := by decide +kernel
theorem d_T_note_17 : decode b_T_note 17 = .ok (.getfield 9, 3) := by decide +kernel
theorem d_T_note_20 : decode b_T_note 20 = .ok (.aload_n 0, 1) := by decide +kernel
theorem d_T_note_21 : decode b_T_note 21 = .ok (.getfield 23, 3) := by decide +kernel
theorem d_T_note_24 : decode b_T_note 24 = .ok (.iload_n 1, 1) := by decide +kernel
theorem d_T_note_25 : decode b_T_note 25 = .ok (.iastore, 1) := by decide +kernel
theorem d_T_note_26 : decode b_T_note 26 = .ok (.aload_n 0, 1) := by decide +kernel
theorem d_T_note_27 : decode b_T_note 27 = .ok (.getfield 15, 3) := by decide +kernel
theorem d_T_note_30 : decode b_T_note 30 = .ok (.aload_n 0, 1) := by decide +kernel
theorem d_T_note_31 : decode b_T_note 31 = .ok (.getfield 23, 3) := by decide +kernel
theorem d_T_note_34 : decode b_T_note 34 = .ok (.lload_n 2, 1) := by decide +kernel
theorem d_T_note_35 : decode b_T_note 35 = .ok (.lastore, 1) := by decide +kernel
theorem d_T_note_36 : decode b_T_note 36 = .ok (.aload_n 0, 1) := by decide +kernel
theorem d_T_note_37 : decode b_T_note 37 = .ok (.dup, 1) := by decide +kernel
theorem d_T_note_38 : decode b_T_note 38 = .ok (.getfield 23, 3) := by decide +kernel
theorem d_T_note_41 : decode b_T_note 41 = .ok (.iconst 1, 1) := by decide +kernel
theorem d_T_note_42 : decode b_T_note 42 = .ok (.iadd, 1) := by decide +kernel
theorem d_T_note_43 : decode b_T_note 43 = .ok (.putfield 23, 3) := by decide +kernel
theorem d_T_note_46 : decode b_T_note 46 = .ok (.return_, 1) := by decide +kernel
theorem d_T_has_0 : decode b_T_has 0 = .ok (.iconst 0, 1) := by decide +kernel
theorem d_T_has_1 : decode b_T_has 1 = .ok (.istore_n 2, 1) := by decide +kernel
theorem d_T_has_2 : decode b_T_has 2 = .ok (.iload_n 2, 1) := by decide +kernel
theorem d_T_has_3 : decode b_T_has 3 = .ok (.aload_n 0, 1) := by decide +kernel
theorem d_T_has_4 : decode b_T_has 4 = .ok (.getfield 23, 3) := by decide +kernel
theorem d_T_has_7 : decode b_T_has 7 = .ok (.if_icmp .ge 21, 3) := by decide +kernel
theorem d_T_has_10 : decode b_T_has 10 = .ok (.aload_n 0, 1) := by decide +kernel
theorem d_T_has_11 : decode b_T_has 11 = .ok (.getfield 9, 3) := by decide +kernel
theorem d_T_has_14 : decode b_T_has 14 = .ok (.iload_n 2, 1) := by decide +kernel
theorem d_T_has_15 : decode b_T_has 15 = .ok (.iaload, 1) := by decide +kernel
theorem d_T_has_16 : decode b_T_has 16 = .ok (.iload_n 1, 1) := by decide +kernel
theorem d_T_has_17 : decode b_T_has 17 = .ok (.if_icmp .ne 5, 3) := by decide +kernel
theorem d_T_has_20 : decode b_T_has 20 = .ok (.iconst 1, 1) := by decide +kernel
theorem d_T_has_21 : decode b_T_has 21 = .ok (.ireturn, 1) := by decide +kernel
theorem d_T_has_22 : decode b_T_has 22 = .ok (.iinc 2 1, 3) := by decide +kernel
theorem d_T_has_25 : decode b_T_has 25 = .ok (.goto (-23), 3) := by decide +kernel
theorem d_T_has_28 : decode b_T_has 28 = .ok (.iconst 0, 1) := by decide +kernel
theorem d_T_has_29 : decode b_T_has 29 = .ok (.ireturn, 1) := by decide +kernel
theorem d_B_init_0 : decode b_B_init 0 = .ok (.aload_n 0, 1) := by decide +kernel
theorem d_B_init_1 : decode b_B_init 1 = .ok (.invokespecial 1, 3) := by decide +kernel
theorem d_B_init_4 : decode b_B_init 4 = .ok (.aload_n 0, 1) := by decide +kernel
theorem d_B_init_5 : decode b_B_init 5 = .ok (.new 7, 3) := by decide +kernel
theorem d_B_init_8 : decode b_B_init 8 = .ok (.dup, 1) := by decide +kernel
theorem d_B_init_9 : decode b_B_init 9 = .ok (.invokespecial 9, 3) := by decide +kernel
theorem d_B_init_12 : decode b_B_init 12 = .ok (.putfield 10, 3) := by decide +kernel
theorem d_B_init_15 : decode b_B_init 15 = .ok (.aload_n 0, 1) := by decide +kernel
theorem d_B_init_16 : decode b_B_init 16 = .ok (.new 16, 3) := by decide +kernel
theorem d_B_init_19 : decode b_B_init 19 = .ok (.dup, 1) := by decide +kernel
theorem d_B_init_20 : decode b_B_init 20 = .ok (.invokespecial 18, 3) := by decide +kernel
theorem d_B_init_23 : decode b_B_init 23 = .ok (.putfield 19, 3) := by decide +kernel
theorem d_B_init_26 : decode b_B_init 26 = .ok (.aload_n 0, 1) := by decide +kernel
theorem d_B_init_27 : decode b_B_init 27 = .ok (.new 16, 3) := by decide +kernel
theorem d_B_init_30 : decode b_B_init 30 = .ok (.dup, 1) := by decide +kernel
theorem d_B_init_31 : decode b_B_init 31 = .ok (.invokespecial 18, 3) := by decide +kernel
theorem d_B_init_34 : decode b_B_init 34 = .ok (.putfield 23, 3) := by decide +kernel
theorem d_B_init_37 : decode b_B_init 37 = .ok (.aload_n 0, 1) := by decide +kernel
theorem d_B_init_38 : decode b_B_init 38 = .ok (.new 26, 3) := by decide +kernel
theorem d_B_init_41 : decode b_B_init 41 = .ok (.dup, 1) := by decide +kernel
theorem d_B_init_42 : decode b_B_init 42 = .ok (.aload_n 0, 1) := by decide +kernel
theorem d_B_init_43 : decode b_B_init 43 = .ok (.getfield 10, 3) := by decide +kernel
theorem d_B_init_46 : decode b_B_init 46 = .ok (.aload_n 0, 1) := by decide +kernel
theorem d_B_init_47 : decode b_B_init 47 = .ok (.getfield 19, 3) := by decide +kernel
theorem d_B_init_50 : decode b_B_init 50 = .ok (.invokespecial 28, 3) := by decide +kernel
theorem d_B_init_53 : decode b_B_init 53 = .ok (.putfield 31, 3) := by decide +kernel
theorem d_B_init_56 : decode b_B_init 56 = .ok (.return_, 1) := by decide +kernel
theorem d_B_input_0 : decode b_B_input 0 = .ok (.iload_n 1, 1) := by decide +kernel
theorem d_B_input_1 : decode b_B_input 1 = .ok (.invokestatic 35, 3) := by decide +kernel
theorem d_B_input_4 : decode b_B_input 4 = .ok (.aload_n 0, 1) := by decide +kernel
theorem d_B_input_5 : decode b_B_input 5 = .ok (.getfield 10, 3) := by decide +kernel
theorem d_B_input_8 : decode b_B_input 8 = .ok (.iload_n 1, 1) := by decide +kernel
theorem d_B_input_9 : decode b_B_input 9 = .ok (.lload_n 2, 1) := by decide +kernel
theorem d_B_input_10 : decode b_B_input 10 = .ok (.invokevirtual 39, 3) := by decide +kernel
theorem d_B_input_13 : decode b_B_input 13 = .ok (.ifCond .eq 4, 3) := by decide +kernel
theorem d_B_input_16 : decode b_B_input 16 = .ok (.return_, 1) := by decide +kernel
theorem d_B_input_17 : decode b_B_input 17 = .ok (.aload_n 0, 1) := by decide +kernel
theorem d_B_input_18 : decode b_B_input 18 = .ok (.getfield 10, 3) := by decide +kernel
theorem d_B_input_21 : decode b_B_input 21 = .ok (.iload_n 1, 1) := by decide +kernel
theorem d_B_input_22 : decode b_B_input 22 = .ok (.lload_n 2, 1) := by decide +kernel
theorem d_B_input_23 : decode b_B_input 23 = .ok (.invokevirtual 43, 3) := by decide +kernel
theorem d_B_input_26 : decode b_B_input 26 = .ok (.aload_n 0, 1) := by decide +kernel
theorem d_B_input_27 : decode b_B_input 27 = .ok (.getfield 19, 3) := by decide +kernel
theorem d_B_input_30 : decode b_B_input 30 = .ok (.iload_n 1, 1) := by decide +kernel
theorem d_B_input_31 : decode b_B_input 31 = .ok (.invokevirtual 47, 3) := by decide +kernel
theorem d_B_input_34 : decode b_B_input 34 = .ok (.return_, 1) := by decide +kernel
theorem d_B_task_0 : decode b_B_task 0 = .ok (.iload_n 1, 1) := by decide +kernel
theorem d_B_task_1 : decode b_B_task 1 = .ok (.invokestatic 35, 3) := by decide +kernel
theorem d_B_task_4 : decode b_B_task 4 = .ok (.iload_n 2, 1) := by decide +kernel
theorem d_B_task_5 : decode b_B_task 5 = .ok (.iload_n 3, 1) := by decide +kernel
theorem d_B_task_6 : decode b_B_task 6 = .ok (.iload 4, 2) := by decide +kernel
theorem d_B_task_8 : decode b_B_task 8 = .ok (.iload 5, 2) := by decide +kernel
theorem d_B_task_10 : decode b_B_task 10 = .ok (.invokestatic 50, 3) := by decide +kernel
theorem d_B_task_13 : decode b_B_task 13 = .ok (.aload_n 0, 1) := by decide +kernel
theorem d_B_task_14 : decode b_B_task 14 = .ok (.getfield 10, 3) := by decide +kernel
theorem d_B_task_17 : decode b_B_task 17 = .ok (.iload_n 1, 1) := by decide +kernel
theorem d_B_task_18 : decode b_B_task 18 = .ok (.iload_n 2, 1) := by decide +kernel
theorem d_B_task_19 : decode b_B_task 19 = .ok (.iload_n 3, 1) := by decide +kernel
theorem d_B_task_20 : decode b_B_task 20 = .ok (.iload 4, 2) := by decide +kernel
theorem d_B_task_22 : decode b_B_task 22 = .ok (.iload 5, 2) := by decide +kernel
theorem d_B_task_24 : decode b_B_task 24 = .ok (.invokevirtual 54, 3) := by decide +kernel
theorem d_B_task_27 : decode b_B_task 27 = .ok (.ifCond .eq 4, 3) := by decide +kernel
theorem d_B_task_30 : decode b_B_task 30 = .ok (.return_, 1) := by decide +kernel
theorem d_B_task_31 : decode b_B_task 31 = .ok (.aload_n 0, 1) := by decide +kernel
theorem d_B_task_32 : decode b_B_task 32 = .ok (.getfield 10, 3) := by decide +kernel
theorem d_B_task_35 : decode b_B_task 35 = .ok (.iload_n 1, 1) := by decide +kernel
theorem d_B_task_36 : decode b_B_task 36 = .ok (.iload_n 2, 1) := by decide +kernel
theorem d_B_task_37 : decode b_B_task 37 = .ok (.iload_n 3, 1) := by decide +kernel
theorem d_B_task_38 : decode b_B_task 38 = .ok (.iload 4, 2) := by decide +kernel
theorem d_B_task_40 : decode b_B_task 40 = .ok (.iload 5, 2) := by decide +kernel
theorem d_B_task_42 : decode b_B_task 42 = .ok (.invokevirtual 58, 3) := by decide +kernel
theorem d_B_task_45 : decode b_B_task 45 = .ok (.aload_n 0, 1) := by decide +kernel
theorem d_B_task_46 : decode b_B_task 46 = .ok (.getfield 19, 3) := by decide +kernel
theorem d_B_task_49 : decode b_B_task 49 = .ok (.iload_n 1, 1) := by decide +kernel
theorem d_B_task_50 : decode b_B_task 50 = .ok (.invokevirtual 47, 3) := by decide +kernel
theorem d_B_task_53 : decode b_B_task 53 = .ok (.return_, 1) := by decide +kernel
theorem d_B_remove_0 : decode b_B_remove 0 = .ok (.iload_n 1, 1) := by decide +kernel
theorem d_B_remove_1 : decode b_B_remove 1 = .ok (.invokestatic 35, 3) := by decide +kernel
theorem d_B_remove_4 : decode b_B_remove 4 = .ok (.aload_n 0, 1) := by decide +kernel
theorem d_B_remove_5 : decode b_B_remove 5 = .ok (.getfield 10, 3) := by decide +kernel
theorem d_B_remove_8 : decode b_B_remove 8 = .ok (.getfield 62, 3) := by decide +kernel
theorem d_B_remove_11 : decode b_B_remove 11 = .ok (.iload_n 1, 1) := by decide +kernel
theorem d_B_remove_12 : decode b_B_remove 12 = .ok (.iaload, 1) := by decide +kernel
theorem d_B_remove_13 : decode b_B_remove 13 = .ok (.ifCond .ne 11, 3) := by decide +kernel
theorem d_B_remove_16 : decode b_B_remove 16 = .ok (.new 66, 3) := by decide +kernel
theorem d_B_remove_19 : decode b_B_remove 19 = .ok (.dup, 1) := by decide +kernel
theorem d_B_remove_20 : decode b_B_remove 20 = .ok (.invokespecial 68, 3) := by decide +kernel
theorem d_B_remove_23 : decode b_B_remove 23 = .ok (.athrow, 1) := by decide +kernel
theorem d_B_remove_24 : decode b_B_remove 24 = .ok (.aload_n 0, 1) := by decide +kernel
theorem d_B_remove_25 : decode b_B_remove 25 = .ok (.getfield 10, 3) := by decide +kernel
theorem d_B_remove_28 : decode b_B_remove 28 = .ok (.getfield 62, 3) := by decide +kernel
theorem d_B_remove_31 : decode b_B_remove 31 = .ok (.iload_n 1, 1) := by decide +kernel
theorem d_B_remove_32 : decode b_B_remove 32 = .ok (.iconst 0, 1) := by decide +kernel
theorem d_B_remove_33 : decode b_B_remove 33 = .ok (.iastore, 1) := by decide +kernel
theorem d_B_remove_34 : decode b_B_remove 34 = .ok (.aload_n 0, 1) := by decide +kernel
theorem d_B_remove_35 : decode b_B_remove 35 = .ok (.getfield 19, 3) := by decide +kernel
theorem d_B_remove_38 : decode b_B_remove 38 = .ok (.iload_n 1, 1) := by decide +kernel
theorem d_B_remove_39 : decode b_B_remove 39 = .ok (.invokevirtual 47, 3) := by decide +kernel
theorem d_B_remove_42 : decode b_B_remove 42 = .ok (.return_, 1) := by decide +kernel
theorem d_B_build_0 : decode b_B_build 0 = .ok (.iload_n 1, 1) := by decide +kernel
theorem d_B_build_1 : decode b_B_build 1 = .ok (.invokestatic 69, 3) := by decide +kernel
theorem d_B_build_4 : decode b_B_build 4 = .ok (.iload_n 2, 1) := by decide +kernel
theorem d_B_build_5 : decode b_B_build 5 = .ok (.invokestatic 35, 3) := by decide +kernel
theorem d_B_build_8 : decode b_B_build 8 = .ok (.aload_n 0, 1) := by decide +kernel
theorem d_B_build_9 : decode b_B_build 9 = .ok (.getfield 31, 3) := by decide +kernel
theorem d_B_build_12 : decode b_B_build 12 = .ok (.aload_n 0, 1) := by decide +kernel
theorem d_B_build_13 : decode b_B_build 13 = .ok (.getfield 19, 3) := by decide +kernel
theorem d_B_build_16 : decode b_B_build 16 = .ok (.iload_n 1, 1) := by decide +kernel
theorem d_B_build_17 : decode b_B_build 17 = .ok (.iload_n 2, 1) := by decide +kernel
theorem d_B_build_18 : decode b_B_build 18 = .ok (.invokevirtual 72, 3) := by decide +kernel
theorem d_B_build_21 : decode b_B_build 21 = .ok (.lstore_n 3, 1) := by decide +kernel
theorem d_B_build_22 : decode b_B_build 22 = .ok (.aload_n 0, 1) := by decide +kernel
theorem d_B_build_23 : decode b_B_build 23 = .ok (.getfield 19, 3) := by decide +kernel
theorem d_B_build_26 : decode b_B_build 26 = .ok (.getfield 76, 3) := by decide +kernel
theorem d_B_build_29 : decode b_B_build 29 = .ok (.iconst 5, 1) := by decide +kernel
theorem d_B_build_30 : decode b_B_build 30 = .ok (.dup2, 1) := by decide +kernel
theorem d_B_build_31 : decode b_B_build 31 = .ok (.iaload, 1) := by decide +kernel
theorem d_B_build_32 : decode b_B_build 32 = .ok (.iconst 1, 1) := by decide +kernel
theorem d_B_build_33 : decode b_B_build 33 = .ok (.iadd, 1) := by decide +kernel
theorem d_B_build_34 : decode b_B_build 34 = .ok (.iastore, 1) := by decide +kernel
theorem d_B_build_35 : decode b_B_build 35 = .ok (.aload_n 0, 1) := by decide +kernel
theorem d_B_build_36 : decode b_B_build 36 = .ok (.getfield 31, 3) := by decide +kernel
theorem d_B_build_39 : decode b_B_build 39 = .ok (.invokevirtual 79, 3) := by decide +kernel
theorem d_B_build_42 : decode b_B_build 42 = .ok (.ifCond .eq 17, 3) := by decide +kernel
theorem d_B_build_45 : decode b_B_build 45 = .ok (.aload_n 0, 1) := by decide +kernel
theorem d_B_build_46 : decode b_B_build 46 = .ok (.getfield 19, 3) := by decide +kernel
theorem d_B_build_49 : decode b_B_build 49 = .ok (.getfield 76, 3) := by decide +kernel
theorem d_B_build_52 : decode b_B_build 52 = .ok (.bipush 6, 2) := by decide +kernel
theorem d_B_build_54 : decode b_B_build 54 = .ok (.dup2, 1) := by decide +kernel
theorem d_B_build_55 : decode b_B_build 55 = .ok (.iaload, 1) := by decide +kernel
