theorem d_M_init_0 : decode b_M_init 0 = .ok (.aload_n 0, 1) := by decide +kernel
theorem d_M_init_1 : decode b_M_init 1 = .ok (.invokespecial 3, 3) := by decide +kernel
theorem d_M_init_4 : decode b_M_init 4 = .ok (.aload_n 0, 1) := by decide +kernel
theorem d_M_init_5 : decode b_M_init 5 = .ok (.bipush 24, 2) := by decide +kernel
theorem d_M_init_7 : decode b_M_init 7 = .ok (.anewarray 9, 3) := by decide +kernel
theorem d_M_init_10 : decode b_M_init 10 = .ok (.putfield 11, 3) := by decide +kernel
theorem d_M_init_13 : decode b_M_init 13 = .ok (.aload_n 0, 1) := by decide +kernel
theorem d_M_init_14 : decode b_M_init 14 = .ok (.bipush 16, 2) := by decide +kernel
theorem d_M_init_16 : decode b_M_init 16 = .ok (.anewarray 9, 3) := by decide +kernel
theorem d_M_init_19 : decode b_M_init 19 = .ok (.putfield 17, 3) := by decide +kernel
theorem d_M_init_22 : decode b_M_init 22 = .ok (.aload_n 0, 1) := by decide +kernel
theorem d_M_init_23 : decode b_M_init 23 = .ok (.bipush 11, 2) := by decide +kernel
theorem d_M_init_25 : decode b_M_init 25 = .ok (.newarray .int, 2) := by decide +kernel
theorem d_M_init_27 : decode b_M_init 27 = .ok (.putfield 20, 3) := by decide +kernel
theorem d_M_init_30 : decode b_M_init 30 = .ok (.return_, 1) := by decide +kernel
theorem d_M_becomeCopyOf_0 : decode b_M_becomeCopyOf 0 = .ok (.iconst 0, 1) := by decide +kernel
theorem d_M_becomeCopyOf_1 : decode b_M_becomeCopyOf 1 = .ok (.istore_n 2, 1) := by decide +kernel
theorem d_M_becomeCopyOf_2 : decode b_M_becomeCopyOf 2 = .ok (.iload_n 2, 1) := by decide +kernel
theorem d_M_becomeCopyOf_3 : decode b_M_becomeCopyOf 3 = .ok (.aload_n 0, 1) := by decide +kernel
theorem d_M_becomeCopyOf_4 : decode b_M_becomeCopyOf 4 = .ok (.getfield 11, 3) := by decide +kernel
theorem d_M_becomeCopyOf_7 : decode b_M_becomeCopyOf 7 = .ok (.arraylength, 1) := by decide +kernel
theorem d_M_becomeCopyOf_8 : decode b_M_becomeCopyOf 8 = .ok (.if_icmp .ge 21, 3) := by decide +kernel
theorem d_M_becomeCopyOf_11 : decode b_M_becomeCopyOf 11 = .ok (.aload_n 0, 1) := by decide +kernel
theorem d_M_becomeCopyOf_12 : decode b_M_becomeCopyOf 12 = .ok (.getfield 11, 3) := by decide +kernel
theorem d_M_becomeCopyOf_15 : decode b_M_becomeCopyOf 15 = .ok (.iload_n 2, 1) := by decide +kernel
theorem d_M_becomeCopyOf_16 : decode b_M_becomeCopyOf 16 = .ok (.aload_n 1, 1) := by decide +kernel
theorem d_M_becomeCopyOf_17 : decode b_M_becomeCopyOf 17 = .ok (.getfield 11, 3) := by decide +kernel
theorem d_M_becomeCopyOf_20 : decode b_M_becomeCopyOf 20 = .ok (.iload_n 2, 1) := by decide +kernel
theorem d_M_becomeCopyOf_21 : decode b_M_becomeCopyOf 21 = .ok (.aaload, 1) := by decide +kernel
theorem d_M_becomeCopyOf_22 : decode b_M_becomeCopyOf 22 = .ok (.aastore, 1) := by decide +kernel
theorem d_M_becomeCopyOf_23 : decode b_M_becomeCopyOf 23 = .ok (.iinc 2 1, 3) := by decide +kernel
theorem d_M_becomeCopyOf_26 : decode b_M_becomeCopyOf 26 = .ok (.goto (-24), 3) := by decide +kernel
theorem d_M_becomeCopyOf_29 : decode b_M_becomeCopyOf 29 = .ok (.iconst 0, 1) := by decide +kernel
theorem d_M_becomeCopyOf_30 : decode b_M_becomeCopyOf 30 = .ok (.istore_n 2, 1) := by decide +kernel
theorem d_M_becomeCopyOf_31 : decode b_M_becomeCopyOf 31 = .ok (.iload_n 2, 1) := by decide +kernel
theorem d_M_becomeCopyOf_32 : decode b_M_becomeCopyOf 32 = .ok (.bipush 16, 2) := by decide +kernel
theorem d_M_becomeCopyOf_34 : decode b_M_becomeCopyOf 34 = .ok (.if_icmp .ge 21, 3) := by decide +kernel
theorem d_M_becomeCopyOf_37 : decode b_M_becomeCopyOf 37 = .ok (.aload_n 0, 1) := by decide +kernel
theorem d_M_becomeCopyOf_38 : decode b_M_becomeCopyOf 38 = .ok (.getfield 17, 3) := by decide +kernel
theorem d_M_becomeCopyOf_41 : decode b_M_becomeCopyOf 41 = .ok (.iload_n 2, 1) := by decide +kernel
theorem d_M_becomeCopyOf_42 : decode b_M_becomeCopyOf 42 = .ok (.aload_n 1, 1) := by decide +kernel
theorem d_M_becomeCopyOf_43 : decode b_M_becomeCopyOf 43 = .ok (.getfield 17, 3) := by decide +kernel
theorem d_M_becomeCopyOf_46 : decode b_M_becomeCopyOf 46 = .ok (.iload_n 2, 1) := by decide +kernel
theorem d_M_becomeCopyOf_47 : decode b_M_becomeCopyOf 47 = .ok (.aaload, 1) := by decide +kernel
theorem d_M_becomeCopyOf_48 : decode b_M_becomeCopyOf 48 = .ok (.aastore, 1) := by decide +kernel
theorem d_M_becomeCopyOf_49 : decode b_M_becomeCopyOf 49 = .ok (.iinc 2 1, 3) := by decide +kernel
theorem d_M_becomeCopyOf_52 : decode b_M_becomeCopyOf 52 = .ok (.goto (-21), 3) := by decide +kernel
theorem d_M_becomeCopyOf_55 : decode b_M_becomeCopyOf 55 = .ok (.aload_n 0, 1) := by decide +kernel
theorem d_M_becomeCopyOf_56 : decode b_M_becomeCopyOf 56 = .ok (.aload_n 1, 1) := by decide +kernel
theorem d_M_becomeCopyOf_57 : decode b_M_becomeCopyOf 57 = .ok (.getfield 24, 3) := by decide +kernel
theorem d_M_becomeCopyOf_60 : decode b_M_becomeCopyOf 60 = .ok (.putfield 24, 3) := by decide +kernel
theorem d_M_becomeCopyOf_63 : decode b_M_becomeCopyOf 63 = .ok (.return_, 1) := by decide +kernel
theorem d_M_traceOf_0 : decode b_M_traceOf 0 = .ok (.aload_n 0, 1) := by decide +kernel
theorem d_M_traceOf_1 : decode b_M_traceOf 1 = .ok (.getfield 11, 3) := by decide +kernel
theorem d_M_traceOf_4 : decode b_M_traceOf 4 = .ok (.iload_n 1, 1) := by decide +kernel
theorem d_M_traceOf_5 : decode b_M_traceOf 5 = .ok (.bipush 12, 2) := by decide +kernel
theorem d_M_traceOf_7 : decode b_M_traceOf 7 = .ok (.imul, 1) := by decide +kernel
theorem d_M_traceOf_8 : decode b_M_traceOf 8 = .ok (.iload_n 2, 1) := by decide +kernel
theorem d_M_traceOf_9 : decode b_M_traceOf 9 = .ok (.iadd, 1) := by decide +kernel
theorem d_M_traceOf_10 : decode b_M_traceOf 10 = .ok (.aaload, 1) := by decide +kernel
theorem d_M_traceOf_11 : decode b_M_traceOf 11 = .ok (.areturn, 1) := by decide +kernel
theorem d_M_give_0 : decode b_M_give 0 = .ok (.aload_n 0, 1) := by decide +kernel
theorem d_M_give_1 : decode b_M_give 1 = .ok (.getfield 11, 3) := by decide +kernel
theorem d_M_give_4 : decode b_M_give 4 = .ok (.iload_n 1, 1) := by decide +kernel
theorem d_M_give_5 : decode b_M_give 5 = .ok (.bipush 12, 2) := by decide +kernel
theorem d_M_give_7 : decode b_M_give 7 = .ok (.imul, 1) := by decide +kernel
theorem d_M_give_8 : decode b_M_give 8 = .ok (.aload_n 2, 1) := by decide +kernel
theorem d_M_give_9 : decode b_M_give 9 = .ok (.getfield 28, 3) := by decide +kernel
theorem d_M_give_12 : decode b_M_give 12 = .ok (.iadd, 1) := by decide +kernel
theorem d_M_give_13 : decode b_M_give 13 = .ok (.aload_n 2, 1) := by decide +kernel
theorem d_M_give_14 : decode b_M_give 14 = .ok (.aastore, 1) := by decide +kernel
theorem d_M_give_15 : decode b_M_give 15 = .ok (.return_, 1) := by decide +kernel
theorem d_M_tracesOf_0 : decode b_M_tracesOf 0 = .ok (.iconst 0, 1) := by decide +kernel
theorem d_M_tracesOf_1 : decode b_M_tracesOf 1 = .ok (.istore_n 2, 1) := by decide +kernel
theorem d_M_tracesOf_2 : decode b_M_tracesOf 2 = .ok (.iconst 0, 1) := by decide +kernel
theorem d_M_tracesOf_3 : decode b_M_tracesOf 3 = .ok (.istore_n 3, 1) := by decide +kernel
theorem d_M_tracesOf_4 : decode b_M_tracesOf 4 = .ok (.iload_n 3, 1) := by decide +kernel
theorem d_M_tracesOf_5 : decode b_M_tracesOf 5 = .ok (.bipush 12, 2) := by decide +kernel
theorem d_M_tracesOf_7 : decode b_M_tracesOf 7 = .ok (.if_icmp .ge 21, 3) := by decide +kernel
theorem d_M_tracesOf_10 : decode b_M_tracesOf 10 = .ok (.aload_n 0, 1) := by decide +kernel
theorem d_M_tracesOf_11 : decode b_M_tracesOf 11 = .ok (.iload_n 1, 1) := by decide +kernel
theorem d_M_tracesOf_12 : decode b_M_tracesOf 12 = .ok (.iload_n 3, 1) := by decide +kernel
theorem d_M_tracesOf_13 : decode b_M_tracesOf 13 = .ok (.invokevirtual 31, 3) := by decide +kernel
theorem d_M_tracesOf_16 : decode b_M_tracesOf 16 = .ok (.ifnull 6, 3) := by decide +kernel
theorem d_M_tracesOf_19 : decode b_M_tracesOf 19 = .ok (.iinc 2 1, 3) := by decide +kernel
theorem d_M_tracesOf_22 : decode b_M_tracesOf 22 = .ok (.iinc 3 1, 3) := by decide +kernel
theorem d_M_tracesOf_25 : decode b_M_tracesOf 25 = .ok (.goto (-21), 3) := by decide +kernel
theorem d_M_tracesOf_28 : decode b_M_tracesOf 28 = .ok (.iload_n 2, 1) := by decide +kernel
theorem d_M_tracesOf_29 : decode b_M_tracesOf 29 = .ok (.ireturn, 1) := by decide +kernel
theorem d_M_dropTracesOf_0 : decode b_M_dropTracesOf 0 = .ok (.aload_n 0, 1) := by decide +kernel
theorem d_M_dropTracesOf_1 : decode b_M_dropTracesOf 1 = .ok (.iload_n 1, 1) := by decide +kernel
theorem d_M_dropTracesOf_2 : decode b_M_dropTracesOf 2 = .ok (.invokevirtual 35, 3) := by decide +kernel
theorem d_M_dropTracesOf_5 : decode b_M_dropTracesOf 5 = .ok (.istore_n 2, 1) := by decide +kernel
theorem d_M_dropTracesOf_6 : decode b_M_dropTracesOf 6 = .ok (.iconst 0, 1) := by decide +kernel
theorem d_M_dropTracesOf_7 : decode b_M_dropTracesOf 7 = .ok (.istore_n 3, 1) := by decide +kernel
theorem d_M_dropTracesOf_8 : decode b_M_dropTracesOf 8 = .ok (.iload_n 3, 1) := by decide +kernel
theorem d_M_dropTracesOf_9 : decode b_M_dropTracesOf 9 = .ok (.bipush 12, 2) := by decide +kernel
theorem d_M_dropTracesOf_11 : decode b_M_dropTracesOf 11 = .ok (.if_icmp .ge 21, 3) := by decide +kernel
theorem d_M_dropTracesOf_14 : decode b_M_dropTracesOf 14 = .ok (.aload_n 0, 1) := by decide +kernel
theorem d_M_dropTracesOf_15 : decode b_M_dropTracesOf 15 = .ok (.getfield 11, 3) := by decide +kernel
theorem d_M_dropTracesOf_18 : decode b_M_dropTracesOf 18 = .ok (.iload_n 1, 1) := by decide +kernel
theorem d_M_dropTracesOf_19 : decode b_M_dropTracesOf 19 = .ok (.bipush 12, 2) := by decide +kernel
theorem d_M_dropTracesOf_21 : decode b_M_dropTracesOf 21 = .ok (.imul, 1) := by decide +kernel
theorem d_M_dropTracesOf_22 : decode b_M_dropTracesOf 22 = .ok (.iload_n 3, 1) := by decide +kernel
theorem d_M_dropTracesOf_23 : decode b_M_dropTracesOf 23 = .ok (.iadd, 1) := by decide +kernel
theorem d_M_dropTracesOf_24 : decode b_M_dropTracesOf 24 = .ok (.aconst_null, 1) := by decide +kernel
theorem d_M_dropTracesOf_25 : decode b_M_dropTracesOf 25 = .ok (.aastore, 1) := by decide +kernel
theorem d_M_dropTracesOf_26 : decode b_M_dropTracesOf 26 = .ok (.iinc 3 1, 3) := by decide +kernel
theorem d_M_dropTracesOf_29 : decode b_M_dropTracesOf 29 = .ok (.goto (-21), 3) := by decide +kernel
theorem d_M_dropTracesOf_32 : decode b_M_dropTracesOf 32 = .ok (.iload_n 2, 1) := by decide +kernel
theorem d_M_dropTracesOf_33 : decode b_M_dropTracesOf 33 = .ok (.ireturn, 1) := by decide +kernel
theorem d_M_entryAt_0 : decode b_M_entryAt 0 = .ok (.iload_n 1, 1) := by decide +kernel
theorem d_M_entryAt_1 : decode b_M_entryAt 1 = .ok (.ifCond .lt 11, 3) := by decide +kernel
theorem d_M_entryAt_4 : decode b_M_entryAt 4 = .ok (.iload_n 1, 1) := by decide +kernel
theorem d_M_entryAt_5 : decode b_M_entryAt 5 = .ok (.aload_n 0, 1) := by decide +kernel
theorem d_M_entryAt_6 : decode b_M_entryAt 6 = .ok (.getfield 24, 3) := by decide +kernel
theorem d_M_entryAt_9 : decode b_M_entryAt 9 = .ok (.if_icmp .lt 7, 3) := by decide +kernel
theorem d_M_entryAt_12 : decode b_M_entryAt 12 = .ok (.aconst_null, 1) := by decide +kernel
theorem d_M_entryAt_13 : decode b_M_entryAt 13 = .ok (.goto 9, 3) := by decide +kernel
theorem d_M_entryAt_16 : decode b_M_entryAt 16 = .ok (.aload_n 0, 1) := by decide +kernel
theorem d_M_entryAt_17 : decode b_M_entryAt 17 = .ok (.getfield 17, 3) := by decide +kernel
theorem d_M_entryAt_20 : decode b_M_entryAt 20 = .ok (.iload_n 1, 1) := by decide +kernel
theorem d_M_entryAt_21 : decode b_M_entryAt 21 = .ok (.aaload, 1) := by decide +kernel
theorem d_M_entryAt_22 : decode b_M_entryAt 22 = .ok (.areturn, 1) := by decide +kernel
theorem d_M_append_0 : decode b_M_append 0 = .ok (.aload_n 0, 1) := by decide +kernel
theorem d_M_append_1 : decode b_M_append 1 = .ok (.bipush 15, 2) := by decide +kernel
theorem d_M_append_3 : decode b_M_append 3 = .ok (.invokevirtual 39, 3) := by decide +kernel
theorem d_M_append_6 : decode b_M_append 6 = .ok (.pop, 1) := by decide +kernel
theorem d_M_append_7 : decode b_M_append 7 = .ok (.aload_n 0, 1) := by decide +kernel
theorem d_M_append_8 : decode b_M_append 8 = .ok (.getfield 17, 3) := by decide +kernel
theorem d_M_append_11 : decode b_M_append 11 = .ok (.aload_n 0, 1) := by decide +kernel
theorem d_M_append_12 : decode b_M_append 12 = .ok (.getfield 24, 3) := by decide +kernel
theorem d_M_append_15 : decode b_M_append 15 = .ok (.aload_n 1, 1) := by decide +kernel
theorem d_M_append_16 : decode b_M_append 16 = .ok (.aastore, 1) := by decide +kernel
theorem d_M_append_17 : decode b_M_append 17 = .ok (.aload_n 0, 1) := by decide +kernel
theorem d_M_append_18 : decode b_M_append 18 = .ok (.dup, 1) := by decide +kernel
theorem d_M_append_19 : decode b_M_append 19 = .ok (.getfield 24, 3) := by decide +kernel
theorem d_M_append_22 : decode b_M_append 22 = .ok (.iconst 1, 1) := by decide +kernel
theorem d_M_append_23 : decode b_M_append 23 = .ok (.iadd, 1) := by decide +kernel
theorem d_M_append_24 : decode b_M_append 24 = .ok (.putfield 24, 3) := by decide +kernel
theorem d_M_append_27 : decode b_M_append 27 = .ok (.return_, 1) := by decide +kernel
theorem d_M_cutCacheTo_0 : decode b_M_cutCacheTo 0 = .ok (.aload_n 0, 1) := by decide +kernel
theorem d_M_cutCacheTo_1 : decode b_M_cutCacheTo 1 = .ok (.getfield 24, 3) := by decide +kernel
theorem d_M_cutCacheTo_4 : decode b_M_cutCacheTo 4 = .ok (.iload_n 1, 1) := by decide +kernel
theorem d_M_cutCacheTo_5 : decode b_M_cutCacheTo 5 = .ok (.isub, 1) := by decide +kernel
theorem d_M_cutCacheTo_6 : decode b_M_cutCacheTo 6 = .ok (.istore_n 2, 1) := by decide +kernel
theorem d_M_cutCacheTo_7 : decode b_M_cutCacheTo 7 = .ok (.iload_n 2, 1) := by decide +kernel
theorem d_M_cutCacheTo_8 : decode b_M_cutCacheTo 8 = .ok (.ifCond .gt 5, 3) := by decide +kernel
theorem d_M_cutCacheTo_11 : decode b_M_cutCacheTo 11 = .ok (.iconst 0, 1) := by decide +kernel
theorem d_M_cutCacheTo_12 : decode b_M_cutCacheTo 12 = .ok (.ireturn, 1) := by decide +kernel
theorem d_M_cutCacheTo_13 : decode b_M_cutCacheTo 13 = .ok (.iconst 0, 1) := by decide +kernel
theorem d_M_cutCacheTo_14 : decode b_M_cutCacheTo 14 = .ok (.istore_n 3, 1) := by decide +kernel
theorem d_M_cutCacheTo_15 : decode b_M_cutCacheTo 15 = .ok (.iload_n 3, 1) := by decide +kernel
theorem d_M_cutCacheTo_16 : decode b_M_cutCacheTo 16 = .ok (.iload_n 1, 1) := by decide +kernel
theorem d_M_cutCacheTo_17 : decode b_M_cutCacheTo 17 = .ok (.if_icmp .ge 23, 3) := by decide +kernel
theorem d_M_cutCacheTo_20 : decode b_M_cutCacheTo 20 = .ok (.aload_n 0, 1) := by decide +kernel
theorem d_M_cutCacheTo_21 : decode b_M_cutCacheTo 21 = .ok (.getfield 17, 3) := by decide +kernel
theorem d_M_cutCacheTo_24 : decode b_M_cutCacheTo 24 = .ok (.iload_n 3, 1) := by decide +kernel
theorem d_M_cutCacheTo_25 : decode b_M_cutCacheTo 25 = .ok (.aload_n 0, 1) := by decide +kernel
theorem d_M_cutCacheTo_26 : decode b_M_cutCacheTo 26 = .ok (.getfield 17, 3) := by decide +kernel
theorem d_M_cutCacheTo_29 : decode b_M_cutCacheTo 29 = .ok (.iload_n 3, 1) := by decide +kernel
theorem d_M_cutCacheTo_30 : decode b_M_cutCacheTo 30 = .ok (.iload_n 2, 1) := by decide +kernel
theorem d_M_cutCacheTo_31 : decode b_M_cutCacheTo 31 = .ok (.iadd, 1) := by decide +kernel
theorem d_M_cutCacheTo_32 : decode b_M_cutCacheTo 32 = .ok (.aaload, 1) := by decide +kernel
theorem d_M_cutCacheTo_33 : decode b_M_cutCacheTo 33 = .ok (.aastore, 1) := by decide +kernel
theorem d_M_cutCacheTo_34 : decode b_M_cutCacheTo 34 = .ok (.iinc 3 1, 3) := by decide +kernel
theorem d_M_cutCacheTo_37 : decode b_M_cutCacheTo 37 = .ok (.goto (-22), 3) := by decide +kernel
theorem d_M_cutCacheTo_40 : decode b_M_cutCacheTo 40 = .ok (.aload_n 0, 1) := by decide +kernel
theorem d_M_cutCacheTo_41 : decode b_M_cutCacheTo 41 = .ok (.iload_n 1, 1) := by decide +kernel
theorem d_M_cutCacheTo_42 : decode b_M_cutCacheTo 42 = .ok (.invokevirtual 42, 3) := by decide +kernel
theorem d_M_cutCacheTo_45 : decode b_M_cutCacheTo 45 = .ok (.iload_n 2, 1) := by decide +kernel
theorem d_M_cutCacheTo_46 : decode b_M_cutCacheTo 46 = .ok (.ireturn, 1) := by decide +kernel
theorem d_M_dropKey_0 : decode b_M_dropKey 0 = .ok (.iconst 0, 1) := by decide +kernel
theorem d_M_dropKey_1 : decode b_M_dropKey 1 = .ok (.istore_n 2, 1) := by decide +kernel
theorem d_M_dropKey_2 : decode b_M_dropKey 2 = .ok (.iload_n 2, 1) := by decide +kernel
theorem d_M_dropKey_3 : decode b_M_dropKey 3 = .ok (.iconst 2, 1) := by decide +kernel
theorem d_M_dropKey_4 : decode b_M_dropKey 4 = .ok (.if_icmp .ge 21, 3) := by decide +kernel
theorem d_M_dropKey_7 : decode b_M_dropKey 7 = .ok (.aload_n 0, 1) := by decide +kernel
theorem d_M_dropKey_8 : decode b_M_dropKey 8 = .ok (.getfield 11, 3) := by decide +kernel
theorem d_M_dropKey_11 : decode b_M_dropKey 11 = .ok (.iload_n 2, 1) := by decide +kernel
theorem d_M_dropKey_12 : decode b_M_dropKey 12 = .ok (.bipush 12, 2) := by decide +kernel
theorem d_M_dropKey_14 : decode b_M_dropKey 14 = .ok (.imul, 1) := by decide +kernel
theorem d_M_dropKey_15 : decode b_M_dropKey 15 = .ok (.iload_n 1, 1) := by decide +kernel
theorem d_M_dropKey_16 : decode b_M_dropKey 16 = .ok (.iadd, 1) := by decide +kernel
theorem d_M_dropKey_17 : decode b_M_dropKey 17 = .ok (.aconst_null, 1) := by decide +kernel
theorem d_M_dropKey_18 : decode b_M_dropKey 18 = .ok (.aastore, 1) := by decide +kernel
theorem d_M_dropKey_19 : decode b_M_dropKey 19 = .ok (.iinc 2 1, 3) := by decide +kernel
theorem d_M_dropKey_22 : decode b_M_dropKey 22 = .ok (.goto (-20), 3) := by decide +kernel
theorem d_M_dropKey_25 : decode b_M_dropKey 25 = .ok (.iconst 0, 1) := by decide +kernel
theorem d_M_dropKey_26 : decode b_M_dropKey 26 = .ok (.istore_n 2, 1) := by decide +kernel
theorem d_M_dropKey_27 : decode b_M_dropKey 27 = .ok (.iconst 0, 1) := by decide +kernel
theorem d_M_dropKey_28 : decode b_M_dropKey 28 = .ok (.istore_n 3, 1) := by decide +kernel
theorem d_M_dropKey_29 : decode b_M_dropKey 29 = .ok (.iload_n 3, 1) := by decide +kernel
theorem d_M_dropKey_30 : decode b_M_dropKey 30 = .ok (.aload_n 0, 1) := by decide +kernel
theorem d_M_dropKey_31 : decode b_M_dropKey 31 = .ok (.getfield 24, 3) := by decide +kernel
theorem d_M_dropKey_34 : decode b_M_dropKey 34 = .ok (.if_icmp .ge 41, 3) := by decide +kernel
theorem d_M_dropKey_37 : decode b_M_dropKey 37 = .ok (.aload_n 0, 1) := by decide +kernel
theorem d_M_dropKey_38 : decode b_M_dropKey 38 = .ok (.iload_n 3, 1) := by decide +kernel
theorem d_M_dropKey_39 : decode b_M_dropKey 39 = .ok (.invokevirtual 46, 3) := by decide +kernel
theorem d_M_dropKey_42 : decode b_M_dropKey 42 = .ok (.astore 4, 2) := by decide +kernel
theorem d_M_dropKey_44 : decode b_M_dropKey 44 = .ok (.aload 4, 2) := by decide +kernel
theorem d_M_dropKey_46 : decode b_M_dropKey 46 = .ok (.ifnull 23, 3) := by decide +kernel
theorem d_M_dropKey_49 : decode b_M_dropKey 49 = .ok (.aload 4, 2) := by decide +kernel
theorem d_M_dropKey_51 : decode b_M_dropKey 51 = .ok (.getfield 28, 3) := by decide +kernel
theorem d_M_dropKey_54 : decode b_M_dropKey 54 = .ok (.iload_n 1, 1) := by decide +kernel
theorem d_M_dropKey_55 : decode b_M_dropKey 55 = .ok (.if_icmp .eq 14, 3) := by decide +kernel
theorem d_M_dropKey_58 : decode b_M_dropKey 58 = .ok (.aload_n 0, 1) := by decide +kernel
theorem d_M_dropKey_59 : decode b_M_dropKey 59 = .ok (.getfield 17, 3) := by decide +kernel
theorem d_M_dropKey_62 : decode b_M_dropKey 62 = .ok (.iload_n 2, 1) := by decide +kernel
theorem d_M_dropKey_63 : decode b_M_dropKey 63 = .ok (.aload 4, 2) := by decide +kernel
theorem d_M_dropKey_65 : decode b_M_dropKey 65 = .ok (.aastore, 1) := by decide +kernel
theorem d_M_dropKey_66 : decode b_M_dropKey 66 = .ok (.iinc 2 1, 3) := by decide +kernel
theorem d_M_dropKey_69 : decode b_M_dropKey 69 = .ok (.iinc 3 1, 3) := by decide +kernel
theorem d_M_dropKey_72 : decode b_M_dropKey 72 = .ok (.goto (-43), 3) := by decide +kernel
theorem d_M_dropKey_75 : decode b_M_dropKey 75 = .ok (.aload_n 0, 1) := by decide +kernel
theorem d_M_dropKey_76 : decode b_M_dropKey 76 = .ok (.iload_n 2, 1) := by decide +kernel
theorem d_M_dropKey_77 : decode b_M_dropKey 77 = .ok (.invokevirtual 42, 3) := by decide +kernel
theorem d_M_dropKey_80 : decode b_M_dropKey 80 = .ok (.return_, 1) := by decide +kernel
theorem d_M_clearCacheFrom_0 : decode b_M_clearCacheFrom 0 = .ok (.iload_n 1, 1) := by decide +kernel
theorem d_M_clearCacheFrom_1 : decode b_M_clearCacheFrom 1 = .ok (.istore_n 2, 1) := by decide +kernel
theorem d_M_clearCacheFrom_2 : decode b_M_clearCacheFrom 2 = .ok (.iload_n 2, 1) := by decide +kernel
theorem d_M_clearCacheFrom_3 : decode b_M_clearCacheFrom 3 = .ok (.aload_n 0, 1) := by decide +kernel
theorem d_M_clearCacheFrom_4 : decode b_M_clearCacheFrom 4 = .ok (.getfield 24, 3) := by decide +kernel
theorem d_M_clearCacheFrom_7 : decode b_M_clearCacheFrom 7 = .ok (.if_icmp .ge 16, 3) := by decide +kernel
theorem d_M_clearCacheFrom_10 : decode b_M_clearCacheFrom 10 = .ok (.aload_n 0, 1) := by decide +kernel
theorem d_M_clearCacheFrom_11 : decode b_M_clearCacheFrom 11 = .ok (.getfield 17, 3) := by decide +kernel
theorem d_M_clearCacheFrom_14 : decode b_M_clearCacheFrom 14 = .ok (.iload_n 2, 1) := by decide +kernel
theorem d_M_clearCacheFrom_15 : decode b_M_clearCacheFrom 15 = .ok (.aconst_null, 1) := by decide +kernel
theorem d_M_clearCacheFrom_16 : decode b_M_clearCacheFrom 16 = .ok (.aastore, 1) := by decide +kernel
theorem d_M_clearCacheFrom_17 : decode b_M_clearCacheFrom 17 = .ok (.iinc 2 1, 3) := by decide +kernel
theorem d_M_clearCacheFrom_20 : decode b_M_clearCacheFrom 20 = .ok (.goto (-18), 3) := by decide +kernel
theorem d_M_clearCacheFrom_23 : decode b_M_clearCacheFrom 23 = .ok (.aload_n 0, 1) := by decide +kernel
theorem d_M_clearCacheFrom_24 : decode b_M_clearCacheFrom 24 = .ok (.iload_n 1, 1) := by decide +kernel
theorem d_M_clearCacheFrom_25 : decode b_M_clearCacheFrom 25 = .ok (.putfield 24, 3) := by decide +kernel
theorem d_M_clearCacheFrom_28 : decode b_M_clearCacheFrom 28 = .ok (.return_, 1) := by decide +kernel
theorem d_M_copyEntriesOf_0 : decode b_M_copyEntriesOf 0 = .ok (.iconst 0, 1) := by decide +kernel
theorem d_M_copyEntriesOf_1 : decode b_M_copyEntriesOf 1 = .ok (.istore 4, 2) := by decide +kernel
theorem d_M_copyEntriesOf_3 : decode b_M_copyEntriesOf 3 = .ok (.aload_n 0, 1) := by decide +kernel
theorem d_M_copyEntriesOf_4 : decode b_M_copyEntriesOf 4 = .ok (.getfield 24, 3) := by decide +kernel
theorem d_M_copyEntriesOf_7 : decode b_M_copyEntriesOf 7 = .ok (.iconst 1, 1) := by decide +kernel
theorem d_M_copyEntriesOf_8 : decode b_M_copyEntriesOf 8 = .ok (.isub, 1) := by decide +kernel
theorem d_M_copyEntriesOf_9 : decode b_M_copyEntriesOf 9 = .ok (.istore 5, 2) := by decide +kernel
theorem d_M_copyEntriesOf_11 : decode b_M_copyEntriesOf 11 = .ok (.iload 5, 2) := by decide +kernel
theorem d_M_copyEntriesOf_13 : decode b_M_copyEntriesOf 13 = .ok (.ifCond .lt 42, 3) := by decide +kernel
theorem d_M_copyEntriesOf_16 : decode b_M_copyEntriesOf 16 = .ok (.aload_n 0, 1) := by decide +kernel
theorem d_M_copyEntriesOf_17 : decode b_M_copyEntriesOf 17 = .ok (.iload 5, 2) := by decide +kernel
theorem d_M_copyEntriesOf_19 : decode b_M_copyEntriesOf 19 = .ok (.invokevirtual 46, 3) := by decide +kernel
theorem d_M_copyEntriesOf_22 : decode b_M_copyEntriesOf 22 = .ok (.astore 6, 2) := by decide +kernel
theorem d_M_copyEntriesOf_24 : decode b_M_copyEntriesOf 24 = .ok (.aload 6, 2) := by decide +kernel
theorem d_M_copyEntriesOf_26 : decode b_M_copyEntriesOf 26 = .ok (.ifnull 23, 3) := by decide +kernel
theorem d_M_copyEntriesOf_29 : decode b_M_copyEntriesOf 29 = .ok (.aload 6, 2) := by decide +kernel
theorem d_M_copyEntriesOf_31 : decode b_M_copyEntriesOf 31 = .ok (.getfield 28, 3) := by decide +kernel
theorem d_M_copyEntriesOf_34 : decode b_M_copyEntriesOf 34 = .ok (.iload_n 1, 1) := by decide +kernel
theorem d_M_copyEntriesOf_35 : decode b_M_copyEntriesOf 35 = .ok (.if_icmp .ne 14, 3) := by decide +kernel
theorem d_M_copyEntriesOf_38 : decode b_M_copyEntriesOf 38 = .ok (.aload_n 2, 1) := by decide +kernel
theorem d_M_copyEntriesOf_39 : decode b_M_copyEntriesOf 39 = .ok (.iload_n 3, 1) := by decide +kernel
theorem d_M_copyEntriesOf_40 : decode b_M_copyEntriesOf 40 = .ok (.iload 4, 2) := by decide +kernel
theorem d_M_copyEntriesOf_42 : decode b_M_copyEntriesOf 42 = .ok (.iadd, 1) := by decide +kernel
theorem d_M_copyEntriesOf_43 : decode b_M_copyEntriesOf 43 = .ok (.aload 6, 2) := by decide +kernel
theorem d_M_copyEntriesOf_45 : decode b_M_copyEntriesOf 45 = .ok (.aastore, 1) := by decide +kernel
theorem d_M_copyEntriesOf_46 : decode b_M_copyEntriesOf 46 = .ok (.iinc 4 1, 3) := by decide +kernel
theorem d_M_copyEntriesOf_49 : decode b_M_copyEntriesOf 49 = .ok (.iinc 5 (-1), 3) := by decide +kernel
theorem d_M_copyEntriesOf_52 : decode b_M_copyEntriesOf 52 = .ok (.goto (-41), 3) := by decide +kernel
theorem d_M_copyEntriesOf_55 : decode b_M_copyEntriesOf 55 = .ok (.iload 4, 2) := by decide +kernel
theorem d_M_copyEntriesOf_57 : decode b_M_copyEntriesOf 57 = .ok (.ireturn, 1) := by decide +kernel
theorem d_P_init_0 : decode b_P_init 0 = .ok (.aload_n 0, 1) := by decide +kernel
theorem d_P_init_1 : decode b_P_init 1 = .ok (.invokespecial 3, 3) := by decide +kernel
theorem d_P_init_4 : decode b_P_init 4 = .ok (.aload_n 0, 1) := by decide +kernel
theorem d_P_init_5 : decode b_P_init 5 = .ok (.bipush 12, 2) := by decide +kernel
theorem d_P_init_7 : decode b_P_init 7 = .ok (.newarray .int, 2) := by decide +kernel
theorem d_P_init_9 : decode b_P_init 9 = .ok (.putfield 9, 3) := by decide +kernel
theorem d_P_init_12 : decode b_P_init 12 = .ok (.aload_n 0, 1) := by decide +kernel
theorem d_P_init_13 : decode b_P_init 13 = .ok (.bipush 12, 2) := by decide +kernel
theorem d_P_init_15 : decode b_P_init 15 = .ok (.newarray .long, 2) := by decide +kernel
theorem d_P_init_17 : decode b_P_init 17 = .ok (.putfield 15, 3) := by decide +kernel
theorem d_P_init_20 : decode b_P_init 20 = .ok (.aload_n 0, 1) := by decide +kernel
theorem d_P_init_21 : decode b_P_init 21 = .ok (.bipush 12, 2) := by decide +kernel
theorem d_P_init_23 : decode b_P_init 23 = .ok (.newarray .int, 2) := by decide +kernel
theorem d_P_init_25 : decode b_P_init 25 = .ok (.putfield 19, 3) := by decide +kernel
theorem d_P_init_28 : decode b_P_init 28 = .ok (.aload_n 0, 1) := by decide +kernel
theorem d_P_init_29 : decode b_P_init 29 = .ok (.bipush 12, 2) := by decide +kernel
theorem d_P_init_31 : decode b_P_init 31 = .ok (.iconst 3, 1) := by decide +kernel
theorem d_P_init_32 : decode b_P_init 32 = .ok (.multianewarray 22 2, 4) := by decide +kernel
theorem d_P_init_36 : decode b_P_init 36 = .ok (.putfield 24, 3) := by decide +kernel
theorem d_P_init_39 : decode b_P_init 39 = .ok (.aload_n 0, 1) := by decide +kernel
theorem d_P_init_40 : decode b_P_init 40 = .ok (.bipush 12, 2) := by decide +kernel
theorem d_P_init_42 : decode b_P_init 42 = .ok (.newarray .int, 2) := by decide +kernel
theorem d_P_init_44 : decode b_P_init 44 = .ok (.putfield 27, 3) := by decide +kernel
theorem d_P_init_47 : decode b_P_init 47 = .ok (.return_, 1) := by decide +kernel
theorem d_P_isInput_0 : decode b_P_isInput 0 = .ok (.aload_n 0, 1) := by decide +kernel
theorem d_P_isInput_1 : decode b_P_isInput 1 = .ok (.getfield 9, 3) := by decide +kernel
theorem d_P_isInput_4 : decode b_P_isInput 4 = .ok (.iload_n 1, 1) := by decide +kernel
theorem d_P_isInput_5 : decode b_P_isInput 5 = .ok (.iaload, 1) := by decide +kernel
theorem d_P_isInput_6 : decode b_P_isInput 6 = .ok (.iconst 1, 1) := by decide +kernel
theorem d_P_isInput_7 : decode b_P_isInput 7 = .ok (.if_icmp .ne 18, 3) := by decide +kernel
theorem d_P_isInput_10 : decode b_P_isInput 10 = .ok (.aload_n 0, 1) := by decide +kernel
theorem d_P_isInput_11 : decode b_P_isInput 11 = .ok (.getfield 15, 3) := by decide +kernel
theorem d_P_isInput_14 : decode b_P_isInput 14 = .ok (.iload_n 1, 1) := by decide +kernel
theorem d_P_isInput_15 : decode b_P_isInput 15 = .ok (.laload, 1) := by decide +kernel
theorem d_P_isInput_16 : decode b_P_isInput 16 = .ok (.lload_n 2, 1) := by decide +kernel
theorem d_P_isInput_17 : decode b_P_isInput 17 = .ok (.lcmp, 1) := by decide +kernel
theorem d_P_isInput_18 : decode b_P_isInput 18 = .ok (.ifCond .ne 7, 3) := by decide +kernel
theorem d_P_isInput_21 : decode b_P_isInput 21 = .ok (.iconst 1, 1) := by decide +kernel
theorem d_P_isInput_22 : decode b_P_isInput 22 = .ok (.goto 4, 3) := by decide +kernel
theorem d_P_isInput_25 : decode b_P_isInput 25 = .ok (.iconst 0, 1) := by decide +kernel
theorem d_P_isInput_26 : decode b_P_isInput 26 = .ok (.ireturn, 1) := by decide +kernel
theorem d_P_setInput_0 : decode b_P_setInput 0 = .ok (.aload_n 0, 1) := by decide +kernel
theorem d_P_setInput_1 : decode b_P_setInput 1 = .ok (.getfield 9, 3) := by decide +kernel
theorem d_P_setInput_4 : decode b_P_setInput 4 = .ok (.iload_n 1, 1) := by decide +kernel
theorem d_P_setInput_5 : decode b_P_setInput 5 = .ok (.iconst 1, 1) := by decide +kernel
theorem d_P_setInput_6 : decode b_P_setInput 6 = .ok (.iastore, 1) := by decide +kernel
theorem d_P_setInput_7 : decode b_P_setInput 7 = .ok (.aload_n 0, 1) := by decide +kernel
theorem d_P_setInput_8 : decode b_P_setInput 8 = .ok (.getfield 15, 3) := by decide +kernel
theorem d_P_setInput_11 : decode b_P_setInput 11 = .ok (.iload_n 1, 1) := by decide +kernel
theorem d_P_setInput_12 : decode b_P_setInput 12 = .ok (.lload_n 2, 1) := by decide +kernel
theorem d_P_setInput_13 : decode b_P_setInput 13 = .ok (.lastore, 1) := by decide +kernel
theorem d_P_setInput_14 : decode b_P_setInput 14 = .ok (.return_, 1) := by decide +kernel
theorem d_P_isTask_0 : decode b_P_isTask 0 = .ok (.aload_n 0, 1) := by decide +kernel
theorem d_P_isTask_1 : decode b_P_isTask 1 = .ok (.getfield 24, 3) := by decide +kernel
theorem d_P_isTask_4 : decode b_P_isTask 4 = .ok (.iload_n 1, 1) := by decide +kernel
theorem d_P_isTask_5 : decode b_P_isTask 5 = .ok (.aaload, 1) := by decide +kernel
theorem d_P_isTask_6 : decode b_P_isTask 6 = .ok (.astore 6, 2) := by decide +kernel
theorem d_P_isTask_8 : decode b_P_isTask 8 = .ok (.aload_n 0, 1) := by decide +kernel
theorem d_P_isTask_9 : decode b_P_isTask 9 = .ok (.getfield 9, 3) := by decide +kernel
theorem d_P_isTask_12 : decode b_P_isTask 12 = .ok (.iload_n 1, 1) := by decide +kernel
theorem d_P_isTask_13 : decode b_P_isTask 13 = .ok (.iaload, 1) := by decide +kernel
theorem d_P_isTask_14 : decode b_P_isTask 14 = .ok (.iconst 2, 1) := by decide +kernel
theorem d_P_isTask_15 : decode b_P_isTask 15 = .ok (.if_icmp .ne 43, 3) := by decide +kernel
theorem d_P_isTask_18 : decode b_P_isTask 18 = .ok (.aload_n 0, 1) := by decide +kernel
theorem d_P_isTask_19 : decode b_P_isTask 19 = .ok (.getfield 19, 3) := by decide +kernel
theorem d_P_isTask_22 : decode b_P_isTask 22 = .ok (.iload_n 1, 1) := by decide +kernel
theorem d_P_isTask_23 : decode b_P_isTask 23 = .ok (.iaload, 1) := by decide +kernel
theorem d_P_isTask_24 : decode b_P_isTask 24 = .ok (.iload_n 2, 1) := by decide +kernel
theorem d_P_isTask_25 : decode b_P_isTask 25 = .ok (.if_icmp .ne 33, 3) := by decide +kernel
theorem d_P_isTask_28 : decode b_P_isTask 28 = .ok (.aload 6, 2) := by decide +kernel
theorem d_P_isTask_30 : decode b_P_isTask 30 = .ok (.iconst 0, 1) := by decide +kernel
theorem d_P_isTask_31 : decode b_P_isTask 31 = .ok (.iaload, 1) := by decide +kernel
theorem d_P_isTask_32 : decode b_P_isTask 32 = .ok (.iload_n 3, 1) := by decide +kernel
theorem d_P_isTask_33 : decode b_P_isTask 33 = .ok (.if_icmp .ne 25, 3) := by decide +kernel
theorem d_P_isTask_36 : decode b_P_isTask 36 = .ok (.aload 6, 2) := by decide +kernel
theorem d_P_isTask_38 : decode b_P_isTask 38 = .ok (.iconst 1, 1) := by decide +kernel
theorem d_P_isTask_39 : decode b_P_isTask 39 = .ok (.iaload, 1) := by decide +kernel
theorem d_P_isTask_40 : decode b_P_isTask 40 = .ok (.iload 4, 2) := by decide +kernel
theorem d_P_isTask_42 : decode b_P_isTask 42 = .ok (.if_icmp .ne 16, 3) := by decide +kernel
theorem d_P_isTask_45 : decode b_P_isTask 45 = .ok (.aload 6, 2) := by decide +kernel
theorem d_P_isTask_47 : decode b_P_isTask 47 = .ok (.iconst 2, 1) := by decide +kernel
theorem d_P_isTask_48 : decode b_P_isTask 48 = .ok (.iaload, 1) := by decide +kernel
theorem d_P_isTask_49 : decode b_P_isTask 49 = .ok (.iload 5, 2) := by decide +kernel
theorem d_P_isTask_51 : decode b_P_isTask 51 = .ok (.if_icmp .ne 7, 3) := by decide +kernel
theorem d_P_isTask_54 : decode b_P_isTask 54 = .ok (.iconst 1, 1) := by decide +kernel
theorem d_P_isTask_55 : decode b_P_isTask 55 = .ok (.goto 4, 3) := by decide +kernel
theorem d_P_isTask_58 : decode b_P_isTask 58 = .ok (.iconst 0, 1) := by decide +kernel
theorem d_P_isTask_59 : decode b_P_isTask 59 = .ok (.ireturn, 1) := by decide +kernel
theorem d_P_setTask_0 : decode b_P_setTask 0 = .ok (.aload_n 0, 1) := by decide +kernel
theorem d_P_setTask_1 : decode b_P_setTask 1 = .ok (.getfield 9, 3) := by decide +kernel
theorem d_P_setTask_4 : decode b_P_setTask 4 = .ok (.iload_n 1, 1) := by decide +kernel
theorem d_P_setTask_5 : decode b_P_setTask 5 = .ok (.iconst 2, 1) := by decide +kernel
theorem d_P_setTask_6 : decode b_P_setTask 6 = .ok (.iastore, 1) := by decide +kernel
theorem d_P_setTask_7 : decode b_P_setTask 7 = .ok (.aload_n 0, 1) := by decide +kernel
theorem d_P_setTask_8 : decode b_P_setTask 8 = .ok (.getfield 19, 3) := by decide +kernel
theorem d_P_setTask_11 : decode b_P_setTask 11 = .ok (.iload_n 1, 1) := by decide +kernel
theorem d_P_setTask_12 : decode b_P_setTask 12 = .ok (.iload_n 2, 1) := by decide +kernel
theorem d_P_setTask_13 : decode b_P_setTask 13 = .ok (.iastore, 1) := by decide +kernel
theorem d_P_setTask_14 : decode b_P_setTask 14 = .ok (.aload_n 0, 1) := by decide +kernel
theorem d_P_setTask_15 : decode b_P_setTask 15 = .ok (.getfield 24, 3) := by decide +kernel
theorem d_P_setTask_18 : decode b_P_setTask 18 = .ok (.iload_n 1, 1) := by decide +kernel
theorem d_P_setTask_19 : decode b_P_setTask 19 = .ok (.aaload, 1) := by decide +kernel
theorem d_P_setTask_20 : decode b_P_setTask 20 = .ok (.iconst 0, 1) := by decide +kernel
theorem d_P_setTask_21 : decode b_P_setTask 21 = .ok (.iload_n 3, 1) := by decide +kernel
theorem d_P_setTask_22 : decode b_P_setTask 22 = .ok (.iastore, 1) := by decide +kernel
theorem d_P_setTask_23 : decode b_P_setTask 23 = .ok (.aload_n 0, 1) := by decide +kernel
theorem d_P_setTask_24 : decode b_P_setTask 24 = .ok (.getfield 24, 3) := by decide +kernel
theorem d_P_setTask_27 : decode b_P_setTask 27 = .ok (.iload_n 1, 1) := by decide +kernel
theorem d_P_setTask_28 : decode b_P_setTask 28 = .ok (.aaload, 1) := by decide +kernel
theorem d_P_setTask_29 : decode b_P_setTask 29 = .ok (.iconst 1, 1) := by decide +kernel
theorem d_P_setTask_30 : decode b_P_setTask 30 = .ok (.iload 4, 2) := by decide +kernel
theorem d_P_setTask_32 : decode b_P_setTask 32 = .ok (.iastore, 1) := by decide +kernel
theorem d_P_setTask_33 : decode b_P_setTask 33 = .ok (.aload_n 0, 1) := by decide +kernel
theorem d_P_setTask_34 : decode b_P_setTask 34 = .ok (.getfield 24, 3) := by decide +kernel
theorem d_P_setTask_37 : decode b_P_setTask 37 = .ok (.iload_n 1, 1) := by decide +kernel
theorem d_P_setTask_38 : decode b_P_setTask 38 = .ok (.aaload, 1) := by decide +kernel
theorem d_P_setTask_39 : decode b_P_setTask 39 = .ok (.iconst 2, 1) := by decide +kernel
theorem d_P_setTask_40 : decode b_P_setTask 40 = .ok (.iload 5, 2) := by decide +kernel
theorem d_P_setTask_42 : decode b_P_setTask 42 = .ok (.iastore, 1) := by decide +kernel
theorem d_P_setTask_43 : decode b_P_setTask 43 = .ok (.aload_n 0, 1) := by decide +kernel
theorem d_P_setTask_44 : decode b_P_setTask 44 = .ok (.getfield 27, 3) := by decide +kernel
theorem d_P_setTask_47 : decode b_P_setTask 47 = .ok (.iload_n 1, 1) := by decide +kernel
theorem d_P_setTask_48 : decode b_P_setTask 48 = .ok (.iload_n 3, 1) := by decide +kernel
theorem d_P_setTask_49 : decode b_P_setTask 49 = .ok (.iload 4, 2) := by decide +kernel
theorem d_P_setTask_51 : decode b_P_setTask 51 = .ok (.iload 5, 2) := by decide +kernel
theorem d_P_setTask_53 : decode b_P_setTask 53 = .ok (.invokestatic 30, 3) := by decide +kernel
theorem d_P_setTask_56 : decode b_P_setTask 56 = .ok (.iastore, 1) := by decide +kernel
theorem d_P_setTask_57 : decode b_P_setTask 57 = .ok (.return_, 1) := by decide +kernel
theorem d_S_init_0 : decode b_S_init 0 = .ok (.aload_n 0, 1) := by decide +kernel
theorem d_S_init_1 : decode b_S_init 1 = .ok (.invokespecial 3, 3) := by decide +kernel
theorem d_S_init_4 : decode b_S_init 4 = .ok (.aload_n 0, 1) := by decide +kernel
theorem d_S_init_5 : decode b_S_init 5 = .ok (.bipush 12, 2) := by decide +kernel
theorem d_S_init_7 : decode b_S_init 7 = .ok (.newarray .boolean, 2) := by decide +kernel
theorem d_S_init_9 : decode b_S_init 9 = .ok (.putfield 9, 3) := by decide +kernel
theorem d_S_init_12 : decode b_S_init 12 = .ok (.aload_n 0, 1) := by decide +kernel
theorem d_S_init_13 : decode b_S_init 13 = .ok (.bipush 12, 2) := by decide +kernel
theorem d_S_init_15 : decode b_S_init 15 = .ok (.newarray .boolean, 2) := by decide +kernel
theorem d_S_init_17 : decode b_S_init 17 = .ok (.putfield 15, 3) := by decide +kernel
theorem d_S_init_20 : decode b_S_init 20 = .ok (.aload_n 0, 1) := by decide +kernel
theorem d_S_init_21 : decode b_S_init 21 = .ok (.bipush 12, 2) := by decide +kernel
theorem d_S_init_23 : decode b_S_init 23 = .ok (.newarray .long, 2) := by decide +kernel
theorem d_S_init_25 : decode b_S_init 25 = .ok (.putfield 18, 3) := by decide +kernel
theorem d_S_init_28 : decode b_S_init 28 = .ok (.aload_n 0, 1) := by decide +kernel
theorem d_S_init_29 : decode b_S_init 29 = .ok (.sipush 192, 3) := by decide +kernel
theorem d_S_init_32 : decode b_S_init 32 = .ok (.anewarray 22, 3) := by decide +kernel
theorem d_S_init_35 : decode b_S_init 35 = .ok (.putfield 24, 3) := by decide +kernel
theorem d_S_init_38 : decode b_S_init 38 = .ok (.aload_n 0, 1) := by decide +kernel
theorem d_S_init_39 : decode b_S_init 39 = .ok (.aload_n 1, 1) := by decide +kernel
theorem d_S_init_40 : decode b_S_init 40 = .ok (.putfield 28, 3) := by decide +kernel
theorem d_S_init_43 : decode b_S_init 43 = .ok (.aload_n 0, 1) := by decide +kernel
theorem d_S_init_44 : decode b_S_init 44 = .ok (.aload_n 2, 1) := by decide +kernel
theorem d_S_init_45 : decode b_S_init 45 = .ok (.putfield 32, 3) := by decide +kernel
theorem d_S_init_48 : decode b_S_init 48 = .ok (.return_, 1) := by decide +kernel
theorem d_S_result_0 : decode b_S_result 0 = .ok (.aload_n 0, 1) := by decide +kernel
theorem d_S_result_1 : decode b_S_result 1 = .ok (.aload_n 1, 1) := by decide +kernel
theorem d_S_result_2 : decode b_S_result 2 = .ok (.putfield 32, 3) := by decide +kernel
theorem d_S_result_5 : decode b_S_result 5 = .ok (.aload_n 0, 1) := by decide +kernel
theorem d_S_result_6 : decode b_S_result 6 = .ok (.iload_n 2, 1) := by decide +kernel
theorem d_S_result_7 : decode b_S_result 7 = .ok (.putfield 36, 3) := by decide +kernel
theorem d_S_result_10 : decode b_S_result 10 = .ok (.aload_n 0, 1) := by decide +kernel
theorem d_S_result_11 : decode b_S_result 11 = .ok (.iconst 0, 1) := by decide +kernel
theorem d_S_result_12 : decode b_S_result 12 = .ok (.putfield 40, 3) := by decide +kernel
theorem d_S_result_15 : decode b_S_result 15 = .ok (.aload_n 0, 1) := by decide +kernel
theorem d_S_result_16 : decode b_S_result 16 = .ok (.iconst 0, 1) := by decide +kernel
theorem d_S_result_17 : decode b_S_result 17 = .ok (.putfield 44, 3) := by decide +kernel
theorem d_S_result_20 : decode b_S_result 20 = .ok (.iconst 0, 1) := by decide +kernel
theorem d_S_result_21 : decode b_S_result 21 = .ok (.istore 4, 2) := by decide +kernel
theorem d_S_result_23 : decode b_S_result 23 = .ok (.iload 4, 2) := by decide +kernel
theorem d_S_result_25 : decode b_S_result 25 = .ok (.bipush 12, 2) := by decide +kernel
theorem d_S_result_27 : decode b_S_result 27 = .ok (.if_icmp .ge 25, 3) := by decide +kernel
theorem d_S_result_30 : decode b_S_result 30 = .ok (.aload_n 0, 1) := by decide +kernel
theorem d_S_result_31 : decode b_S_result 31 = .ok (.getfield 9, 3) := by decide +kernel
theorem d_S_result_34 : decode b_S_result 34 = .ok (.iload 4, 2) := by decide +kernel
theorem d_S_result_36 : decode b_S_result 36 = .ok (.iconst 0, 1) := by decide +kernel
theorem d_S_result_37 : decode b_S_result 37 = .ok (.bastore, 1) := by decide +kernel
theorem d_S_result_38 : decode b_S_result 38 = .ok (.aload_n 0, 1) := by decide +kernel
theorem d_S_result_39 : decode b_S_result 39 = .ok (.getfield 15, 3) := by decide +kernel
theorem d_S_result_42 : decode b_S_result 42 = .ok (.iload 4, 2) := by decide +kernel
theorem d_S_result_44 : decode b_S_result 44 = .ok (.iconst 0, 1) := by decide +kernel
theorem d_S_result_45 : decode b_S_result 45 = .ok (.bastore, 1) := by decide +kernel
theorem d_S_result_46 : decode b_S_result 46 = .ok (.iinc 4 1, 3) := by decide +kernel
theorem d_S_result_49 : decode b_S_result 49 = .ok (.goto (-26), 3) := by decide +kernel
theorem d_S_result_52 : decode b_S_result 52 = .ok (.aload_n 0, 1) := by decide +kernel
theorem d_S_result_53 : decode b_S_result 53 = .ok (.iload_n 3, 1) := by decide +kernel
theorem d_S_result_54 : decode b_S_result 54 = .ok (.invokevirtual 47, 3) := by decide +kernel
theorem d_S_result_57 : decode b_S_result 57 = .ok (.lreturn, 1) := by decide +kernel
theorem d_S_hasFailed_0 : decode b_S_hasFailed 0 = .ok (.aload_n 0, 1) := by decide +kernel
theorem d_S_hasFailed_1 : decode b_S_hasFailed 1 = .ok (.getfield 44, 3) := by decide +kernel
theorem d_S_hasFailed_4 : decode b_S_hasFailed 4 = .ok (.ifCond .eq 7, 3) := by decide +kernel
theorem d_S_hasFailed_7 : decode b_S_hasFailed 7 = .ok (.iconst 1, 1) := by decide +kernel
theorem d_S_hasFailed_8 : decode b_S_hasFailed 8 = .ok (.goto 4, 3) := by decide +kernel
theorem d_S_hasFailed_11 : decode b_S_hasFailed 11 = .ok (.iconst 0, 1) := by decide +kernel
theorem d_S_hasFailed_12 : decode b_S_hasFailed 12 = .ok (.ireturn, 1) := by decide +kernel
theorem d_S_fail_0 : decode b_S_fail 0 = .ok (.aload_n 0, 1) := by decide +kernel
theorem d_S_fail_1 : decode b_S_fail 1 = .ok (.getfield 44, 3) := by decide +kernel
theorem d_S_fail_4 : decode b_S_fail 4 = .ok (.ifCond .ne 8, 3) := by decide +kernel
theorem d_S_fail_7 : decode b_S_fail 7 = .ok (.aload_n 0, 1) := by decide +kernel
theorem d_S_fail_8 : decode b_S_fail 8 = .ok (.iload_n 1, 1) := by decide +kernel
theorem d_S_fail_9 : decode b_S_fail 9 = .ok (.putfield 44, 3) := by decide +kernel
theorem d_S_fail_12 : decode b_S_fail 12 = .ok (.lconst 0, 1) := by decide +kernel
theorem d_S_fail_13 : decode b_S_fail 13 = .ok (.lreturn, 1) := by decide +kernel
theorem d_S_valueOf_0 : decode b_S_valueOf 0 = .ok (.aload_n 0, 1) := by decide +kernel
theorem d_S_valueOf_1 : decode b_S_valueOf 1 = .ok (.getfield 9, 3) := by decide +kernel
theorem d_S_valueOf_4 : decode b_S_valueOf 4 = .ok (.iload_n 1, 1) := by decide +kernel
theorem d_S_valueOf_5 : decode b_S_valueOf 5 = .ok (.baload, 1) := by decide +kernel
theorem d_S_valueOf_6 : decode b_S_valueOf 6 = .ok (.ifCond .eq 10, 3) := by decide +kernel
theorem d_S_valueOf_9 : decode b_S_valueOf 9 = .ok (.aload_n 0, 1) := by decide +kernel
theorem d_S_valueOf_10 : decode b_S_valueOf 10 = .ok (.getfield 18, 3) := by decide +kernel
theorem d_S_valueOf_13 : decode b_S_valueOf 13 = .ok (.iload_n 1, 1) := by decide +kernel
theorem d_S_valueOf_14 : decode b_S_valueOf 14 = .ok (.laload, 1) := by decide +kernel
theorem d_S_valueOf_15 : decode b_S_valueOf 15 = .ok (.lreturn, 1) := by decide +kernel
theorem d_S_valueOf_16 : decode b_S_valueOf 16 = .ok (.aload_n 0, 1) := by decide +kernel
theorem d_S_valueOf_17 : decode b_S_valueOf 17 = .ok (.getfield 15, 3) := by decide +kernel
theorem d_S_valueOf_20 : decode b_S_valueOf 20 = .ok (.iload_n 1, 1) := by decide +kernel
theorem d_S_valueOf_21 : decode b_S_valueOf 21 = .ok (.baload, 1) := by decide +kernel
theorem d_S_valueOf_22 : decode b_S_valueOf 22 = .ok (.ifCond .eq 23, 3) := by decide +kernel
theorem d_S_valueOf_25 : decode b_S_valueOf 25 = .ok (.aload_n 0, 1) := by decide +kernel
theorem d_S_valueOf_26 : decode b_S_valueOf 26 = .ok (.getfield 32, 3) := by decide +kernel
theorem d_S_valueOf_29 : decode b_S_valueOf 29 = .ok (.getfield 51, 3) := by decide +kernel
theorem d_S_valueOf_32 : decode b_S_valueOf 32 = .ok (.bipush 10, 2) := by decide +kernel
theorem d_S_valueOf_34 : decode b_S_valueOf 34 = .ok (.dup2, 1) := by decide +kernel
theorem d_S_valueOf_35 : decode b_S_valueOf 35 = .ok (.iaload, 1) := by decide +kernel
theorem d_S_valueOf_36 : decode b_S_valueOf 36 = .ok (.iconst 1, 1) := by decide +kernel
theorem d_S_valueOf_37 : decode b_S_valueOf 37 = .ok (.iadd, 1) := by decide +kernel
theorem d_S_valueOf_38 : decode b_S_valueOf 38 = .ok (.iastore, 1) := by decide +kernel
theorem d_S_valueOf_39 : decode b_S_valueOf 39 = .ok (.aload_n 0, 1) := by decide +kernel
theorem d_S_valueOf_40 : decode b_S_valueOf 40 = .ok (.iconst 3, 1) := by decide +kernel
theorem d_S_valueOf_41 : decode b_S_valueOf 41 = .ok (.invokevirtual 57, 3) := by decide +kernel
theorem d_S_valueOf_44 : decode b_S_valueOf 44 = .ok (.lreturn, 1) := by decide +kernel
theorem d_S_valueOf_45 : decode b_S_valueOf 45 = .ok (.aload_n 0, 1) := by decide +kernel
theorem d_S_valueOf_46 : decode b_S_valueOf 46 = .ok (.getfield 28, 3) := by decide +kernel
theorem d_S_valueOf_49 : decode b_S_valueOf 49 = .ok (.getfield 60, 3) := by decide +kernel
theorem d_S_valueOf_52 : decode b_S_valueOf 52 = .ok (.iload_n 1, 1) := by decide +kernel
theorem d_S_valueOf_53 : decode b_S_valueOf 53 = .ok (.iaload, 1) := by decide +kernel
theorem d_S_valueOf_54 : decode b_S_valueOf 54 = .ok (.ifCond .ne 9, 3) := by decide +kernel
theorem d_S_valueOf_57 : decode b_S_valueOf 57 = .ok (.aload_n 0, 1) := by decide +kernel
theorem d_S_valueOf_58 : decode b_S_valueOf 58 = .ok (.iconst 1, 1) := by decide +kernel
theorem d_S_valueOf_59 : decode b_S_valueOf 59 = .ok (.invokevirtual 57, 3) := by decide +kernel
theorem d_S_valueOf_62 : decode b_S_valueOf 62 = .ok (.lreturn, 1) := by decide +kernel
theorem d_S_valueOf_63 : decode b_S_valueOf 63 = .ok (.aload_n 0, 1) := by decide +kernel
theorem d_S_valueOf_64 : decode b_S_valueOf 64 = .ok (.getfield 28, 3) := by decide +kernel
theorem d_S_valueOf_67 : decode b_S_valueOf 67 = .ok (.getfield 60, 3) := by decide +kernel
theorem d_S_valueOf_70 : decode b_S_valueOf 70 = .ok (.iload_n 1, 1) := by decide +kernel
theorem d_S_valueOf_71 : decode b_S_valueOf 71 = .ok (.iaload, 1) := by decide +kernel
theorem d_S_valueOf_72 : decode b_S_valueOf 72 = .ok (.iconst 1, 1) := by decide +kernel
theorem d_S_valueOf_73 : decode b_S_valueOf 73 = .ok (.if_icmp .ne 18, 3) := by decide +kernel
theorem d_S_valueOf_76 : decode b_S_valueOf 76 = .ok (.aload_n 0, 1) := by decide +kernel
theorem d_S_valueOf_77 : decode b_S_valueOf 77 = .ok (.iload_n 1, 1) := by decide +kernel
theorem d_S_valueOf_78 : decode b_S_valueOf 78 = .ok (.aload_n 0, 1) := by decide +kernel
theorem d_S_valueOf_79 : decode b_S_valueOf 79 = .ok (.getfield 28, 3) := by decide +kernel
theorem d_S_valueOf_82 : decode b_S_valueOf 82 = .ok (.getfield 65, 3) := by decide +kernel
theorem d_S_valueOf_85 : decode b_S_valueOf 85 = .ok (.iload_n 1, 1) := by decide +kernel
theorem d_S_valueOf_86 : decode b_S_valueOf 86 = .ok (.laload, 1) := by decide +kernel
theorem d_S_valueOf_87 : decode b_S_valueOf 87 = .ok (.invokevirtual 66, 3) := by decide +kernel
theorem d_S_valueOf_90 : decode b_S_valueOf 90 = .ok (.lreturn, 1) := by decide +kernel
theorem d_S_valueOf_91 : decode b_S_valueOf 91 = .ok (.aload_n 0, 1) := by decide +kernel
theorem d_S_valueOf_92 : decode b_S_valueOf 92 = .ok (.getfield 15, 3) := by decide +kernel
theorem d_S_valueOf_95 : decode b_S_valueOf 95 = .ok (.iload_n 1, 1) := by decide +kernel
theorem d_S_valueOf_96 : decode b_S_valueOf 96 = .ok (.iconst 1, 1) := by decide +kernel
theorem d_S_valueOf_97 : decode b_S_valueOf 97 = .ok (.bastore, 1) := by decide +kernel
theorem d_S_valueOf_98 : decode b_S_valueOf 98 = .ok (.aload_n 0, 1) := by decide +kernel
theorem d_S_valueOf_99 : decode b_S_valueOf 99 = .ok (.iload_n 1, 1) := by decide +kernel
theorem d_S_valueOf_100 : decode b_S_valueOf 100 = .ok (.invokevirtual 70, 3) := by decide +kernel
theorem d_S_valueOf_103 : decode b_S_valueOf 103 = .ok (.lreturn, 1) := by decide +kernel
theorem d_S_finish_0 : decode b_S_finish 0 = .ok (.aload_n 0, 1) := by decide +kernel
theorem d_S_finish_1 : decode b_S_finish 1 = .ok (.getfield 15, 3) := by decide +kernel
theorem d_S_finish_4 : decode b_S_finish 4 = .ok (.iload_n 1, 1) := by decide +kernel
theorem d_S_finish_5 : decode b_S_finish 5 = .ok (.iconst 0, 1) := by decide +kernel
theorem d_S_finish_6 : decode b_S_finish 6 = .ok (.bastore, 1) := by decide +kernel
theorem d_S_finish_7 : decode b_S_finish 7 = .ok (.aload_n 0, 1) := by decide +kernel
theorem d_S_finish_8 : decode b_S_finish 8 = .ok (.getfield 9, 3) := by decide +kernel
theorem d_S_finish_11 : decode b_S_finish 11 = .ok (.iload_n 1, 1) := by decide +kernel
theorem d_S_finish_12 : decode b_S_finish 12 = .ok (.iconst 1, 1) := by decide +kernel
theorem d_S_finish_13 : decode b_S_finish 13 = .ok (.bastore, 1) := by decide +kernel
theorem d_S_finish_14 : decode b_S_finish 14 = .ok (.aload_n 0, 1) := by decide +kernel
theorem d_S_finish_15 : decode b_S_finish 15 = .ok (.getfield 18, 3) := by decide +kernel
theorem d_S_finish_18 : decode b_S_finish 18 = .ok (.iload_n 1, 1) := by decide +kernel
theorem d_S_finish_19 : decode b_S_finish 19 = .ok (.lload_n 2, 1) := by decide +kernel
theorem d_S_finish_20 : decode b_S_finish 20 = .ok (.lastore, 1) := by decide +kernel
theorem d_S_finish_21 : decode b_S_finish 21 = .ok (.lload_n 2, 1) := by decide +kernel
theorem d_S_finish_22 : decode b_S_finish 22 = .ok (.lreturn, 1) := by decide +kernel
theorem d_S_taskValue_0 : decode b_S_taskValue 0 = .ok (.aload_n 0, 1) := by decide +kernel
theorem d_S_taskValue_1 : decode b_S_taskValue 1 = .ok (.getfield 32, 3) := by decide +kernel
theorem d_S_taskValue_4 : decode b_S_taskValue 4 = .ok (.aload_n 0, 1) := by decide +kernel
theorem d_S_taskValue_5 : decode b_S_taskValue 5 = .ok (.getfield 36, 3) := by decide +kernel
theorem d_S_taskValue_8 : decode b_S_taskValue 8 = .ok (.iload_n 1, 1) := by decide +kernel
theorem d_S_taskValue_9 : decode b_S_taskValue 9 = .ok (.invokevirtual 73, 3) := by decide +kernel
theorem d_S_taskValue_12 : decode b_S_taskValue 12 = .ok (.astore_n 2, 1) := by decide +kernel
theorem d_S_taskValue_13 : decode b_S_taskValue 13 = .ok (.aload_n 2, 1) := by decide +kernel
theorem d_S_taskValue_14 : decode b_S_taskValue 14 = .ok (.ifnull 34, 3) := by decide +kernel
theorem d_S_taskValue_17 : decode b_S_taskValue 17 = .ok (.aload_n 0, 1) := by decide +kernel
theorem d_S_taskValue_18 : decode b_S_taskValue 18 = .ok (.aload_n 2, 1) := by decide +kernel
theorem d_S_taskValue_19 : decode b_S_taskValue 19 = .ok (.invokevirtual 77, 3) := by decide +kernel
theorem d_S_taskValue_22 : decode b_S_taskValue 22 = .ok (.ifCond .eq 26, 3) := by decide +kernel
theorem d_S_taskValue_25 : decode b_S_taskValue 25 = .ok (.aload_n 0, 1) := by decide +kernel
theorem d_S_taskValue_26 : decode b_S_taskValue 26 = .ok (.getfield 32, 3) := by decide +kernel
theorem d_S_taskValue_29 : decode b_S_taskValue 29 = .ok (.getfield 51, 3) := by decide +kernel
theorem d_S_taskValue_32 : decode b_S_taskValue 32 = .ok (.iconst 1, 1) := by decide +kernel
theorem d_S_taskValue_33 : decode b_S_taskValue 33 = .ok (.dup2, 1) := by decide +kernel
theorem d_S_taskValue_34 : decode b_S_taskValue 34 = .ok (.iaload, 1) := by decide +kernel
theorem d_S_taskValue_35 : decode b_S_taskValue 35 = .ok (.iconst 1, 1) := by decide +kernel
theorem d_S_taskValue_36 : decode b_S_taskValue 36 = .ok (.iadd, 1) := by decide +kernel
theorem d_S_taskValue_37 : decode b_S_taskValue 37 = .ok (.iastore, 1) := by decide +kernel
theorem d_S_taskValue_38 : decode b_S_taskValue 38 = .ok (.aload_n 0, 1) := by decide +kernel
theorem d_S_taskValue_39 : decode b_S_taskValue 39 = .ok (.iload_n 1, 1) := by decide +kernel
theorem d_S_taskValue_40 : decode b_S_taskValue 40 = .ok (.aload_n 2, 1) := by decide +kernel
theorem d_S_taskValue_41 : decode b_S_taskValue 41 = .ok (.getfield 81, 3) := by decide +kernel
theorem d_S_taskValue_44 : decode b_S_taskValue 44 = .ok (.invokevirtual 66, 3) := by decide +kernel
theorem d_S_taskValue_47 : decode b_S_taskValue 47 = .ok (.lreturn, 1) := by decide +kernel
theorem d_S_taskValue_48 : decode b_S_taskValue 48 = .ok (.aload_n 0, 1) := by decide +kernel
theorem d_S_taskValue_49 : decode b_S_taskValue 49 = .ok (.iload_n 1, 1) := by decide +kernel
theorem d_S_taskValue_50 : decode b_S_taskValue 50 = .ok (.invokevirtual 85, 3) := by decide +kernel
theorem d_S_taskValue_53 : decode b_S_taskValue 53 = .ok (.astore_n 3, 1) := by decide +kernel
theorem d_S_taskValue_54 : decode b_S_taskValue 54 = .ok (.aload_n 3, 1) := by decide +kernel
theorem d_S_taskValue_55 : decode b_S_taskValue 55 = .ok (.ifnull 38, 3) := by decide +kernel
theorem d_S_taskValue_58 : decode b_S_taskValue 58 = .ok (.aload_n 0, 1) := by decide +kernel
theorem d_S_taskValue_59 : decode b_S_taskValue 59 = .ok (.getfield 32, 3) := by decide +kernel
theorem d_S_taskValue_62 : decode b_S_taskValue 62 = .ok (.getfield 51, 3) := by decide +kernel
theorem d_S_taskValue_65 : decode b_S_taskValue 65 = .ok (.iconst 2, 1) := by decide +kernel
theorem d_S_taskValue_66 : decode b_S_taskValue 66 = .ok (.dup2, 1) := by decide +kernel
theorem d_S_taskValue_67 : decode b_S_taskValue 67 = .ok (.iaload, 1) := by decide +kernel
theorem d_S_taskValue_68 : decode b_S_taskValue 68 = .ok (.iconst 1, 1) := by decide +kernel
theorem d_S_taskValue_69 : decode b_S_taskValue 69 = .ok (.iadd, 1) := by decide +kernel
theorem d_S_taskValue_70 : decode b_S_taskValue 70 = .ok (.iastore, 1) := by decide +kernel
theorem d_S_taskValue_71 : decode b_S_taskValue 71 = .ok (.aload_n 0, 1) := by decide +kernel
theorem d_S_taskValue_72 : decode b_S_taskValue 72 = .ok (.getfield 32, 3) := by decide +kernel
theorem d_S_taskValue_75 : decode b_S_taskValue 75 = .ok (.aload_n 0, 1) := by decide +kernel
theorem d_S_taskValue_76 : decode b_S_taskValue 76 = .ok (.getfield 36, 3) := by decide +kernel
theorem d_S_taskValue_79 : decode b_S_taskValue 79 = .ok (.aload_n 3, 1) := by decide +kernel
theorem d_S_taskValue_80 : decode b_S_taskValue 80 = .ok (.invokevirtual 89, 3) := by decide +kernel
theorem d_S_taskValue_83 : decode b_S_taskValue 83 = .ok (.aload_n 0, 1) := by decide +kernel
theorem d_S_taskValue_84 : decode b_S_taskValue 84 = .ok (.iload_n 1, 1) := by decide +kernel
theorem d_S_taskValue_85 : decode b_S_taskValue 85 = .ok (.aload_n 3, 1) := by decide +kernel
theorem d_S_taskValue_86 : decode b_S_taskValue 86 = .ok (.getfield 81, 3) := by decide +kernel
theorem d_S_taskValue_89 : decode b_S_taskValue 89 = .ok (.invokevirtual 66, 3) := by decide +kernel
