theorem d_B_build_56 : decode b_B_build 56 = .ok (.iconst 1, 1) := by decide +kernel
theorem d_B_build_57 : decode b_B_build 57 = .ok (.iadd, 1) := by decide +kernel
theorem d_B_build_58 : decode b_B_build 58 = .ok (.iastore, 1) := by decide +kernel
theorem d_B_build_59 : decode b_B_build 59 = .ok (.aload_n 0, 1) := by decide +kernel
theorem d_B_build_60 : decode b_B_build 60 = .ok (.getfield 31, 3) := by decide +kernel
theorem d_B_build_63 : decode b_B_build 63 = .ok (.getfield 83, 3) := by decide +kernel
theorem d_B_build_66 : decode b_B_build 66 = .ok (.invokestatic 87, 3) := by decide +kernel
theorem d_B_build_69 : decode b_B_build 69 = .ok (.lload_n 3, 1) := by decide +kernel
theorem d_B_build_70 : decode b_B_build 70 = .ok (.lreturn, 1) := by decide +kernel
theorem d_B_forget_0 : decode b_B_forget 0 = .ok (.iload_n 1, 1) := by decide +kernel
theorem d_B_forget_1 : decode b_B_forget 1 = .ok (.invokestatic 69, 3) := by decide +kernel
theorem d_B_forget_4 : decode b_B_forget 4 = .ok (.aload_n 0, 1) := by decide +kernel
theorem d_B_forget_5 : decode b_B_forget 5 = .ok (.getfield 19, 3) := by decide +kernel
theorem d_B_forget_8 : decode b_B_forget 8 = .ok (.iload_n 1, 1) := by decide +kernel
theorem d_B_forget_9 : decode b_B_forget 9 = .ok (.invokevirtual 90, 3) := by decide +kernel
theorem d_B_forget_12 : decode b_B_forget 12 = .ok (.ireturn, 1) := by decide +kernel
theorem d_B_shrink_0 : decode b_B_shrink 0 = .ok (.iload_n 1, 1) := by decide +kernel
theorem d_B_shrink_1 : decode b_B_shrink 1 = .ok (.ifCond .lt 9, 3) := by decide +kernel
theorem d_B_shrink_4 : decode b_B_shrink 4 = .ok (.iload_n 1, 1) := by decide +kernel
theorem d_B_shrink_5 : decode b_B_shrink 5 = .ok (.bipush 16, 2) := by decide +kernel
theorem d_B_shrink_7 : decode b_B_shrink 7 = .ok (.if_icmp .le 11, 3) := by decide +kernel
theorem d_B_shrink_10 : decode b_B_shrink 10 = .ok (.new 94, 3) := by decide +kernel
theorem d_B_shrink_13 : decode b_B_shrink 13 = .ok (.dup, 1) := by decide +kernel
theorem d_B_shrink_14 : decode b_B_shrink 14 = .ok (.invokespecial 96, 3) := by decide +kernel
theorem d_B_shrink_17 : decode b_B_shrink 17 = .ok (.athrow, 1) := by decide +kernel
theorem d_B_shrink_18 : decode b_B_shrink 18 = .ok (.aload_n 0, 1) := by decide +kernel
theorem d_B_shrink_19 : decode b_B_shrink 19 = .ok (.getfield 19, 3) := by decide +kernel
theorem d_B_shrink_22 : decode b_B_shrink 22 = .ok (.iload_n 1, 1) := by decide +kernel
theorem d_B_shrink_23 : decode b_B_shrink 23 = .ok (.invokevirtual 97, 3) := by decide +kernel
theorem d_B_shrink_26 : decode b_B_shrink 26 = .ok (.ireturn, 1) := by decide +kernel
theorem d_B_trace_0 : decode b_B_trace 0 = .ok (.aload_n 0, 1) := by decide +kernel
theorem d_B_trace_1 : decode b_B_trace 1 = .ok (.iload_n 1, 1) := by decide +kernel
theorem d_B_trace_2 : decode b_B_trace 2 = .ok (.iload_n 2, 1) := by decide +kernel
theorem d_B_trace_3 : decode b_B_trace 3 = .ok (.iload_n 3, 1) := by decide +kernel
theorem d_B_trace_4 : decode b_B_trace 4 = .ok (.invokevirtual 100, 3) := by decide +kernel
theorem d_B_trace_7 : decode b_B_trace 7 = .ok (.astore 4, 2) := by decide +kernel
theorem d_B_trace_9 : decode b_B_trace 9 = .ok (.iload_n 3, 1) := by decide +kernel
theorem d_B_trace_10 : decode b_B_trace 10 = .ok (.iconst (-1), 1) := by decide +kernel
theorem d_B_trace_11 : decode b_B_trace 11 = .ok (.if_icmp .ne 11, 3) := by decide +kernel
theorem d_B_trace_14 : decode b_B_trace 14 = .ok (.aload 4, 2) := by decide +kernel
theorem d_B_trace_16 : decode b_B_trace 16 = .ok (.getfield 104, 3) := by decide +kernel
theorem d_B_trace_19 : decode b_B_trace 19 = .ok (.goto 10, 3) := by decide +kernel
theorem d_B_trace_22 : decode b_B_trace 22 = .ok (.aload 4, 2) := by decide +kernel
theorem d_B_trace_24 : decode b_B_trace 24 = .ok (.getfield 109, 3) := by decide +kernel
theorem d_B_trace_27 : decode b_B_trace 27 = .ok (.iload_n 3, 1) := by decide +kernel
theorem d_B_trace_28 : decode b_B_trace 28 = .ok (.iaload, 1) := by decide +kernel
theorem d_B_trace_29 : decode b_B_trace 29 = .ok (.ireturn, 1) := by decide +kernel
theorem d_B_traced_0 : decode b_B_traced 0 = .ok (.aload_n 0, 1) := by decide +kernel
theorem d_B_traced_1 : decode b_B_traced 1 = .ok (.iload_n 1, 1) := by decide +kernel
theorem d_B_traced_2 : decode b_B_traced 2 = .ok (.iload_n 2, 1) := by decide +kernel
theorem d_B_traced_3 : decode b_B_traced 3 = .ok (.iload_n 3, 1) := by decide +kernel
theorem d_B_traced_4 : decode b_B_traced 4 = .ok (.invokevirtual 100, 3) := by decide +kernel
theorem d_B_traced_7 : decode b_B_traced 7 = .ok (.astore 4, 2) := by decide +kernel
theorem d_B_traced_9 : decode b_B_traced 9 = .ok (.iload_n 3, 1) := by decide +kernel
theorem d_B_traced_10 : decode b_B_traced 10 = .ok (.iconst (-1), 1) := by decide +kernel
theorem d_B_traced_11 : decode b_B_traced 11 = .ok (.if_icmp .ne 11, 3) := by decide +kernel
theorem d_B_traced_14 : decode b_B_traced 14 = .ok (.aload 4, 2) := by decide +kernel
theorem d_B_traced_16 : decode b_B_traced 16 = .ok (.getfield 112, 3) := by decide +kernel
theorem d_B_traced_19 : decode b_B_traced 19 = .ok (.goto 10, 3) := by decide +kernel
theorem d_B_traced_22 : decode b_B_traced 22 = .ok (.aload 4, 2) := by decide +kernel
theorem d_B_traced_24 : decode b_B_traced 24 = .ok (.getfield 115, 3) := by decide +kernel
theorem d_B_traced_27 : decode b_B_traced 27 = .ok (.iload_n 3, 1) := by decide +kernel
theorem d_B_traced_28 : decode b_B_traced 28 = .ok (.laload, 1) := by decide +kernel
theorem d_B_traced_29 : decode b_B_traced 29 = .ok (.lreturn, 1) := by decide +kernel
theorem d_B_stale_0 : decode b_B_stale 0 = .ok (.iload_n 1, 1) := by decide +kernel
theorem d_B_stale_1 : decode b_B_stale 1 = .ok (.invokestatic 69, 3) := by decide +kernel
theorem d_B_stale_4 : decode b_B_stale 4 = .ok (.iload_n 2, 1) := by decide +kernel
theorem d_B_stale_5 : decode b_B_stale 5 = .ok (.invokestatic 35, 3) := by decide +kernel
theorem d_B_stale_8 : decode b_B_stale 8 = .ok (.aload_n 0, 1) := by decide +kernel
theorem d_B_stale_9 : decode b_B_stale 9 = .ok (.getfield 23, 3) := by decide +kernel
theorem d_B_stale_12 : decode b_B_stale 12 = .ok (.aload_n 0, 1) := by decide +kernel
theorem d_B_stale_13 : decode b_B_stale 13 = .ok (.getfield 19, 3) := by decide +kernel
theorem d_B_stale_16 : decode b_B_stale 16 = .ok (.invokevirtual 119, 3) := by decide +kernel
theorem d_B_stale_19 : decode b_B_stale 19 = .ok (.aload_n 0, 1) := by decide +kernel
theorem d_B_stale_20 : decode b_B_stale 20 = .ok (.getfield 31, 3) := by decide +kernel
theorem d_B_stale_23 : decode b_B_stale 23 = .ok (.aload_n 0, 1) := by decide +kernel
theorem d_B_stale_24 : decode b_B_stale 24 = .ok (.getfield 23, 3) := by decide +kernel
theorem d_B_stale_27 : decode b_B_stale 27 = .ok (.iload_n 1, 1) := by decide +kernel
theorem d_B_stale_28 : decode b_B_stale 28 = .ok (.iload_n 2, 1) := by decide +kernel
theorem d_B_stale_29 : decode b_B_stale 29 = .ok (.invokevirtual 72, 3) := by decide +kernel
theorem d_B_stale_32 : decode b_B_stale 32 = .ok (.pop2, 1) := by decide +kernel
theorem d_B_stale_33 : decode b_B_stale 33 = .ok (.aload_n 0, 1) := by decide +kernel
theorem d_B_stale_34 : decode b_B_stale 34 = .ok (.getfield 31, 3) := by decide +kernel
theorem d_B_stale_37 : decode b_B_stale 37 = .ok (.getfield 83, 3) := by decide +kernel
theorem d_B_stale_40 : decode b_B_stale 40 = .ok (.invokestatic 87, 3) := by decide +kernel
theorem d_B_stale_43 : decode b_B_stale 43 = .ok (.aload_n 0, 1) := by decide +kernel
theorem d_B_stale_44 : decode b_B_stale 44 = .ok (.getfield 31, 3) := by decide +kernel
theorem d_B_stale_47 : decode b_B_stale 47 = .ok (.getfield 123, 3) := by decide +kernel
theorem d_B_stale_50 : decode b_B_stale 50 = .ok (.ireturn, 1) := by decide +kernel
theorem d_B_cached_0 : decode b_B_cached 0 = .ok (.aload_n 0, 1) := by decide +kernel
theorem d_B_cached_1 : decode b_B_cached 1 = .ok (.getfield 19, 3) := by decide +kernel
theorem d_B_cached_4 : decode b_B_cached 4 = .ok (.iload_n 1, 1) := by decide +kernel
theorem d_B_cached_5 : decode b_B_cached 5 = .ok (.invokevirtual 127, 3) := by decide +kernel
theorem d_B_cached_8 : decode b_B_cached 8 = .ok (.astore_n 2, 1) := by decide +kernel
theorem d_B_cached_9 : decode b_B_cached 9 = .ok (.aload_n 2, 1) := by decide +kernel
theorem d_B_cached_10 : decode b_B_cached 10 = .ok (.ifnonnull 11, 3) := by decide +kernel
theorem d_B_cached_13 : decode b_B_cached 13 = .ok (.new 66, 3) := by decide +kernel
theorem d_B_cached_16 : decode b_B_cached 16 = .ok (.dup, 1) := by decide +kernel
theorem d_B_cached_17 : decode b_B_cached 17 = .ok (.invokespecial 68, 3) := by decide +kernel
theorem d_B_cached_20 : decode b_B_cached 20 = .ok (.athrow, 1) := by decide +kernel
theorem d_B_cached_21 : decode b_B_cached 21 = .ok (.aload_n 2, 1) := by decide +kernel
theorem d_B_cached_22 : decode b_B_cached 22 = .ok (.getfield 131, 3) := by decide +kernel
theorem d_B_cached_25 : decode b_B_cached 25 = .ok (.ireturn, 1) := by decide +kernel
theorem d_B_count_0 : decode b_B_count 0 = .ok (.iload_n 1, 1) := by decide +kernel
theorem d_B_count_1 : decode b_B_count 1 = .ok (.ifCond .lt 9, 3) := by decide +kernel
theorem d_B_count_4 : decode b_B_count 4 = .ok (.iload_n 1, 1) := by decide +kernel
theorem d_B_count_5 : decode b_B_count 5 = .ok (.bipush 11, 2) := by decide +kernel
theorem d_B_count_7 : decode b_B_count 7 = .ok (.if_icmp .lt 5, 3) := by decide +kernel
theorem d_B_count_10 : decode b_B_count 10 = .ok (.iconst (-1), 1) := by decide +kernel
theorem d_B_count_11 : decode b_B_count 11 = .ok (.ireturn, 1) := by decide +kernel
theorem d_B_count_12 : decode b_B_count 12 = .ok (.iload_n 1, 1) := by decide +kernel
theorem d_B_count_13 : decode b_B_count 13 = .ok (.tableswitch 53 7 9 #[27, 35, 44], 27) := by decide +kernel
theorem d_B_count_40 : decode b_B_count 40 = .ok (.aload_n 0, 1) := by decide +kernel
theorem d_B_count_41 : decode b_B_count 41 = .ok (.getfield 19, 3) := by decide +kernel
theorem d_B_count_44 : decode b_B_count 44 = .ok (.getfield 134, 3) := by decide +kernel
theorem d_B_count_47 : decode b_B_count 47 = .ok (.ireturn, 1) := by decide +kernel
theorem d_B_count_48 : decode b_B_count 48 = .ok (.aload_n 0, 1) := by decide +kernel
theorem d_B_count_49 : decode b_B_count 49 = .ok (.getfield 19, 3) := by decide +kernel
theorem d_B_count_52 : decode b_B_count 52 = .ok (.iconst 0, 1) := by decide +kernel
theorem d_B_count_53 : decode b_B_count 53 = .ok (.invokevirtual 137, 3) := by decide +kernel
theorem d_B_count_56 : decode b_B_count 56 = .ok (.ireturn, 1) := by decide +kernel
theorem d_B_count_57 : decode b_B_count 57 = .ok (.aload_n 0, 1) := by decide +kernel
theorem d_B_count_58 : decode b_B_count 58 = .ok (.getfield 19, 3) := by decide +kernel
theorem d_B_count_61 : decode b_B_count 61 = .ok (.iconst 1, 1) := by decide +kernel
theorem d_B_count_62 : decode b_B_count 62 = .ok (.invokevirtual 137, 3) := by decide +kernel
theorem d_B_count_65 : decode b_B_count 65 = .ok (.ireturn, 1) := by decide +kernel
theorem d_B_count_66 : decode b_B_count 66 = .ok (.aload_n 0, 1) := by decide +kernel
theorem d_B_count_67 : decode b_B_count 67 = .ok (.getfield 19, 3) := by decide +kernel
theorem d_B_count_70 : decode b_B_count 70 = .ok (.getfield 76, 3) := by decide +kernel
theorem d_B_count_73 : decode b_B_count 73 = .ok (.iload_n 1, 1) := by decide +kernel
theorem d_B_count_74 : decode b_B_count 74 = .ok (.iaload, 1) := by decide +kernel
theorem d_B_count_75 : decode b_B_count 75 = .ok (.ireturn, 1) := by decide +kernel
theorem d_B_traceWith_0 : decode b_B_traceWith 0 = .ok (.iload_n 1, 1) := by decide +kernel
theorem d_B_traceWith_1 : decode b_B_traceWith 1 = .ok (.invokestatic 69, 3) := by decide +kernel
theorem d_B_traceWith_4 : decode b_B_traceWith 4 = .ok (.iload_n 2, 1) := by decide +kernel
theorem d_B_traceWith_5 : decode b_B_traceWith 5 = .ok (.invokestatic 35, 3) := by decide +kernel
theorem d_B_traceWith_8 : decode b_B_traceWith 8 = .ok (.aload_n 0, 1) := by decide +kernel
theorem d_B_traceWith_9 : decode b_B_traceWith 9 = .ok (.getfield 19, 3) := by decide +kernel
theorem d_B_traceWith_12 : decode b_B_traceWith 12 = .ok (.iload_n 1, 1) := by decide +kernel
theorem d_B_traceWith_13 : decode b_B_traceWith 13 = .ok (.iload_n 2, 1) := by decide +kernel
theorem d_B_traceWith_14 : decode b_B_traceWith 14 = .ok (.invokevirtual 140, 3) := by decide +kernel
theorem d_B_traceWith_17 : decode b_B_traceWith 17 = .ok (.astore 4, 2) := by decide +kernel
theorem d_B_traceWith_19 : decode b_B_traceWith 19 = .ok (.aload 4, 2) := by decide +kernel
theorem d_B_traceWith_21 : decode b_B_traceWith 21 = .ok (.ifnull 17, 3) := by decide +kernel
theorem d_B_traceWith_24 : decode b_B_traceWith 24 = .ok (.iload_n 3, 1) := by decide +kernel
theorem d_B_traceWith_25 : decode b_B_traceWith 25 = .ok (.iconst (-1), 1) := by decide +kernel
theorem d_B_traceWith_26 : decode b_B_traceWith 26 = .ok (.if_icmp .lt 12, 3) := by decide +kernel
theorem d_B_traceWith_29 : decode b_B_traceWith 29 = .ok (.iload_n 3, 1) := by decide +kernel
theorem d_B_traceWith_30 : decode b_B_traceWith 30 = .ok (.aload 4, 2) := by decide +kernel
theorem d_B_traceWith_32 : decode b_B_traceWith 32 = .ok (.getfield 104, 3) := by decide +kernel
theorem d_B_traceWith_35 : decode b_B_traceWith 35 = .ok (.if_icmp .lt 11, 3) := by decide +kernel
theorem d_B_traceWith_38 : decode b_B_traceWith 38 = .ok (.new 66, 3) := by decide +kernel
theorem d_B_traceWith_41 : decode b_B_traceWith 41 = .ok (.dup, 1) := by decide +kernel
theorem d_B_traceWith_42 : decode b_B_traceWith 42 = .ok (.invokespecial 68, 3) := by decide +kernel
theorem d_B_traceWith_45 : decode b_B_traceWith 45 = .ok (.athrow, 1) := by decide +kernel
theorem d_B_traceWith_46 : decode b_B_traceWith 46 = .ok (.aload 4, 2) := by decide +kernel
theorem d_B_traceWith_48 : decode b_B_traceWith 48 = .ok (.areturn, 1) := by decide +kernel
theorem d_B_refuseBadKey_0 : decode b_B_refuseBadKey 0 = .ok (.iload_n 0, 1) := by decide +kernel
theorem d_B_refuseBadKey_1 : decode b_B_refuseBadKey 1 = .ok (.ifCond .lt 9, 3) := by decide +kernel
theorem d_B_refuseBadKey_4 : decode b_B_refuseBadKey 4 = .ok (.iload_n 0, 1) := by decide +kernel
theorem d_B_refuseBadKey_5 : decode b_B_refuseBadKey 5 = .ok (.bipush 12, 2) := by decide +kernel
theorem d_B_refuseBadKey_7 : decode b_B_refuseBadKey 7 = .ok (.if_icmp .lt 11, 3) := by decide +kernel
theorem d_B_refuseBadKey_10 : decode b_B_refuseBadKey 10 = .ok (.new 94, 3) := by decide +kernel
theorem d_B_refuseBadKey_13 : decode b_B_refuseBadKey 13 = .ok (.dup, 1) := by decide +kernel
theorem d_B_refuseBadKey_14 : decode b_B_refuseBadKey 14 = .ok (.invokespecial 96, 3) := by decide +kernel
theorem d_B_refuseBadKey_17 : decode b_B_refuseBadKey 17 = .ok (.athrow, 1) := by decide +kernel
theorem d_B_refuseBadKey_18 : decode b_B_refuseBadKey 18 = .ok (.return_, 1) := by decide +kernel
theorem d_B_refuseBadWorker_0 : decode b_B_refuseBadWorker 0 = .ok (.iload_n 0, 1) := by decide +kernel
theorem d_B_refuseBadWorker_1 : decode b_B_refuseBadWorker 1 = .ok (.ifCond .lt 8, 3) := by decide +kernel
theorem d_B_refuseBadWorker_4 : decode b_B_refuseBadWorker 4 = .ok (.iload_n 0, 1) := by decide +kernel
theorem d_B_refuseBadWorker_5 : decode b_B_refuseBadWorker 5 = .ok (.iconst 2, 1) := by decide +kernel
theorem d_B_refuseBadWorker_6 : decode b_B_refuseBadWorker 6 = .ok (.if_icmp .lt 11, 3) := by decide +kernel
theorem d_B_refuseBadWorker_9 : decode b_B_refuseBadWorker 9 = .ok (.new 94, 3) := by decide +kernel
theorem d_B_refuseBadWorker_12 : decode b_B_refuseBadWorker 12 = .ok (.dup, 1) := by decide +kernel
theorem d_B_refuseBadWorker_13 : decode b_B_refuseBadWorker 13 = .ok (.invokespecial 96, 3) := by decide +kernel
theorem d_B_refuseBadWorker_16 : decode b_B_refuseBadWorker 16 = .ok (.athrow, 1) := by decide +kernel
theorem d_B_refuseBadWorker_17 : decode b_B_refuseBadWorker 17 = .ok (.return_, 1) := by decide +kernel
theorem d_B_refuseBadTask_0 : decode b_B_refuseBadTask 0 = .ok (.iload_n 0, 1) := by decide +kernel
theorem d_B_refuseBadTask_1 : decode b_B_refuseBadTask 1 = .ok (.ifCond .lt 30, 3) := by decide +kernel
theorem d_B_refuseBadTask_4 : decode b_B_refuseBadTask 4 = .ok (.iload_n 0, 1) := by decide +kernel
theorem d_B_refuseBadTask_5 : decode b_B_refuseBadTask 5 = .ok (.bipush 10, 2) := by decide +kernel
theorem d_B_refuseBadTask_7 : decode b_B_refuseBadTask 7 = .ok (.if_icmp .ge 24, 3) := by decide +kernel
theorem d_B_refuseBadTask_10 : decode b_B_refuseBadTask 10 = .ok (.iload_n 1, 1) := by decide +kernel
theorem d_B_refuseBadTask_11 : decode b_B_refuseBadTask 11 = .ok (.invokestatic 144, 3) := by decide +kernel
theorem d_B_refuseBadTask_14 : decode b_B_refuseBadTask 14 = .ok (.ifCond .eq 17, 3) := by decide +kernel
theorem d_B_refuseBadTask_17 : decode b_B_refuseBadTask 17 = .ok (.iload_n 2, 1) := by decide +kernel
theorem d_B_refuseBadTask_18 : decode b_B_refuseBadTask 18 = .ok (.invokestatic 144, 3) := by decide +kernel
theorem d_B_refuseBadTask_21 : decode b_B_refuseBadTask 21 = .ok (.ifCond .eq 10, 3) := by decide +kernel
theorem d_B_refuseBadTask_24 : decode b_B_refuseBadTask 24 = .ok (.iload_n 3, 1) := by decide +kernel
theorem d_B_refuseBadTask_25 : decode b_B_refuseBadTask 25 = .ok (.invokestatic 144, 3) := by decide +kernel
theorem d_B_refuseBadTask_28 : decode b_B_refuseBadTask 28 = .ok (.ifCond .ne 11, 3) := by decide +kernel
theorem d_B_refuseBadTask_31 : decode b_B_refuseBadTask 31 = .ok (.new 94, 3) := by decide +kernel
theorem d_B_refuseBadTask_34 : decode b_B_refuseBadTask 34 = .ok (.dup, 1) := by decide +kernel
theorem d_B_refuseBadTask_35 : decode b_B_refuseBadTask 35 = .ok (.invokespecial 96, 3) := by decide +kernel
theorem d_B_refuseBadTask_38 : decode b_B_refuseBadTask 38 = .ok (.athrow, 1) := by decide +kernel
theorem d_B_refuseBadTask_39 : decode b_B_refuseBadTask 39 = .ok (.iload_n 1, 1) := by decide +kernel
theorem d_B_refuseBadTask_40 : decode b_B_refuseBadTask 40 = .ok (.iconst (-1), 1) := by decide +kernel
theorem d_B_refuseBadTask_41 : decode b_B_refuseBadTask 41 = .ok (.if_icmp .ne 8, 3) := by decide +kernel
theorem d_B_refuseBadTask_44 : decode b_B_refuseBadTask 44 = .ok (.iload_n 2, 1) := by decide +kernel
theorem d_B_refuseBadTask_45 : decode b_B_refuseBadTask 45 = .ok (.iconst (-1), 1) := by decide +kernel
theorem d_B_refuseBadTask_46 : decode b_B_refuseBadTask 46 = .ok (.if_icmp .ne 13, 3) := by decide +kernel
theorem d_B_refuseBadTask_49 : decode b_B_refuseBadTask 49 = .ok (.iload_n 2, 1) := by decide +kernel
theorem d_B_refuseBadTask_50 : decode b_B_refuseBadTask 50 = .ok (.iconst (-1), 1) := by decide +kernel
theorem d_B_refuseBadTask_51 : decode b_B_refuseBadTask 51 = .ok (.if_icmp .ne 12, 3) := by decide +kernel
theorem d_B_refuseBadTask_54 : decode b_B_refuseBadTask 54 = .ok (.iload_n 3, 1) := by decide +kernel
theorem d_B_refuseBadTask_55 : decode b_B_refuseBadTask 55 = .ok (.iconst (-1), 1) := by decide +kernel
theorem d_B_refuseBadTask_56 : decode b_B_refuseBadTask 56 = .ok (.if_icmp .eq 7, 3) := by decide +kernel
theorem d_B_refuseBadTask_59 : decode b_B_refuseBadTask 59 = .ok (.iconst 1, 1) := by decide +kernel
theorem d_B_refuseBadTask_60 : decode b_B_refuseBadTask 60 = .ok (.goto 4, 3) := by decide +kernel
theorem d_B_refuseBadTask_63 : decode b_B_refuseBadTask 63 = .ok (.iconst 0, 1) := by decide +kernel
theorem d_B_refuseBadTask_64 : decode b_B_refuseBadTask 64 = .ok (.istore 4, 2) := by decide +kernel
theorem d_B_refuseBadTask_66 : decode b_B_refuseBadTask 66 = .ok (.iload 4, 2) := by decide +kernel
theorem d_B_refuseBadTask_68 : decode b_B_refuseBadTask 68 = .ok (.ifCond .ne 17, 3) := by decide +kernel
theorem d_B_refuseBadTask_71 : decode b_B_refuseBadTask 71 = .ok (.iload_n 1, 1) := by decide +kernel
theorem d_B_refuseBadTask_72 : decode b_B_refuseBadTask 72 = .ok (.iload_n 2, 1) := by decide +kernel
theorem d_B_refuseBadTask_73 : decode b_B_refuseBadTask 73 = .ok (.iload_n 3, 1) := by decide +kernel
theorem d_B_refuseBadTask_74 : decode b_B_refuseBadTask 74 = .ok (.invokestatic 148, 3) := by decide +kernel
theorem d_B_refuseBadTask_77 : decode b_B_refuseBadTask 77 = .ok (.getstatic 152, 3) := by decide +kernel
theorem d_B_refuseBadTask_80 : decode b_B_refuseBadTask 80 = .ok (.iload_n 0, 1) := by decide +kernel
theorem d_B_refuseBadTask_81 : decode b_B_refuseBadTask 81 = .ok (.iaload, 1) := by decide +kernel
theorem d_B_refuseBadTask_82 : decode b_B_refuseBadTask 82 = .ok (.if_icmp .ge 11, 3) := by decide +kernel
theorem d_B_refuseBadTask_85 : decode b_B_refuseBadTask 85 = .ok (.new 94, 3) := by decide +kernel
theorem d_B_refuseBadTask_88 : decode b_B_refuseBadTask 88 = .ok (.dup, 1) := by decide +kernel
theorem d_B_refuseBadTask_89 : decode b_B_refuseBadTask 89 = .ok (.invokespecial 96, 3) := by decide +kernel
theorem d_B_refuseBadTask_92 : decode b_B_refuseBadTask 92 = .ok (.athrow, 1) := by decide +kernel
theorem d_B_refuseBadTask_93 : decode b_B_refuseBadTask 93 = .ok (.return_, 1) := by decide +kernel
theorem d_B_isPart_0 : decode b_B_isPart 0 = .ok (.iload_n 0, 1) := by decide +kernel
theorem d_B_isPart_1 : decode b_B_isPart 1 = .ok (.iconst (-1), 1) := by decide +kernel
theorem d_B_isPart_2 : decode b_B_isPart 2 = .ok (.if_icmp .eq 13, 3) := by decide +kernel
theorem d_B_isPart_5 : decode b_B_isPart 5 = .ok (.iload_n 0, 1) := by decide +kernel
theorem d_B_isPart_6 : decode b_B_isPart 6 = .ok (.ifCond .lt 13, 3) := by decide +kernel
theorem d_B_isPart_9 : decode b_B_isPart 9 = .ok (.iload_n 0, 1) := by decide +kernel
theorem d_B_isPart_10 : decode b_B_isPart 10 = .ok (.bipush 12, 2) := by decide +kernel
theorem d_B_isPart_12 : decode b_B_isPart 12 = .ok (.if_icmp .ge 7, 3) := by decide +kernel
theorem d_B_isPart_15 : decode b_B_isPart 15 = .ok (.iconst 1, 1) := by decide +kernel
theorem d_B_isPart_16 : decode b_B_isPart 16 = .ok (.goto 4, 3) := by decide +kernel
theorem d_B_isPart_19 : decode b_B_isPart 19 = .ok (.iconst 0, 1) := by decide +kernel
theorem d_B_isPart_20 : decode b_B_isPart 20 = .ok (.ireturn, 1) := by decide +kernel
theorem d_B_partsAmong_0 : decode b_B_partsAmong 0 = .ok (.iload_n 0, 1) := by decide +kernel
theorem d_B_partsAmong_1 : decode b_B_partsAmong 1 = .ok (.iconst (-1), 1) := by decide +kernel
theorem d_B_partsAmong_2 : decode b_B_partsAmong 2 = .ok (.if_icmp .ne 7, 3) := by decide +kernel
theorem d_B_partsAmong_5 : decode b_B_partsAmong 5 = .ok (.iconst 0, 1) := by decide +kernel
theorem d_B_partsAmong_6 : decode b_B_partsAmong 6 = .ok (.goto 4, 3) := by decide +kernel
theorem d_B_partsAmong_9 : decode b_B_partsAmong 9 = .ok (.iconst 1, 1) := by decide +kernel
theorem d_B_partsAmong_10 : decode b_B_partsAmong 10 = .ok (.iload_n 1, 1) := by decide +kernel
theorem d_B_partsAmong_11 : decode b_B_partsAmong 11 = .ok (.iconst (-1), 1) := by decide +kernel
theorem d_B_partsAmong_12 : decode b_B_partsAmong 12 = .ok (.if_icmp .ne 7, 3) := by decide +kernel
theorem d_B_partsAmong_15 : decode b_B_partsAmong 15 = .ok (.iconst 0, 1) := by decide +kernel
theorem d_B_partsAmong_16 : decode b_B_partsAmong 16 = .ok (.goto 4, 3) := by decide +kernel
theorem d_B_partsAmong_19 : decode b_B_partsAmong 19 = .ok (.iconst 1, 1) := by decide +kernel
theorem d_B_partsAmong_20 : decode b_B_partsAmong 20 = .ok (.iadd, 1) := by decide +kernel
theorem d_B_partsAmong_21 : decode b_B_partsAmong 21 = .ok (.iload_n 2, 1) := by decide +kernel
theorem d_B_partsAmong_22 : decode b_B_partsAmong 22 = .ok (.iconst (-1), 1) := by decide +kernel
theorem d_B_partsAmong_23 : decode b_B_partsAmong 23 = .ok (.if_icmp .ne 7, 3) := by decide +kernel
theorem d_B_partsAmong_26 : decode b_B_partsAmong 26 = .ok (.iconst 0, 1) := by decide +kernel
theorem d_B_partsAmong_27 : decode b_B_partsAmong 27 = .ok (.goto 4, 3) := by decide +kernel
theorem d_B_partsAmong_30 : decode b_B_partsAmong 30 = .ok (.iconst 1, 1) := by decide +kernel
theorem d_B_partsAmong_31 : decode b_B_partsAmong 31 = .ok (.iadd, 1) := by decide +kernel
theorem d_B_partsAmong_32 : decode b_B_partsAmong 32 = .ok (.ireturn, 1) := by decide +kernel
theorem d_B_throwFailure_0 : decode b_B_throwFailure 0 = .ok (.iload_n 0, 1) := by decide +kernel
theorem d_B_throwFailure_1 : decode b_B_throwFailure 1 = .ok (.tableswitch 51 1 3 #[27, 35, 43], 27) := by decide +kernel
theorem d_B_throwFailure_28 : decode b_B_throwFailure 28 = .ok (.new 66, 3) := by decide +kernel
theorem d_B_throwFailure_31 : decode b_B_throwFailure 31 = .ok (.dup, 1) := by decide +kernel
theorem d_B_throwFailure_32 : decode b_B_throwFailure 32 = .ok (.invokespecial 68, 3) := by decide +kernel
theorem d_B_throwFailure_35 : decode b_B_throwFailure 35 = .ok (.athrow, 1) := by decide +kernel
theorem d_B_throwFailure_36 : decode b_B_throwFailure 36 = .ok (.new 155, 3) := by decide +kernel
theorem d_B_throwFailure_39 : decode b_B_throwFailure 39 = .ok (.dup, 1) := by decide +kernel
theorem d_B_throwFailure_40 : decode b_B_throwFailure 40 = .ok (.invokespecial 157, 3) := by decide +kernel
theorem d_B_throwFailure_43 : decode b_B_throwFailure 43 = .ok (.athrow, 1) := by decide +kernel
theorem d_B_throwFailure_44 : decode b_B_throwFailure 44 = .ok (.new 158, 3) := by decide +kernel
theorem d_B_throwFailure_47 : decode b_B_throwFailure 47 = .ok (.dup, 1) := by decide +kernel
theorem d_B_throwFailure_48 : decode b_B_throwFailure 48 = .ok (.invokespecial 160, 3) := by decide +kernel
theorem d_B_throwFailure_51 : decode b_B_throwFailure 51 = .ok (.athrow, 1) := by decide +kernel
theorem d_B_throwFailure_52 : decode b_B_throwFailure 52 = .ok (.return_, 1) := by decide +kernel
theorem d_D_init_0 : decode b_D_init 0 = .ok (.aload_n 0, 1) := by decide +kernel
theorem d_D_init_1 : decode b_D_init 1 = .ok (.invokespecial 1, 3) := by decide +kernel
theorem d_D_init_4 : decode b_D_init 4 = .ok (.aload_n 0, 1) := by decide +kernel
theorem d_D_init_5 : decode b_D_init 5 = .ok (.bipush 12, 2) := by decide +kernel
theorem d_D_init_7 : decode b_D_init 7 = .ok (.newarray .int, 2) := by decide +kernel
theorem d_D_init_9 : decode b_D_init 9 = .ok (.putfield 7, 3) := by decide +kernel
theorem d_D_init_12 : decode b_D_init 12 = .ok (.aload_n 0, 1) := by decide +kernel
theorem d_D_init_13 : decode b_D_init 13 = .ok (.bipush 12, 2) := by decide +kernel
theorem d_D_init_15 : decode b_D_init 15 = .ok (.newarray .int, 2) := by decide +kernel
theorem d_D_init_17 : decode b_D_init 17 = .ok (.putfield 13, 3) := by decide +kernel
theorem d_D_init_20 : decode b_D_init 20 = .ok (.aload_n 0, 1) := by decide +kernel
theorem d_D_init_21 : decode b_D_init 21 = .ok (.bipush 36, 2) := by decide +kernel
theorem d_D_init_23 : decode b_D_init 23 = .ok (.newarray .int, 2) := by decide +kernel
theorem d_D_init_25 : decode b_D_init 25 = .ok (.putfield 16, 3) := by decide +kernel
theorem d_D_init_28 : decode b_D_init 28 = .ok (.aload_n 0, 1) := by decide +kernel
theorem d_D_init_29 : decode b_D_init 29 = .ok (.bipush 12, 2) := by decide +kernel
theorem d_D_init_31 : decode b_D_init 31 = .ok (.newarray .long, 2) := by decide +kernel
theorem d_D_init_33 : decode b_D_init 33 = .ok (.putfield 19, 3) := by decide +kernel
theorem d_D_init_36 : decode b_D_init 36 = .ok (.aload_n 0, 1) := by decide +kernel
theorem d_D_init_37 : decode b_D_init 37 = .ok (.sipush 320, 3) := by decide +kernel
theorem d_D_init_40 : decode b_D_init 40 = .ok (.newarray .int, 2) := by decide +kernel
theorem d_D_init_42 : decode b_D_init 42 = .ok (.putfield 23, 3) := by decide +kernel
theorem d_D_init_45 : decode b_D_init 45 = .ok (.aload_n 0, 1) := by decide +kernel
theorem d_D_init_46 : decode b_D_init 46 = .ok (.sipush 3840, 3) := by decide +kernel
theorem d_D_init_49 : decode b_D_init 49 = .ok (.newarray .int, 2) := by decide +kernel
theorem d_D_init_51 : decode b_D_init 51 = .ok (.putfield 26, 3) := by decide +kernel
theorem d_D_init_54 : decode b_D_init 54 = .ok (.aload_n 0, 1) := by decide +kernel
theorem d_D_init_55 : decode b_D_init 55 = .ok (.sipush 320, 3) := by decide +kernel
theorem d_D_init_58 : decode b_D_init 58 = .ok (.newarray .int, 2) := by decide +kernel
theorem d_D_init_60 : decode b_D_init 60 = .ok (.putfield 29, 3) := by decide +kernel
theorem d_D_init_63 : decode b_D_init 63 = .ok (.aload_n 0, 1) := by decide +kernel
theorem d_D_init_64 : decode b_D_init 64 = .ok (.sipush 3840, 3) := by decide +kernel
theorem d_D_init_67 : decode b_D_init 67 = .ok (.newarray .long, 2) := by decide +kernel
theorem d_D_init_69 : decode b_D_init 69 = .ok (.putfield 32, 3) := by decide +kernel
theorem d_D_init_72 : decode b_D_init 72 = .ok (.aload_n 0, 1) := by decide +kernel
theorem d_D_init_73 : decode b_D_init 73 = .ok (.sipush 320, 3) := by decide +kernel
theorem d_D_init_76 : decode b_D_init 76 = .ok (.newarray .long, 2) := by decide +kernel
theorem d_D_init_78 : decode b_D_init 78 = .ok (.putfield 35, 3) := by decide +kernel
theorem d_D_init_81 : decode b_D_init 81 = .ok (.aload_n 0, 1) := by decide +kernel
theorem d_D_init_82 : decode b_D_init 82 = .ok (.sipush 320, 3) := by decide +kernel
theorem d_D_init_85 : decode b_D_init 85 = .ok (.newarray .boolean, 2) := by decide +kernel
theorem d_D_init_87 : decode b_D_init 87 = .ok (.putfield 38, 3) := by decide +kernel
theorem d_D_init_90 : decode b_D_init 90 = .ok (.aload_n 0, 1) := by decide +kernel
theorem d_D_init_91 : decode b_D_init 91 = .ok (.bipush 24, 2) := by decide +kernel
theorem d_D_init_93 : decode b_D_init 93 = .ok (.newarray .int, 2) := by decide +kernel
theorem d_D_init_95 : decode b_D_init 95 = .ok (.putfield 42, 3) := by decide +kernel
theorem d_D_init_98 : decode b_D_init 98 = .ok (.aload_n 0, 1) := by decide +kernel
theorem d_D_init_99 : decode b_D_init 99 = .ok (.bipush 24, 2) := by decide +kernel
theorem d_D_init_101 : decode b_D_init 101 = .ok (.newarray .int, 2) := by decide +kernel
theorem d_D_init_103 : decode b_D_init 103 = .ok (.putfield 45, 3) := by decide +kernel
theorem d_D_init_106 : decode b_D_init 106 = .ok (.aload_n 0, 1) := by decide +kernel
theorem d_D_init_107 : decode b_D_init 107 = .ok (.bipush 17, 2) := by decide +kernel
theorem d_D_init_109 : decode b_D_init 109 = .ok (.newarray .int, 2) := by decide +kernel
theorem d_D_init_111 : decode b_D_init 111 = .ok (.putfield 48, 3) := by decide +kernel
theorem d_D_init_114 : decode b_D_init 114 = .ok (.aload_n 0, 1) := by decide +kernel
theorem d_D_init_115 : decode b_D_init 115 = .ok (.bipush 17, 2) := by decide +kernel
theorem d_D_init_117 : decode b_D_init 117 = .ok (.newarray .int, 2) := by decide +kernel
theorem d_D_init_119 : decode b_D_init 119 = .ok (.putfield 51, 3) := by decide +kernel
theorem d_D_init_122 : decode b_D_init 122 = .ok (.aload_n 0, 1) := by decide +kernel
theorem d_D_init_123 : decode b_D_init 123 = .ok (.bipush 7, 2) := by decide +kernel
theorem d_D_init_125 : decode b_D_init 125 = .ok (.newarray .int, 2) := by decide +kernel
theorem d_D_init_127 : decode b_D_init 127 = .ok (.putfield 54, 3) := by decide +kernel
theorem d_D_init_130 : decode b_D_init 130 = .ok (.aload_n 0, 1) := by decide +kernel
theorem d_D_init_131 : decode b_D_init 131 = .ok (.bipush 7, 2) := by decide +kernel
theorem d_D_init_133 : decode b_D_init 133 = .ok (.newarray .int, 2) := by decide +kernel
theorem d_D_init_135 : decode b_D_init 135 = .ok (.putfield 57, 3) := by decide +kernel
theorem d_D_init_138 : decode b_D_init 138 = .ok (.aload_n 0, 1) := by decide +kernel
theorem d_D_init_139 : decode b_D_init 139 = .ok (.bipush 12, 2) := by decide +kernel
theorem d_D_init_141 : decode b_D_init 141 = .ok (.newarray .int, 2) := by decide +kernel
theorem d_D_init_143 : decode b_D_init 143 = .ok (.putfield 60, 3) := by decide +kernel
theorem d_D_init_146 : decode b_D_init 146 = .ok (.aload_n 0, 1) := by decide +kernel
theorem d_D_init_147 : decode b_D_init 147 = .ok (.bipush 12, 2) := by decide +kernel
theorem d_D_init_149 : decode b_D_init 149 = .ok (.newarray .long, 2) := by decide +kernel
theorem d_D_init_151 : decode b_D_init 151 = .ok (.putfield 63, 3) := by decide +kernel
theorem d_D_init_154 : decode b_D_init 154 = .ok (.aload_n 0, 1) := by decide +kernel
theorem d_D_init_155 : decode b_D_init 155 = .ok (.bipush 13, 2) := by decide +kernel
theorem d_D_init_157 : decode b_D_init 157 = .ok (.newarray .int, 2) := by decide +kernel
theorem d_D_init_159 : decode b_D_init 159 = .ok (.putfield 66, 3) := by decide +kernel
theorem d_D_init_162 : decode b_D_init 162 = .ok (.aload_n 0, 1) := by decide +kernel
theorem d_D_init_163 : decode b_D_init 163 = .ok (.bipush 13, 2) := by decide +kernel
theorem d_D_init_165 : decode b_D_init 165 = .ok (.newarray .int, 2) := by decide +kernel
theorem d_D_init_167 : decode b_D_init 167 = .ok (.putfield 69, 3) := by decide +kernel
theorem d_D_init_170 : decode b_D_init 170 = .ok (.aload_n 0, 1) := by decide +kernel
theorem d_D_init_171 : decode b_D_init 171 = .ok (.bipush 13, 2) := by decide +kernel
theorem d_D_init_173 : decode b_D_init 173 = .ok (.newarray .int, 2) := by decide +kernel
theorem d_D_init_175 : decode b_D_init 175 = .ok (.putfield 72, 3) := by decide +kernel
theorem d_D_init_178 : decode b_D_init 178 = .ok (.aload_n 0, 1) := by decide +kernel
theorem d_D_init_179 : decode b_D_init 179 = .ok (.bipush 13, 2) := by decide +kernel
theorem d_D_init_181 : decode b_D_init 181 = .ok (.newarray .int, 2) := by decide +kernel
theorem d_D_init_183 : decode b_D_init 183 = .ok (.putfield 75, 3) := by decide +kernel
theorem d_D_init_186 : decode b_D_init 186 = .ok (.aload_n 0, 1) := by decide +kernel
theorem d_D_init_187 : decode b_D_init 187 = .ok (.sipush 208, 3) := by decide +kernel
theorem d_D_init_190 : decode b_D_init 190 = .ok (.newarray .int, 2) := by decide +kernel
theorem d_D_init_192 : decode b_D_init 192 = .ok (.putfield 78, 3) := by decide +kernel
theorem d_D_init_195 : decode b_D_init 195 = .ok (.aload_n 0, 1) := by decide +kernel
theorem d_D_init_196 : decode b_D_init 196 = .ok (.bipush 13, 2) := by decide +kernel
theorem d_D_init_198 : decode b_D_init 198 = .ok (.newarray .int, 2) := by decide +kernel
theorem d_D_init_200 : decode b_D_init 200 = .ok (.putfield 81, 3) := by decide +kernel
theorem d_D_init_203 : decode b_D_init 203 = .ok (.aload_n 0, 1) := by decide +kernel
theorem d_D_init_204 : decode b_D_init 204 = .ok (.bipush 13, 2) := by decide +kernel
theorem d_D_init_206 : decode b_D_init 206 = .ok (.newarray .int, 2) := by decide +kernel
theorem d_D_init_208 : decode b_D_init 208 = .ok (.putfield 84, 3) := by decide +kernel
theorem d_D_init_211 : decode b_D_init 211 = .ok (.aload_n 0, 1) := by decide +kernel
theorem d_D_init_212 : decode b_D_init 212 = .ok (.bipush 13, 2) := by decide +kernel
theorem d_D_init_214 : decode b_D_init 214 = .ok (.newarray .int, 2) := by decide +kernel
theorem d_D_init_216 : decode b_D_init 216 = .ok (.putfield 87, 3) := by decide +kernel
theorem d_D_init_219 : decode b_D_init 219 = .ok (.aload_n 0, 1) := by decide +kernel
theorem d_D_init_220 : decode b_D_init 220 = .ok (.bipush 13, 2) := by decide +kernel
theorem d_D_init_222 : decode b_D_init 222 = .ok (.newarray .long, 2) := by decide +kernel
theorem d_D_init_224 : decode b_D_init 224 = .ok (.putfield 90, 3) := by decide +kernel
theorem d_D_init_227 : decode b_D_init 227 = .ok (.aload_n 0, 1) := by decide +kernel
theorem d_D_init_228 : decode b_D_init 228 = .ok (.bipush 13, 2) := by decide +kernel
theorem d_D_init_230 : decode b_D_init 230 = .ok (.newarray .long, 2) := by decide +kernel
theorem d_D_init_232 : decode b_D_init 232 = .ok (.putfield 93, 3) := by decide +kernel
theorem d_D_init_235 : decode b_D_init 235 = .ok (.iconst 0, 1) := by decide +kernel
theorem d_D_init_236 : decode b_D_init 236 = .ok (.istore_n 1, 1) := by decide +kernel
theorem d_D_init_237 : decode b_D_init 237 = .ok (.iload_n 1, 1) := by decide +kernel
theorem d_D_init_238 : decode b_D_init 238 = .ok (.bipush 24, 2) := by decide +kernel
theorem d_D_init_240 : decode b_D_init 240 = .ok (.if_icmp .ge 23, 3) := by decide +kernel
theorem d_D_init_243 : decode b_D_init 243 = .ok (.aload_n 0, 1) := by decide +kernel
theorem d_D_init_244 : decode b_D_init 244 = .ok (.getfield 42, 3) := by decide +kernel
theorem d_D_init_247 : decode b_D_init 247 = .ok (.iload_n 1, 1) := by decide +kernel
theorem d_D_init_248 : decode b_D_init 248 = .ok (.aload_n 0, 1) := by decide +kernel
theorem d_D_init_249 : decode b_D_init 249 = .ok (.getfield 45, 3) := by decide +kernel
theorem d_D_init_252 : decode b_D_init 252 = .ok (.iload_n 1, 1) := by decide +kernel
theorem d_D_init_253 : decode b_D_init 253 = .ok (.iconst (-1), 1) := by decide +kernel
theorem d_D_init_254 : decode b_D_init 254 = .ok (.dup_x2, 1) := by decide +kernel
theorem d_D_init_255 : decode b_D_init 255 = .ok (.iastore, 1) := by decide +kernel
theorem d_D_init_256 : decode b_D_init 256 = .ok (.iastore, 1) := by decide +kernel
theorem d_D_init_257 : decode b_D_init 257 = .ok (.iinc 1 1, 3) := by decide +kernel
theorem d_D_init_260 : decode b_D_init 260 = .ok (.goto (-23), 3) := by decide +kernel
theorem d_D_init_263 : decode b_D_init 263 = .ok (.return_, 1) := by decide +kernel
theorem d_D_thrown_0 : decode b_D_thrown 0 = .ok (.aload_n 0, 1) := by decide +kernel
theorem d_D_thrown_1 : decode b_D_thrown 1 = .ok (.getfield 96, 3) := by decide +kernel
theorem d_D_thrown_4 : decode b_D_thrown 4 = .ok (.ireturn, 1) := by decide +kernel
theorem d_D_in_0 : decode b_D_in 0 = .ok (.iload_n 0, 1) := by decide +kernel
theorem d_D_in_1 : decode b_D_in 1 = .ok (.iload_n 1, 1) := by decide +kernel
theorem d_D_in_2 : decode b_D_in 2 = .ok (.if_icmp .lt 12, 3) := by decide +kernel
theorem d_D_in_5 : decode b_D_in 5 = .ok (.iload_n 0, 1) := by decide +kernel
theorem d_D_in_6 : decode b_D_in 6 = .ok (.iload_n 2, 1) := by decide +kernel
theorem d_D_in_7 : decode b_D_in 7 = .ok (.if_icmp .gt 7, 3) := by decide +kernel
theorem d_D_in_10 : decode b_D_in 10 = .ok (.iconst 1, 1) := by decide +kernel
theorem d_D_in_11 : decode b_D_in 11 = .ok (.goto 4, 3) := by decide +kernel
theorem d_D_in_14 : decode b_D_in 14 = .ok (.iconst 0, 1) := by decide +kernel
theorem d_D_in_15 : decode b_D_in 15 = .ok (.ireturn, 1) := by decide +kernel
theorem d_D_bad_0 : decode b_D_bad 0 = .ok (.aload_n 0, 1) := by decide +kernel
theorem d_D_bad_1 : decode b_D_bad 1 = .ok (.iload_n 1, 1) := by decide +kernel
theorem d_D_bad_2 : decode b_D_bad 2 = .ok (.ifCond .eq 7, 3) := by decide +kernel
theorem d_D_bad_5 : decode b_D_bad 5 = .ok (.iconst 0, 1) := by decide +kernel
theorem d_D_bad_6 : decode b_D_bad 6 = .ok (.goto 4, 3) := by decide +kernel
theorem d_D_bad_9 : decode b_D_bad 9 = .ok (.iconst 1, 1) := by decide +kernel
theorem d_D_bad_10 : decode b_D_bad 10 = .ok (.putfield 96, 3) := by decide +kernel
theorem d_D_bad_13 : decode b_D_bad 13 = .ok (.iload_n 1, 1) := by decide +kernel
theorem d_D_bad_14 : decode b_D_bad 14 = .ok (.ifCond .ne 7, 3) := by decide +kernel
theorem d_D_bad_17 : decode b_D_bad 17 = .ok (.iconst 1, 1) := by decide +kernel
theorem d_D_bad_18 : decode b_D_bad 18 = .ok (.goto 4, 3) := by decide +kernel
theorem d_D_bad_21 : decode b_D_bad 21 = .ok (.iconst 0, 1) := by decide +kernel
theorem d_D_bad_22 : decode b_D_bad 22 = .ok (.ireturn, 1) := by decide +kernel
theorem d_D_forgetKey_0 : decode b_D_forgetKey 0 = .ok (.aload_n 0, 1) := by decide +kernel
theorem d_D_forgetKey_1 : decode b_D_forgetKey 1 = .ok (.getfield 42, 3) := by decide +kernel
theorem d_D_forgetKey_4 : decode b_D_forgetKey 4 = .ok (.iload_n 1, 1) := by decide +kernel
theorem d_D_forgetKey_5 : decode b_D_forgetKey 5 = .ok (.iconst (-1), 1) := by decide +kernel
theorem d_D_forgetKey_6 : decode b_D_forgetKey 6 = .ok (.iastore, 1) := by decide +kernel
theorem d_D_forgetKey_7 : decode b_D_forgetKey 7 = .ok (.aload_n 0, 1) := by decide +kernel
theorem d_D_forgetKey_8 : decode b_D_forgetKey 8 = .ok (.getfield 42, 3) := by decide +kernel
theorem d_D_forgetKey_11 : decode b_D_forgetKey 11 = .ok (.bipush 12, 2) := by decide +kernel
theorem d_D_forgetKey_13 : decode b_D_forgetKey 13 = .ok (.iload_n 1, 1) := by decide +kernel
theorem d_D_forgetKey_14 : decode b_D_forgetKey 14 = .ok (.iadd, 1) := by decide +kernel
theorem d_D_forgetKey_15 : decode b_D_forgetKey 15 = .ok (.iconst (-1), 1) := by decide +kernel
theorem d_D_forgetKey_16 : decode b_D_forgetKey 16 = .ok (.iastore, 1) := by decide +kernel
theorem d_D_forgetKey_17 : decode b_D_forgetKey 17 = .ok (.iconst 0, 1) := by decide +kernel
theorem d_D_forgetKey_18 : decode b_D_forgetKey 18 = .ok (.istore_n 2, 1) := by decide +kernel
theorem d_D_forgetKey_19 : decode b_D_forgetKey 19 = .ok (.iconst 0, 1) := by decide +kernel
theorem d_D_forgetKey_20 : decode b_D_forgetKey 20 = .ok (.istore_n 3, 1) := by decide +kernel
theorem d_D_forgetKey_21 : decode b_D_forgetKey 21 = .ok (.iload_n 3, 1) := by decide +kernel
theorem d_D_forgetKey_22 : decode b_D_forgetKey 22 = .ok (.aload_n 0, 1) := by decide +kernel
theorem d_D_forgetKey_23 : decode b_D_forgetKey 23 = .ok (.getfield 100, 3) := by decide +kernel
theorem d_D_forgetKey_26 : decode b_D_forgetKey 26 = .ok (.if_icmp .ge 42, 3) := by decide +kernel
theorem d_D_forgetKey_29 : decode b_D_forgetKey 29 = .ok (.aload_n 0, 1) := by decide +kernel
theorem d_D_forgetKey_30 : decode b_D_forgetKey 30 = .ok (.getfield 29, 3) := by decide +kernel
theorem d_D_forgetKey_33 : decode b_D_forgetKey 33 = .ok (.aload_n 0, 1) := by decide +kernel
theorem d_D_forgetKey_34 : decode b_D_forgetKey 34 = .ok (.getfield 48, 3) := by decide +kernel
theorem d_D_forgetKey_37 : decode b_D_forgetKey 37 = .ok (.iload_n 3, 1) := by decide +kernel
theorem d_D_forgetKey_38 : decode b_D_forgetKey 38 = .ok (.iaload, 1) := by decide +kernel
theorem d_D_forgetKey_39 : decode b_D_forgetKey 39 = .ok (.iaload, 1) := by decide +kernel
theorem d_D_forgetKey_40 : decode b_D_forgetKey 40 = .ok (.iload_n 1, 1) := by decide +kernel
theorem d_D_forgetKey_41 : decode b_D_forgetKey 41 = .ok (.if_icmp .ne 6, 3) := by decide +kernel
theorem d_D_forgetKey_44 : decode b_D_forgetKey 44 = .ok (.goto 18, 3) := by decide +kernel
theorem d_D_forgetKey_47 : decode b_D_forgetKey 47 = .ok (.aload_n 0, 1) := by decide +kernel
theorem d_D_forgetKey_48 : decode b_D_forgetKey 48 = .ok (.getfield 48, 3) := by decide +kernel
theorem d_D_forgetKey_51 : decode b_D_forgetKey 51 = .ok (.iload_n 2, 1) := by decide +kernel
theorem d_D_forgetKey_52 : decode b_D_forgetKey 52 = .ok (.aload_n 0, 1) := by decide +kernel
theorem d_D_forgetKey_53 : decode b_D_forgetKey 53 = .ok (.getfield 48, 3) := by decide +kernel
theorem d_D_forgetKey_56 : decode b_D_forgetKey 56 = .ok (.iload_n 3, 1) := by decide +kernel
theorem d_D_forgetKey_57 : decode b_D_forgetKey 57 = .ok (.iaload, 1) := by decide +kernel
theorem d_D_forgetKey_58 : decode b_D_forgetKey 58 = .ok (.iastore, 1) := by decide +kernel
theorem d_D_forgetKey_59 : decode b_D_forgetKey 59 = .ok (.iinc 2 1, 3) := by decide +kernel
theorem d_D_forgetKey_62 : decode b_D_forgetKey 62 = .ok (.iinc 3 1, 3) := by decide +kernel
theorem d_D_forgetKey_65 : decode b_D_forgetKey 65 = .ok (.goto (-44), 3) := by decide +kernel
theorem d_D_forgetKey_68 : decode b_D_forgetKey 68 = .ok (.aload_n 0, 1) := by decide +kernel
theorem d_D_forgetKey_69 : decode b_D_forgetKey 69 = .ok (.iload_n 2, 1) := by decide +kernel
theorem d_D_forgetKey_70 : decode b_D_forgetKey 70 = .ok (.putfield 100, 3) := by decide +kernel
theorem d_D_forgetKey_73 : decode b_D_forgetKey 73 = .ok (.return_, 1) := by decide +kernel
theorem d_D_input_0 : decode b_D_input 0 = .ok (.aload_n 0, 1) := by decide +kernel
theorem d_D_input_1 : decode b_D_input 1 = .ok (.iload_n 1, 1) := by decide +kernel
theorem d_D_input_2 : decode b_D_input 2 = .ok (.iconst 0, 1) := by decide +kernel
theorem d_D_input_3 : decode b_D_input 3 = .ok (.bipush 11, 2) := by decide +kernel
theorem d_D_input_5 : decode b_D_input 5 = .ok (.invokestatic 103, 3) := by decide +kernel
theorem d_D_input_8 : decode b_D_input 8 = .ok (.invokevirtual 107, 3) := by decide +kernel
theorem d_D_input_11 : decode b_D_input 11 = .ok (.ifCond .eq 4, 3) := by decide +kernel
theorem d_D_input_14 : decode b_D_input 14 = .ok (.return_, 1) := by decide +kernel
theorem d_D_input_15 : decode b_D_input 15 = .ok (.aload_n 0, 1) := by decide +kernel
theorem d_D_input_16 : decode b_D_input 16 = .ok (.getfield 7, 3) := by decide +kernel
theorem d_D_input_19 : decode b_D_input 19 = .ok (.iload_n 1, 1) := by decide +kernel
theorem d_D_input_20 : decode b_D_input 20 = .ok (.iaload, 1) := by decide +kernel
theorem d_D_input_21 : decode b_D_input 21 = .ok (.iconst 1, 1) := by decide +kernel
theorem d_D_input_22 : decode b_D_input 22 = .ok (.if_icmp .ne 15, 3) := by decide +kernel
theorem d_D_input_25 : decode b_D_input 25 = .ok (.aload_n 0, 1) := by decide +kernel
theorem d_D_input_26 : decode b_D_input 26 = .ok (.getfield 19, 3) := by decide +kernel
theorem d_D_input_29 : decode b_D_input 29 = .ok (.iload_n 1, 1) := by decide +kernel
theorem d_D_input_30 : decode b_D_input 30 = .ok (.laload, 1) := by decide +kernel
theorem d_D_input_31 : decode b_D_input 31 = .ok (.lload_n 2, 1) := by decide +kernel
theorem d_D_input_32 : decode b_D_input 32 = .ok (.lcmp, 1) := by decide +kernel
theorem d_D_input_33 : decode b_D_input 33 = .ok (.ifCond .ne 4, 3) := by decide +kernel
theorem d_D_input_36 : decode b_D_input 36 = .ok (.return_, 1) := by decide +kernel
theorem d_D_input_37 : decode b_D_input 37 = .ok (.aload_n 0, 1) := by decide +kernel
theorem d_D_input_38 : decode b_D_input 38 = .ok (.iload_n 1, 1) := by decide +kernel
theorem d_D_input_39 : decode b_D_input 39 = .ok (.invokevirtual 111, 3) := by decide +kernel
theorem d_D_input_42 : decode b_D_input 42 = .ok (.aload_n 0, 1) := by decide +kernel
theorem d_D_input_43 : decode b_D_input 43 = .ok (.getfield 7, 3) := by decide +kernel
theorem d_D_input_46 : decode b_D_input 46 = .ok (.iload_n 1, 1) := by decide +kernel
theorem d_D_input_47 : decode b_D_input 47 = .ok (.iconst 1, 1) := by decide +kernel
theorem d_D_input_48 : decode b_D_input 48 = .ok (.iastore, 1) := by decide +kernel
theorem d_D_input_49 : decode b_D_input 49 = .ok (.aload_n 0, 1) := by decide +kernel
theorem d_D_input_50 : decode b_D_input 50 = .ok (.getfield 19, 3) := by decide +kernel
theorem d_D_input_53 : decode b_D_input 53 = .ok (.iload_n 1, 1) := by decide +kernel
theorem d_D_input_54 : decode b_D_input 54 = .ok (.lload_n 2, 1) := by decide +kernel
theorem d_D_input_55 : decode b_D_input 55 = .ok (.lastore, 1) := by decide +kernel
theorem d_D_input_56 : decode b_D_input 56 = .ok (.return_, 1) := by decide +kernel
theorem d_D_task_0 : decode b_D_task 0 = .ok (.iload 5, 2) := by decide +kernel
theorem d_D_task_2 : decode b_D_task 2 = .ok (.ifCond .lt 7, 3) := by decide +kernel
theorem d_D_task_5 : decode b_D_task 5 = .ok (.iconst 3, 1) := by decide +kernel
theorem d_D_task_6 : decode b_D_task 6 = .ok (.goto 21, 3) := by decide +kernel
theorem d_D_task_9 : decode b_D_task 9 = .ok (.iload 4, 2) := by decide +kernel
theorem d_D_task_11 : decode b_D_task 11 = .ok (.ifCond .lt 7, 3) := by decide +kernel
theorem d_D_task_14 : decode b_D_task 14 = .ok (.iconst 2, 1) := by decide +kernel
theorem d_D_task_15 : decode b_D_task 15 = .ok (.goto 12, 3) := by decide +kernel
theorem d_D_task_18 : decode b_D_task 18 = .ok (.iload_n 3, 1) := by decide +kernel
theorem d_D_task_19 : decode b_D_task 19 = .ok (.ifCond .lt 7, 3) := by decide +kernel
theorem d_D_task_22 : decode b_D_task 22 = .ok (.iconst 1, 1) := by decide +kernel
theorem d_D_task_23 : decode b_D_task 23 = .ok (.goto 4, 3) := by decide +kernel
theorem d_D_task_26 : decode b_D_task 26 = .ok (.iconst 0, 1) := by decide +kernel
theorem d_D_task_27 : decode b_D_task 27 = .ok (.istore 6, 2) := by decide +kernel
theorem d_D_task_29 : decode b_D_task 29 = .ok (.iload_n 1, 1) := by decide +kernel
theorem d_D_task_30 : decode b_D_task 30 = .ok (.iconst 0, 1) := by decide +kernel
theorem d_D_task_31 : decode b_D_task 31 = .ok (.bipush 11, 2) := by decide +kernel
theorem d_D_task_33 : decode b_D_task 33 = .ok (.invokestatic 103, 3) := by decide +kernel
theorem d_D_task_36 : decode b_D_task 36 = .ok (.ifCond .eq 70, 3) := by decide +kernel
theorem d_D_task_39 : decode b_D_task 39 = .ok (.iload_n 2, 1) := by decide +kernel
theorem d_D_task_40 : decode b_D_task 40 = .ok (.iconst 0, 1) := by decide +kernel
theorem d_D_task_41 : decode b_D_task 41 = .ok (.bipush 9, 2) := by decide +kernel
theorem d_D_task_43 : decode b_D_task 43 = .ok (.invokestatic 103, 3) := by decide +kernel
theorem d_D_task_46 : decode b_D_task 46 = .ok (.ifCond .eq 60, 3) := by decide +kernel
theorem d_D_task_49 : decode b_D_task 49 = .ok (.iload_n 3, 1) := by decide +kernel
theorem d_D_task_50 : decode b_D_task 50 = .ok (.iconst (-1), 1) := by decide +kernel
theorem d_D_task_51 : decode b_D_task 51 = .ok (.bipush 11, 2) := by decide +kernel
theorem d_D_task_53 : decode b_D_task 53 = .ok (.invokestatic 103, 3) := by decide +kernel
theorem d_D_task_56 : decode b_D_task 56 = .ok (.ifCond .eq 50, 3) := by decide +kernel
theorem d_D_task_59 : decode b_D_task 59 = .ok (.iload 4, 2) := by decide +kernel
theorem d_D_task_61 : decode b_D_task 61 = .ok (.iconst (-1), 1) := by decide +kernel
theorem d_D_task_62 : decode b_D_task 62 = .ok (.bipush 11, 2) := by decide +kernel
theorem d_D_task_64 : decode b_D_task 64 = .ok (.invokestatic 103, 3) := by decide +kernel
theorem d_D_task_67 : decode b_D_task 67 = .ok (.ifCond .eq 39, 3) := by decide +kernel
theorem d_D_task_70 : decode b_D_task 70 = .ok (.iload 5, 2) := by decide +kernel
theorem d_D_task_72 : decode b_D_task 72 = .ok (.iconst (-1), 1) := by decide +kernel
theorem d_D_task_73 : decode b_D_task 73 = .ok (.bipush 11, 2) := by decide +kernel
theorem d_D_task_75 : decode b_D_task 75 = .ok (.invokestatic 103, 3) := by decide +kernel
theorem d_D_task_78 : decode b_D_task 78 = .ok (.ifCond .eq 28, 3) := by decide +kernel
theorem d_D_task_81 : decode b_D_task 81 = .ok (.iload 6, 2) := by decide +kernel
theorem d_D_task_83 : decode b_D_task 83 = .ok (.iconst 2, 1) := by decide +kernel
theorem d_D_task_84 : decode b_D_task 84 = .ok (.if_icmp .lt 7, 3) := by decide +kernel
theorem d_D_task_87 : decode b_D_task 87 = .ok (.iload_n 3, 1) := by decide +kernel
theorem d_D_task_88 : decode b_D_task 88 = .ok (.ifCond .lt 18, 3) := by decide +kernel
theorem d_D_task_91 : decode b_D_task 91 = .ok (.iload 6, 2) := by decide +kernel
theorem d_D_task_93 : decode b_D_task 93 = .ok (.iconst 3, 1) := by decide +kernel
theorem d_D_task_94 : decode b_D_task 94 = .ok (.if_icmp .lt 8, 3) := by decide +kernel
theorem d_D_task_97 : decode b_D_task 97 = .ok (.iload 4, 2) := by decide +kernel
theorem d_D_task_99 : decode b_D_task 99 = .ok (.ifCond .lt 7, 3) := by decide +kernel
theorem d_D_task_102 : decode b_D_task 102 = .ok (.iconst 1, 1) := by decide +kernel
theorem d_D_task_103 : decode b_D_task 103 = .ok (.goto 4, 3) := by decide +kernel
theorem d_D_task_106 : decode b_D_task 106 = .ok (.iconst 0, 1) := by decide +kernel
theorem d_D_task_107 : decode b_D_task 107 = .ok (.istore 7, 2) := by decide +kernel
theorem d_D_task_109 : decode b_D_task 109 = .ok (.iload_n 2, 1) := by decide +kernel
theorem d_D_task_110 : decode b_D_task 110 = .ok (.iconst 2, 1) := by decide +kernel
theorem d_D_task_111 : decode b_D_task 111 = .ok (.if_icmp .ne 7, 3) := by decide +kernel
theorem d_D_task_114 : decode b_D_task 114 = .ok (.iconst 3, 1) := by decide +kernel
theorem d_D_task_115 : decode b_D_task 115 = .ok (.goto 45, 3) := by decide +kernel
theorem d_D_task_118 : decode b_D_task 118 = .ok (.iload_n 2, 1) := by decide +kernel
theorem d_D_task_119 : decode b_D_task 119 = .ok (.iconst 3, 1) := by decide +kernel
theorem d_D_task_120 : decode b_D_task 120 = .ok (.if_icmp .eq 20, 3) := by decide +kernel
theorem d_D_task_123 : decode b_D_task 123 = .ok (.iload_n 2, 1) := by decide +kernel
theorem d_D_task_124 : decode b_D_task 124 = .ok (.iconst 5, 1) := by decide +kernel
theorem d_D_task_125 : decode b_D_task 125 = .ok (.if_icmp .eq 15, 3) := by decide +kernel
theorem d_D_task_128 : decode b_D_task 128 = .ok (.iload_n 2, 1) := by decide +kernel
theorem d_D_task_129 : decode b_D_task 129 = .ok (.bipush 7, 2) := by decide +kernel
theorem d_D_task_131 : decode b_D_task 131 = .ok (.if_icmp .eq 9, 3) := by decide +kernel
theorem d_D_task_134 : decode b_D_task 134 = .ok (.iload_n 2, 1) := by decide +kernel
theorem d_D_task_135 : decode b_D_task 135 = .ok (.bipush 9, 2) := by decide +kernel
theorem d_D_task_137 : decode b_D_task 137 = .ok (.if_icmp .ne 7, 3) := by decide +kernel
theorem d_D_task_140 : decode b_D_task 140 = .ok (.iconst 2, 1) := by decide +kernel
theorem d_D_task_141 : decode b_D_task 141 = .ok (.goto 19, 3) := by decide +kernel
theorem d_D_task_144 : decode b_D_task 144 = .ok (.iload_n 2, 1) := by decide +kernel
theorem d_D_task_145 : decode b_D_task 145 = .ok (.iconst 4, 1) := by decide +kernel
theorem d_D_task_146 : decode b_D_task 146 = .ok (.if_icmp .eq 9, 3) := by decide +kernel
theorem d_D_task_149 : decode b_D_task 149 = .ok (.iload_n 2, 1) := by decide +kernel
theorem d_D_task_150 : decode b_D_task 150 = .ok (.bipush 8, 2) := by decide +kernel
theorem d_D_task_152 : decode b_D_task 152 = .ok (.if_icmp .ne 7, 3) := by decide +kernel
theorem d_D_task_155 : decode b_D_task 155 = .ok (.iconst 1, 1) := by decide +kernel
theorem d_D_task_156 : decode b_D_task 156 = .ok (.goto 4, 3) := by decide +kernel
theorem d_D_task_159 : decode b_D_task 159 = .ok (.iconst 0, 1) := by decide +kernel
theorem d_D_task_160 : decode b_D_task 160 = .ok (.istore 8, 2) := by decide +kernel
theorem d_D_task_162 : decode b_D_task 162 = .ok (.aload_n 0, 1) := by decide +kernel
theorem d_D_task_163 : decode b_D_task 163 = .ok (.iload 7, 2) := by decide +kernel
theorem d_D_task_165 : decode b_D_task 165 = .ok (.ifCond .eq 14, 3) := by decide +kernel
theorem d_D_task_168 : decode b_D_task 168 = .ok (.iload 6, 2) := by decide +kernel
theorem d_D_task_170 : decode b_D_task 170 = .ok (.iload 8, 2) := by decide +kernel
