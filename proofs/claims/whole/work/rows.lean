section
-- ===== PART A: goes FIRST, ahead of the names: the tables' words, and 'selects' of the private methods out of them =====
/-- a private method of a class that the tables say can be made, by its rows of tables_1 -/
def lw_okq (q : MethodName × Nat) : Prop := (q.1.cls ≠ "java/lang/invoke/MethodHandle" ∧ q.1.cls ≠ "java/lang/invoke/VarHandle") ∧ Cond.instantiable q.1.cls q.2 ∈ tables_1 ∧ Cond.privateMethod q.1 ∈ tables_1 ∧ Cond.instanceMethod q.1 ∈ tables_1
theorem lw_p0 : lw_okq (⟨"TraceBuilder$Memory", "tracesOf", "(I)I"⟩, 4) := ⟨⟨by decide +kernel, by decide +kernel⟩, List.mem_of_getElem? (i := 56) (by decide +kernel), List.mem_of_getElem? (i := 135) (by decide +kernel), List.mem_of_getElem? (i := 136) (by decide +kernel)⟩
theorem lw_p1 : lw_okq (⟨"TraceBuilder$Memory", "traceOf", "(II)LTraceBuilder$Trace;"⟩, 4) := ⟨⟨by decide +kernel, by decide +kernel⟩, List.mem_of_getElem? (i := 56) (by decide +kernel), List.mem_of_getElem? (i := 139) (by decide +kernel), List.mem_of_getElem? (i := 140) (by decide +kernel)⟩
theorem lw_p2 : lw_okq (⟨"java/lang/Throwable", "fillInStackTrace", "(I)Ljava/lang/Throwable;"⟩, 6) := ⟨⟨by decide +kernel, by decide +kernel⟩, List.mem_of_getElem? (i := 193) (by decide +kernel), List.mem_of_getElem? (i := 191) (by decide +kernel), List.mem_of_getElem? (i := 192) (by decide +kernel)⟩
theorem lw_p3 : lw_okq (⟨"TraceBuilder$Plan", "isInput", "(IJ)Z"⟩, 5) := ⟨⟨by decide +kernel, by decide +kernel⟩, List.mem_of_getElem? (i := 24) (by decide +kernel), List.mem_of_getElem? (i := 218) (by decide +kernel), List.mem_of_getElem? (i := 219) (by decide +kernel)⟩
theorem lw_p4 : lw_okq (⟨"TraceBuilder$Plan", "setInput", "(IJ)V"⟩, 5) := ⟨⟨by decide +kernel, by decide +kernel⟩, List.mem_of_getElem? (i := 24) (by decide +kernel), List.mem_of_getElem? (i := 222) (by decide +kernel), List.mem_of_getElem? (i := 223) (by decide +kernel)⟩
theorem lw_p5 : lw_okq (⟨"TraceBuilder$Memory", "dropKey", "(I)V"⟩, 4) := ⟨⟨by decide +kernel, by decide +kernel⟩, List.mem_of_getElem? (i := 56) (by decide +kernel), List.mem_of_getElem? (i := 226) (by decide +kernel), List.mem_of_getElem? (i := 227) (by decide +kernel)⟩
theorem lw_p6 : lw_okq (⟨"TraceBuilder$Memory", "entryAt", "(I)LTraceBuilder$Trace;"⟩, 4) := ⟨⟨by decide +kernel, by decide +kernel⟩, List.mem_of_getElem? (i := 56) (by decide +kernel), List.mem_of_getElem? (i := 230) (by decide +kernel), List.mem_of_getElem? (i := 231) (by decide +kernel)⟩
theorem lw_p7 : lw_okq (⟨"TraceBuilder$Memory", "clearCacheFrom", "(I)V"⟩, 4) := ⟨⟨by decide +kernel, by decide +kernel⟩, List.mem_of_getElem? (i := 56) (by decide +kernel), List.mem_of_getElem? (i := 234) (by decide +kernel), List.mem_of_getElem? (i := 235) (by decide +kernel)⟩
theorem lw_p8 : lw_okq (⟨"TraceBuilder$Plan", "isTask", "(IIIII)Z"⟩, 5) := ⟨⟨by decide +kernel, by decide +kernel⟩, List.mem_of_getElem? (i := 24) (by decide +kernel), List.mem_of_getElem? (i := 256) (by decide +kernel), List.mem_of_getElem? (i := 257) (by decide +kernel)⟩
theorem lw_p9 : lw_okq (⟨"TraceBuilder$Plan", "setTask", "(IIIII)V"⟩, 5) := ⟨⟨by decide +kernel, by decide +kernel⟩, List.mem_of_getElem? (i := 24) (by decide +kernel), List.mem_of_getElem? (i := 260) (by decide +kernel), List.mem_of_getElem? (i := 261) (by decide +kernel)⟩
theorem lw_p10 : lw_okq (⟨"TraceBuilder$Session", "result", "(LTraceBuilder$Memory;II)J"⟩, 9) := ⟨⟨by decide +kernel, by decide +kernel⟩, List.mem_of_getElem? (i := 80) (by decide +kernel), List.mem_of_getElem? (i := 300) (by decide +kernel), List.mem_of_getElem? (i := 301) (by decide +kernel)⟩
theorem lw_p11 : lw_okq (⟨"TraceBuilder$Session", "valueOf", "(I)J"⟩, 9) := ⟨⟨by decide +kernel, by decide +kernel⟩, List.mem_of_getElem? (i := 80) (by decide +kernel), List.mem_of_getElem? (i := 304) (by decide +kernel), List.mem_of_getElem? (i := 305) (by decide +kernel)⟩
theorem lw_p12 : lw_okq (⟨"TraceBuilder$Session", "fail", "(I)J"⟩, 9) := ⟨⟨by decide +kernel, by decide +kernel⟩, List.mem_of_getElem? (i := 80) (by decide +kernel), List.mem_of_getElem? (i := 308) (by decide +kernel), List.mem_of_getElem? (i := 309) (by decide +kernel)⟩
theorem lw_p13 : lw_okq (⟨"TraceBuilder$Session", "finish", "(IJ)J"⟩, 9) := ⟨⟨by decide +kernel, by decide +kernel⟩, List.mem_of_getElem? (i := 80) (by decide +kernel), List.mem_of_getElem? (i := 312) (by decide +kernel), List.mem_of_getElem? (i := 313) (by decide +kernel)⟩
theorem lw_p14 : lw_okq (⟨"TraceBuilder$Session", "taskValue", "(I)J"⟩, 9) := ⟨⟨by decide +kernel, by decide +kernel⟩, List.mem_of_getElem? (i := 80) (by decide +kernel), List.mem_of_getElem? (i := 316) (by decide +kernel), List.mem_of_getElem? (i := 317) (by decide +kernel)⟩
theorem lw_p15 : lw_okq (⟨"TraceBuilder$Session", "agrees", "(LTraceBuilder$Trace;)Z"⟩, 9) := ⟨⟨by decide +kernel, by decide +kernel⟩, List.mem_of_getElem? (i := 80) (by decide +kernel), List.mem_of_getElem? (i := 321) (by decide +kernel), List.mem_of_getElem? (i := 322) (by decide +kernel)⟩
def lw_privs_1 : List (MethodName × Nat) := [(⟨"TraceBuilder$Memory", "tracesOf", "(I)I"⟩, 4), (⟨"TraceBuilder$Memory", "traceOf", "(II)LTraceBuilder$Trace;"⟩, 4), (⟨"java/lang/Throwable", "fillInStackTrace", "(I)Ljava/lang/Throwable;"⟩, 6), (⟨"TraceBuilder$Plan", "isInput", "(IJ)Z"⟩, 5), (⟨"TraceBuilder$Plan", "setInput", "(IJ)V"⟩, 5), (⟨"TraceBuilder$Memory", "dropKey", "(I)V"⟩, 4), (⟨"TraceBuilder$Memory", "entryAt", "(I)LTraceBuilder$Trace;"⟩, 4), (⟨"TraceBuilder$Memory", "clearCacheFrom", "(I)V"⟩, 4), (⟨"TraceBuilder$Plan", "isTask", "(IIIII)Z"⟩, 5), (⟨"TraceBuilder$Plan", "setTask", "(IIIII)V"⟩, 5), (⟨"TraceBuilder$Session", "result", "(LTraceBuilder$Memory;II)J"⟩, 9), (⟨"TraceBuilder$Session", "valueOf", "(I)J"⟩, 9), (⟨"TraceBuilder$Session", "fail", "(I)J"⟩, 9), (⟨"TraceBuilder$Session", "finish", "(IJ)J"⟩, 9), (⟨"TraceBuilder$Session", "taskValue", "(I)J"⟩, 9), (⟨"TraceBuilder$Session", "agrees", "(LTraceBuilder$Trace;)Z"⟩, 9)]
theorem lw_r1 : ∀ q ∈ lw_privs_1, lw_okq q := List.forall_mem_cons.mpr ⟨lw_p0, List.forall_mem_cons.mpr ⟨lw_p1, List.forall_mem_cons.mpr ⟨lw_p2, List.forall_mem_cons.mpr ⟨lw_p3, List.forall_mem_cons.mpr ⟨lw_p4, List.forall_mem_cons.mpr ⟨lw_p5, List.forall_mem_cons.mpr ⟨lw_p6, List.forall_mem_cons.mpr ⟨lw_p7, List.forall_mem_cons.mpr ⟨lw_p8, List.forall_mem_cons.mpr ⟨lw_p9, List.forall_mem_cons.mpr ⟨lw_p10, List.forall_mem_cons.mpr ⟨lw_p11, List.forall_mem_cons.mpr ⟨lw_p12, List.forall_mem_cons.mpr ⟨lw_p13, List.forall_mem_cons.mpr ⟨lw_p14, List.forall_mem_cons.mpr ⟨lw_p15, fun _ h => absurd h List.not_mem_nil⟩⟩⟩⟩⟩⟩⟩⟩⟩⟩⟩⟩⟩⟩⟩⟩
theorem lw_p16 : lw_okq (⟨"TraceBuilder$Session", "hasFailed", "()Z"⟩, 9) := ⟨⟨by decide +kernel, by decide +kernel⟩, List.mem_of_getElem? (i := 80) (by decide +kernel), List.mem_of_getElem? (i := 325) (by decide +kernel), List.mem_of_getElem? (i := 326) (by decide +kernel)⟩
theorem lw_p17 : lw_okq (⟨"TraceBuilder$Session", "agreeingEntry", "(I)LTraceBuilder$Trace;"⟩, 9) := ⟨⟨by decide +kernel, by decide +kernel⟩, List.mem_of_getElem? (i := 80) (by decide +kernel), List.mem_of_getElem? (i := 329) (by decide +kernel), List.mem_of_getElem? (i := 330) (by decide +kernel)⟩
theorem lw_p18 : lw_okq (⟨"TraceBuilder$Memory", "copyEntriesOf", "(I[LTraceBuilder$Trace;I)I"⟩, 4) := ⟨⟨by decide +kernel, by decide +kernel⟩, List.mem_of_getElem? (i := 56) (by decide +kernel), List.mem_of_getElem? (i := 333) (by decide +kernel), List.mem_of_getElem? (i := 334) (by decide +kernel)⟩
theorem lw_p19 : lw_okq (⟨"TraceBuilder$Memory", "give", "(ILTraceBuilder$Trace;)V"⟩, 4) := ⟨⟨by decide +kernel, by decide +kernel⟩, List.mem_of_getElem? (i := 56) (by decide +kernel), List.mem_of_getElem? (i := 337) (by decide +kernel), List.mem_of_getElem? (i := 338) (by decide +kernel)⟩
theorem lw_p20 : lw_okq (⟨"TraceBuilder$Session", "runTask", "(I)J"⟩, 9) := ⟨⟨by decide +kernel, by decide +kernel⟩, List.mem_of_getElem? (i := 80) (by decide +kernel), List.mem_of_getElem? (i := 341) (by decide +kernel), List.mem_of_getElem? (i := 342) (by decide +kernel)⟩
theorem lw_p21 : lw_okq (⟨"TraceBuilder$Session", "ruleValue", "(LTraceBuilder$Trace;)J"⟩, 9) := ⟨⟨by decide +kernel, by decide +kernel⟩, List.mem_of_getElem? (i := 80) (by decide +kernel), List.mem_of_getElem? (i := 376) (by decide +kernel), List.mem_of_getElem? (i := 377) (by decide +kernel)⟩
theorem lw_p22 : lw_okq (⟨"TraceBuilder$Session", "sum", "(LTraceBuilder$Trace;)J"⟩, 9) := ⟨⟨by decide +kernel, by decide +kernel⟩, List.mem_of_getElem? (i := 80) (by decide +kernel), List.mem_of_getElem? (i := 380) (by decide +kernel), List.mem_of_getElem? (i := 381) (by decide +kernel)⟩
theorem lw_p23 : lw_okq (⟨"TraceBuilder$Session", "askPart", "(LTraceBuilder$Trace;I)J"⟩, 9) := ⟨⟨by decide +kernel, by decide +kernel⟩, List.mem_of_getElem? (i := 80) (by decide +kernel), List.mem_of_getElem? (i := 384) (by decide +kernel), List.mem_of_getElem? (i := 385) (by decide +kernel)⟩
theorem lw_p24 : lw_okq (⟨"TraceBuilder$Session", "ask", "(LTraceBuilder$Trace;I)J"⟩, 9) := ⟨⟨by decide +kernel, by decide +kernel⟩, List.mem_of_getElem? (i := 80) (by decide +kernel), List.mem_of_getElem? (i := 388) (by decide +kernel), List.mem_of_getElem? (i := 389) (by decide +kernel)⟩
theorem lw_p25 : lw_okq (⟨"TraceBuilder$Trace", "note", "(IJ)V"⟩, 5) := ⟨⟨by decide +kernel, by decide +kernel⟩, List.mem_of_getElem? (i := 344) (by decide +kernel), List.mem_of_getElem? (i := 392) (by decide +kernel), List.mem_of_getElem? (i := 393) (by decide +kernel)⟩
theorem lw_p26 : lw_okq (⟨"TraceBuilder$Trace", "has", "(I)Z"⟩, 5) := ⟨⟨by decide +kernel, by decide +kernel⟩, List.mem_of_getElem? (i := 344) (by decide +kernel), List.mem_of_getElem? (i := 396) (by decide +kernel), List.mem_of_getElem? (i := 397) (by decide +kernel)⟩
theorem lw_p27 : lw_okq (⟨"TraceBuilder$Session", "product", "(LTraceBuilder$Trace;)J"⟩, 9) := ⟨⟨by decide +kernel, by decide +kernel⟩, List.mem_of_getElem? (i := 80) (by decide +kernel), List.mem_of_getElem? (i := 400) (by decide +kernel), List.mem_of_getElem? (i := 401) (by decide +kernel)⟩
theorem lw_p28 : lw_okq (⟨"TraceBuilder$Session", "quotient", "(LTraceBuilder$Trace;)J"⟩, 9) := ⟨⟨by decide +kernel, by decide +kernel⟩, List.mem_of_getElem? (i := 80) (by decide +kernel), List.mem_of_getElem? (i := 404) (by decide +kernel), List.mem_of_getElem? (i := 405) (by decide +kernel)⟩
theorem lw_p29 : lw_okq (⟨"TraceBuilder$Session", "rest", "(LTraceBuilder$Trace;)J"⟩, 9) := ⟨⟨by decide +kernel, by decide +kernel⟩, List.mem_of_getElem? (i := 80) (by decide +kernel), List.mem_of_getElem? (i := 412) (by decide +kernel), List.mem_of_getElem? (i := 413) (by decide +kernel)⟩
theorem lw_p30 : lw_okq (⟨"TraceBuilder$Session", "greatest", "(LTraceBuilder$Trace;)J"⟩, 9) := ⟨⟨by decide +kernel, by decide +kernel⟩, List.mem_of_getElem? (i := 80) (by decide +kernel), List.mem_of_getElem? (i := 416) (by decide +kernel), List.mem_of_getElem? (i := 417) (by decide +kernel)⟩
theorem lw_p31 : lw_okq (⟨"TraceBuilder$Session", "until", "(LTraceBuilder$Trace;)J"⟩, 9) := ⟨⟨by decide +kernel, by decide +kernel⟩, List.mem_of_getElem? (i := 80) (by decide +kernel), List.mem_of_getElem? (i := 423) (by decide +kernel), List.mem_of_getElem? (i := 424) (by decide +kernel)⟩
def lw_privs_2 : List (MethodName × Nat) := [(⟨"TraceBuilder$Session", "hasFailed", "()Z"⟩, 9), (⟨"TraceBuilder$Session", "agreeingEntry", "(I)LTraceBuilder$Trace;"⟩, 9), (⟨"TraceBuilder$Memory", "copyEntriesOf", "(I[LTraceBuilder$Trace;I)I"⟩, 4), (⟨"TraceBuilder$Memory", "give", "(ILTraceBuilder$Trace;)V"⟩, 4), (⟨"TraceBuilder$Session", "runTask", "(I)J"⟩, 9), (⟨"TraceBuilder$Session", "ruleValue", "(LTraceBuilder$Trace;)J"⟩, 9), (⟨"TraceBuilder$Session", "sum", "(LTraceBuilder$Trace;)J"⟩, 9), (⟨"TraceBuilder$Session", "askPart", "(LTraceBuilder$Trace;I)J"⟩, 9), (⟨"TraceBuilder$Session", "ask", "(LTraceBuilder$Trace;I)J"⟩, 9), (⟨"TraceBuilder$Trace", "note", "(IJ)V"⟩, 5), (⟨"TraceBuilder$Trace", "has", "(I)Z"⟩, 5), (⟨"TraceBuilder$Session", "product", "(LTraceBuilder$Trace;)J"⟩, 9), (⟨"TraceBuilder$Session", "quotient", "(LTraceBuilder$Trace;)J"⟩, 9), (⟨"TraceBuilder$Session", "rest", "(LTraceBuilder$Trace;)J"⟩, 9), (⟨"TraceBuilder$Session", "greatest", "(LTraceBuilder$Trace;)J"⟩, 9), (⟨"TraceBuilder$Session", "until", "(LTraceBuilder$Trace;)J"⟩, 9)]
theorem lw_r2 : ∀ q ∈ lw_privs_2, lw_okq q := List.forall_mem_cons.mpr ⟨lw_p16, List.forall_mem_cons.mpr ⟨lw_p17, List.forall_mem_cons.mpr ⟨lw_p18, List.forall_mem_cons.mpr ⟨lw_p19, List.forall_mem_cons.mpr ⟨lw_p20, List.forall_mem_cons.mpr ⟨lw_p21, List.forall_mem_cons.mpr ⟨lw_p22, List.forall_mem_cons.mpr ⟨lw_p23, List.forall_mem_cons.mpr ⟨lw_p24, List.forall_mem_cons.mpr ⟨lw_p25, List.forall_mem_cons.mpr ⟨lw_p26, List.forall_mem_cons.mpr ⟨lw_p27, List.forall_mem_cons.mpr ⟨lw_p28, List.forall_mem_cons.mpr ⟨lw_p29, List.forall_mem_cons.mpr ⟨lw_p30, List.forall_mem_cons.mpr ⟨lw_p31, fun _ h => absurd h List.not_mem_nil⟩⟩⟩⟩⟩⟩⟩⟩⟩⟩⟩⟩⟩⟩⟩⟩
theorem lw_p32 : lw_okq (⟨"TraceBuilder$Session", "limit", "(LTraceBuilder$Trace;)J"⟩, 9) := ⟨⟨by decide +kernel, by decide +kernel⟩, List.mem_of_getElem? (i := 80) (by decide +kernel), List.mem_of_getElem? (i := 429) (by decide +kernel), List.mem_of_getElem? (i := 430) (by decide +kernel)⟩
theorem lw_p33 : lw_okq (⟨"TraceBuilder$Memory", "append", "(LTraceBuilder$Trace;)V"⟩, 4) := ⟨⟨by decide +kernel, by decide +kernel⟩, List.mem_of_getElem? (i := 56) (by decide +kernel), List.mem_of_getElem? (i := 433) (by decide +kernel), List.mem_of_getElem? (i := 434) (by decide +kernel)⟩
theorem lw_p34 : lw_okq (⟨"TraceBuilder$Memory", "cutCacheTo", "(I)I"⟩, 4) := ⟨⟨by decide +kernel, by decide +kernel⟩, List.mem_of_getElem? (i := 56) (by decide +kernel), List.mem_of_getElem? (i := 437) (by decide +kernel), List.mem_of_getElem? (i := 438) (by decide +kernel)⟩
theorem lw_p35 : lw_okq (⟨"TraceBuilder$Memory", "dropTracesOf", "(I)I"⟩, 4) := ⟨⟨by decide +kernel, by decide +kernel⟩, List.mem_of_getElem? (i := 56) (by decide +kernel), List.mem_of_getElem? (i := 482) (by decide +kernel), List.mem_of_getElem? (i := 483) (by decide +kernel)⟩
theorem lw_p36 : lw_okq (⟨"TraceBuilder", "traceWith", "(III)LTraceBuilder$Trace;"⟩, 4) := ⟨⟨by decide +kernel, by decide +kernel⟩, List.mem_of_getElem? (i := 16) (by decide +kernel), List.mem_of_getElem? (i := 502) (by decide +kernel), List.mem_of_getElem? (i := 503) (by decide +kernel)⟩
theorem lw_p37 : lw_okq (⟨"TraceBuilder$Memory", "becomeCopyOf", "(LTraceBuilder$Memory;)V"⟩, 4) := ⟨⟨by decide +kernel, by decide +kernel⟩, List.mem_of_getElem? (i := 56) (by decide +kernel), List.mem_of_getElem? (i := 521) (by decide +kernel), List.mem_of_getElem? (i := 522) (by decide +kernel)⟩
theorem lw_p38 : lw_okq (⟨"TraceBuilderModel", "bad", "(Z)Z"⟩, 36) := ⟨⟨by decide +kernel, by decide +kernel⟩, List.mem_of_getElem? (i := 533) (by decide +kernel), List.mem_of_getElem? (i := 659) (by decide +kernel), List.mem_of_getElem? (i := 660) (by decide +kernel)⟩
theorem lw_p39 : lw_okq (⟨"TraceBuilderModel", "forgetKey", "(I)V"⟩, 36) := ⟨⟨by decide +kernel, by decide +kernel⟩, List.mem_of_getElem? (i := 533) (by decide +kernel), List.mem_of_getElem? (i := 663) (by decide +kernel), List.mem_of_getElem? (i := 664) (by decide +kernel)⟩
theorem lw_p40 : lw_okq (⟨"TraceBuilderModel", "session", "(II)J"⟩, 36) := ⟨⟨by decide +kernel, by decide +kernel⟩, List.mem_of_getElem? (i := 533) (by decide +kernel), List.mem_of_getElem? (i := 679) (by decide +kernel), List.mem_of_getElem? (i := 680) (by decide +kernel)⟩
theorem lw_p41 : lw_okq (⟨"TraceBuilderModel", "ask", "(I)Z"⟩, 36) := ⟨⟨by decide +kernel, by decide +kernel⟩, List.mem_of_getElem? (i := 533) (by decide +kernel), List.mem_of_getElem? (i := 683) (by decide +kernel), List.mem_of_getElem? (i := 684) (by decide +kernel)⟩
theorem lw_p42 : lw_okq (⟨"TraceBuilderModel", "goOn", "(I)V"⟩, 36) := ⟨⟨by decide +kernel, by decide +kernel⟩, List.mem_of_getElem? (i := 533) (by decide +kernel), List.mem_of_getElem? (i := 687) (by decide +kernel), List.mem_of_getElem? (i := 688) (by decide +kernel)⟩
theorem lw_p43 : lw_okq (⟨"TraceBuilderModel", "wanted", "(I)I"⟩, 36) := ⟨⟨by decide +kernel, by decide +kernel⟩, List.mem_of_getElem? (i := 533) (by decide +kernel), List.mem_of_getElem? (i := 691) (by decide +kernel), List.mem_of_getElem? (i := 692) (by decide +kernel)⟩
theorem lw_p44 : lw_okq (⟨"TraceBuilderModel", "end", "(I)V"⟩, 36) := ⟨⟨by decide +kernel, by decide +kernel⟩, List.mem_of_getElem? (i := 533) (by decide +kernel), List.mem_of_getElem? (i := 698) (by decide +kernel), List.mem_of_getElem? (i := 699) (by decide +kernel)⟩
theorem lw_p45 : lw_okq (⟨"TraceBuilderModel", "cut", "(I)I"⟩, 36) := ⟨⟨by decide +kernel, by decide +kernel⟩, List.mem_of_getElem? (i := 533) (by decide +kernel), List.mem_of_getElem? (i := 703) (by decide +kernel), List.mem_of_getElem? (i := 704) (by decide +kernel)⟩
theorem lw_p46 : lw_okq (⟨"TraceBuilderModel", "finish", "(IJ)V"⟩, 36) := ⟨⟨by decide +kernel, by decide +kernel⟩, List.mem_of_getElem? (i := 533) (by decide +kernel), List.mem_of_getElem? (i := 707) (by decide +kernel), List.mem_of_getElem? (i := 708) (by decide +kernel)⟩
theorem lw_p47 : lw_okq (⟨"TraceBuilderModel", "take", "(IJ)V"⟩, 36) := ⟨⟨by decide +kernel, by decide +kernel⟩, List.mem_of_getElem? (i := 533) (by decide +kernel), List.mem_of_getElem? (i := 711) (by decide +kernel), List.mem_of_getElem? (i := 712) (by decide +kernel)⟩
def lw_privs_3 : List (MethodName × Nat) := [(⟨"TraceBuilder$Session", "limit", "(LTraceBuilder$Trace;)J"⟩, 9), (⟨"TraceBuilder$Memory", "append", "(LTraceBuilder$Trace;)V"⟩, 4), (⟨"TraceBuilder$Memory", "cutCacheTo", "(I)I"⟩, 4), (⟨"TraceBuilder$Memory", "dropTracesOf", "(I)I"⟩, 4), (⟨"TraceBuilder", "traceWith", "(III)LTraceBuilder$Trace;"⟩, 4), (⟨"TraceBuilder$Memory", "becomeCopyOf", "(LTraceBuilder$Memory;)V"⟩, 4), (⟨"TraceBuilderModel", "bad", "(Z)Z"⟩, 36), (⟨"TraceBuilderModel", "forgetKey", "(I)V"⟩, 36), (⟨"TraceBuilderModel", "session", "(II)J"⟩, 36), (⟨"TraceBuilderModel", "ask", "(I)Z"⟩, 36), (⟨"TraceBuilderModel", "goOn", "(I)V"⟩, 36), (⟨"TraceBuilderModel", "wanted", "(I)I"⟩, 36), (⟨"TraceBuilderModel", "end", "(I)V"⟩, 36), (⟨"TraceBuilderModel", "cut", "(I)I"⟩, 36), (⟨"TraceBuilderModel", "finish", "(IJ)V"⟩, 36), (⟨"TraceBuilderModel", "take", "(IJ)V"⟩, 36)]
theorem lw_r3 : ∀ q ∈ lw_privs_3, lw_okq q := List.forall_mem_cons.mpr ⟨lw_p32, List.forall_mem_cons.mpr ⟨lw_p33, List.forall_mem_cons.mpr ⟨lw_p34, List.forall_mem_cons.mpr ⟨lw_p35, List.forall_mem_cons.mpr ⟨lw_p36, List.forall_mem_cons.mpr ⟨lw_p37, List.forall_mem_cons.mpr ⟨lw_p38, List.forall_mem_cons.mpr ⟨lw_p39, List.forall_mem_cons.mpr ⟨lw_p40, List.forall_mem_cons.mpr ⟨lw_p41, List.forall_mem_cons.mpr ⟨lw_p42, List.forall_mem_cons.mpr ⟨lw_p43, List.forall_mem_cons.mpr ⟨lw_p44, List.forall_mem_cons.mpr ⟨lw_p45, List.forall_mem_cons.mpr ⟨lw_p46, List.forall_mem_cons.mpr ⟨lw_p47, fun _ h => absurd h List.not_mem_nil⟩⟩⟩⟩⟩⟩⟩⟩⟩⟩⟩⟩⟩⟩⟩⟩
theorem lw_p48 : lw_okq (⟨"TraceBuilderModel", "check", "(I)V"⟩, 36) := ⟨⟨by decide +kernel, by decide +kernel⟩, List.mem_of_getElem? (i := 533) (by decide +kernel), List.mem_of_getElem? (i := 715) (by decide +kernel), List.mem_of_getElem? (i := 716) (by decide +kernel)⟩
theorem lw_p49 : lw_okq (⟨"TraceBuilderModel", "nextCandidate", "(I)V"⟩, 36) := ⟨⟨by decide +kernel, by decide +kernel⟩, List.mem_of_getElem? (i := 533) (by decide +kernel), List.mem_of_getElem? (i := 719) (by decide +kernel), List.mem_of_getElem? (i := 720) (by decide +kernel)⟩
theorem lw_p50 : lw_okq (⟨"TraceBuilderModel", "freeTrace", "()I"⟩, 36) := ⟨⟨by decide +kernel, by decide +kernel⟩, List.mem_of_getElem? (i := 533) (by decide +kernel), List.mem_of_getElem? (i := 723) (by decide +kernel), List.mem_of_getElem? (i := 724) (by decide +kernel)⟩
theorem lw_p51 : lw_okq (⟨"TraceBuilderModel", "tracesOf", "(I)I"⟩, 36) := ⟨⟨by decide +kernel, by decide +kernel⟩, List.mem_of_getElem? (i := 533) (by decide +kernel), List.mem_of_getElem? (i := 738) (by decide +kernel), List.mem_of_getElem? (i := 739) (by decide +kernel)⟩
theorem lw_p52 : lw_okq (⟨"TraceBuilderModel", "traceWith", "(III)I"⟩, 36) := ⟨⟨by decide +kernel, by decide +kernel⟩, List.mem_of_getElem? (i := 533) (by decide +kernel), List.mem_of_getElem? (i := 750) (by decide +kernel), List.mem_of_getElem? (i := 751) (by decide +kernel)⟩
def lw_privs_4 : List (MethodName × Nat) := [(⟨"TraceBuilderModel", "check", "(I)V"⟩, 36), (⟨"TraceBuilderModel", "nextCandidate", "(I)V"⟩, 36), (⟨"TraceBuilderModel", "freeTrace", "()I"⟩, 36), (⟨"TraceBuilderModel", "tracesOf", "(I)I"⟩, 36), (⟨"TraceBuilderModel", "traceWith", "(III)I"⟩, 36)]
theorem lw_r4 : ∀ q ∈ lw_privs_4, lw_okq q := List.forall_mem_cons.mpr ⟨lw_p48, List.forall_mem_cons.mpr ⟨lw_p49, List.forall_mem_cons.mpr ⟨lw_p50, List.forall_mem_cons.mpr ⟨lw_p51, List.forall_mem_cons.mpr ⟨lw_p52, fun _ h => absurd h List.not_mem_nil⟩⟩⟩⟩⟩
def lw_privs : List (MethodName × Nat) := lw_privs_1 ++ (lw_privs_2 ++ (lw_privs_3 ++ (lw_privs_4)))
def lw_tbl : List Cond := k2_sels lw_privs ++ tables_1
theorem lw_privs_ok : ∀ q ∈ lw_privs, lw_okq q := by
  show ∀ q ∈ lw_privs_1 ++ (lw_privs_2 ++ (lw_privs_3 ++ (lw_privs_4))), lw_okq q
  exact List.forall_mem_append.mpr ⟨lw_r1, List.forall_mem_append.mpr ⟨lw_r2, List.forall_mem_append.mpr ⟨lw_r3, lw_r4⟩⟩⟩
-- ===== end of PART A; then your names; then what follows =====
end
section
def va_AOA (t : FieldType) (U : State) : Prop := (Cond.arrayOver (.array t)).before #[] U = true
theorem va_AOA.of {t : FieldType} {A : Array Value} {U : State} (h : (Cond.arrayOver (.array t)).before A U = true) : va_AOA t U := h
theorem va_AOA.use {t : FieldType} {A : Array Value} {U : State} (h : va_AOA t U) : (Cond.arrayOver (.array t)).before A U = true := h
theorem va_AOA.moved {t : FieldType} {u U : State} (hvm : u.vm.Alike U.vm) (h : va_AOA t u) : va_AOA t U := by
  obtain ⟨comp, c, k, h1, h2, h3, h4, h5⟩ := arrayOverA_spec h
  obtain ⟨k', hk', he⟩ := hvm.2.2 _ _ h3
  have e1 := va_idx_bare U.vm comp
  have e2 := va_idx_bare u.vm comp
  have hi : (U.vm.classes.findIdx? fun (x : Class) => match x.kind with | .array component _ => component == comp | _ => false) = some c := by
    first | rw [hvm.bare_eq] at e1 | rw [← hvm.bare_eq] at e1
    exact e1.symm.trans (e2.trans h2)
  have hkind : k'.kind = .array comp (.array t) := by rw [he]; exact h4
  have f1 : U.vm.findClass (FieldType.array t).toString = some comp := by rw [hvm.findClass]; exact h1
  have f2 : U.vm.findClass ("[" ++ (FieldType.array t).toString) = some c := by rw [hvm.findClass]; exact h5
  unfold va_AOA Cond.before Cond.holds
  simp only [Cond.value]
  rw [f1, Option.bind_some]
  refine (congrArg (fun o : Option Nat => (o.bind (fun c => (U.vm.classes[c]?).map fun (k : Class) => match k.kind with | .array _ ty => decide (ty = FieldType.array t) && decide (U.vm.findClass ("[" ++ (FieldType.array t).toString) = some c) | _ => false) == some true)) hi).trans ?_
  simp [hk', hkind, f2]
end
section
/-! ===== BEGIN words of one list among another's, by their places ===== -/
theorem goodIn_r {big : List Cond} (ws : List Cond) (ps : List Nat) (hp : ws = ps.filterMap (fun i => big[i]?)) (h : ws.all goodWord = true) : GoodIn big ws := by
  intro w hw
  have h1 := List.all_eq_true.mp h w hw
  rw [hp] at hw
  obtain ⟨i, -, hi⟩ := List.mem_filterMap.mp hw
  have hm : w ∈ big := by first | exact List.mem_of_getElem? hi | exact List.getElem?_mem hi
  exact ⟨hm, good_of_word h1⟩
theorem goodIn_app {big a b : List Cond} (ha : GoodIn big a) (hb : GoodIn big b) : GoodIn big (a ++ b) := fun w h => (List.mem_append.mp h).elim (ha w) (hb w)
theorem goodIn_ca {big a b : List Cond} {c : Cond} (ha : GoodIn big (c :: a)) (hb : GoodIn big b) : GoodIn big (c :: (a ++ b)) := fun w h => (List.mem_cons.mp h).elim (fun e => ha w (List.mem_cons.mpr (Or.inl e))) (fun h => (List.mem_append.mp h).elim (fun h => ha w (List.mem_cons.mpr (Or.inr h))) (hb w))
theorem goodIn_sub {big ws : List Cond} (hm : ∀ w ∈ ws, w ∈ big) (h : ws.all goodWord = true) : GoodIn big ws := fun w hw => ⟨hm w hw, good_of_word (List.all_eq_true.mp h w hw)⟩
/-! ===== END ===== -/

/-! ===== BEGIN new T[n][m]: the outer array a place, the inner ones among the pooled ===== -/
/-- f, but v at every address of l -/
def vr_up {α : Type} (f : Nat → α) (l : List Nat) (v : α) : Nat → α := fun a => if a ∈ l then v else f a
theorem vr_up_in {α : Type} {f : Nat → α} {l : List Nat} {v : α} {a : Nat} (h : a ∈ l) : vr_up f l v a = v := if_pos h
theorem vr_up_ne {α : Type} {f : Nat → α} {l : List Nat} {v : α} {a : Nat} (h : a ∉ l) : vr_up f l v a = f a := if_neg h
theorem vr_rows {L l : List Nat} {f : Nat → va_E} {e : va_E} (h : ∀ a, a ∈ l → a ∉ L) : va_pl L f ++ l.map (fun a => (a, e)) = va_pl (L ++ l) (vr_up f l e) := by
  unfold va_pl
  rw [List.map_append]
  congr 1
  · apply List.map_congr_left
    intro a ha
    rw [vr_up_ne (fun q => h a q ha)]
  · apply List.map_congr_left
    intro a ha
    rw [vr_up_in ha]
theorem vr_lay {X rows : va_W} {x : Nat × va_E} {pl : va_W} {D : va_G} {cl : List vw_C} {H : Heap} (hP : va_P D cl (((X ++ pl) ++ [x]) ++ rows) H) : va_P D cl ((X ++ [x]) ++ (pl ++ rows)) H := by
  rw [List.append_assoc (X ++ pl)] at hP
  have h := va_P.swap hP
  rw [← List.append_assoc X] at h
  have h2 := va_P.swap h
  rw [List.append_assoc (X ++ [x])] at h2
  exact h2
theorem vr_layD {X rows : va_W} {x : Nat × va_E} {pl : va_W} {A : Nat → Prop} (hD : va_D A (((X ++ pl) ++ [x]) ++ rows)) : va_D A ((X ++ [x]) ++ (pl ++ rows)) := by
  rw [List.append_assoc (X ++ pl)] at hD
  have h := va_D.swap hD
  rw [← List.append_assoc X] at h
  have h2 := va_D.swap h
  rw [List.append_assoc (X ++ [x])] at h2
  exact h2
theorem vr_outer (c : ClassId) (N h0 : Nat) : ∀ i : Nat, Jvm.Free.Multi.outerC c N h0 i = arrV c N (fun j => va_rf (if j < i then some (h0 + 1 + j) else none))
  | 0 => by
    show ({ cls := c, slots := Array.replicate N .null, vm := .none } : Cell) = _
    rw [arrV_new]
    refine congrArg (arrV c N) (funext fun j => ?_)
    simp [va_rf]
  | i + 1 => by
    show (Jvm.Free.Multi.outerC c N h0 i).setSlot i (.ref (h0 + 1 + i)) = _
    rw [vr_outer c N h0 i, arrV_store]
    refine congrArg (arrV c N) (funext fun j => ?_)
    by_cases e : j = i
    · subst e
      simp [updV, va_rf]
    · by_cases h : j < i
      · simp [updV, e, h, Nat.lt_succ_of_lt h]
      · simp [updV, e, h, show ¬ j < i + 1 by omega]
section VGM
variable {p : Program} {l : Launch} {e : Env} {R : Room} {s : State} {m : MethodId} {args : Array Value} {below : List Frame} {meth : Method} {c : Code} {H : Heap} {locs : List Loc} {cells slots : Nat} {Q : State → Prop}
variable {cc : ByteArray} {pc : Nat} {ls : Array Slot} {rest : List Value} {D : va_G} {cl : List vw_C} {A : Nat → Prop} {a : Nat} {tys : List (ClassId × FieldType)} {ws : va_W} {H0 : Heap}
theorem va_mna {X : va_W} {L : List Nat} {f : Nat → va_E} {cc : ByteArray} (hexec : p.tables.exec = Jvm.exec) (hb : c.code = cc) {own : String} {index : Nat} {ty : FieldType} {cy : ClassId} (hown : s.vm.findClass own = some m.cls) (hclink : (Cond.classLink own index ("[" ++ (FieldType.array ty).toString)).before args s = true) (hover : va_AOA ty s) (harr : (Cond.arrayClass ty).before args s = true) (hcy : s.vm.findClass (FieldType.array ty).toString = some cy)
    (hK : va_K D cl tys s) (hP : va_P D cl (X ++ va_pl L f) H) (hD : va_D A (X ++ va_pl L f)) (hS : va_S A H0 H locs) (hA : ∀ q, H0.size ≤ q → A q) {n k : Int32} {N' K' : Nat} {z : vp_A} (hn : ¬ n < 0) (hk : ¬ k < 0) (hN : n.toNatClampNeg = N') (hM : k.toNatClampNeg = K')
    (hb1 : N' * 4 ≤ 536870912) (hb2 : K' * componentBytes ty ≤ 536870912) (hb3 : K' ≤ 536870912) (hdf : fits ty (defaultValue ty) = true) (hdd : (defaultValue ty).isDefault = true) (hcells : cells + (1 + N') ≤ R.cells) (hslots : slots + (N' + N' * K') ≤ R.slots) (hz : ∀ c : ClassId, Jvm.Free.Multi.innerC c K' (defaultValue ty) = vp_cell c z) (hdg : decode cc pc = .ok (.multianewarray index 2, 4))
    (kk : ∀ (q : Nat) (r : Nat → Nat) (cA : ClassId) (H1 : Heap), (∀ i j : Nat, i < N' → j < N' → r i = r j → i = j) → (∀ i : Nat, i < N' → r i ∉ L) → va_K D cl (tys ++ [(cA, .array ty)]) s →
      va_P D cl ((X ++ [(q, .inl (cA, N', .inr (.inr (.inr (.inr (fun i => if i < N' then some (r i) else none))))))]) ++ va_pl (L ++ (List.range N').map r) (vr_up f ((List.range N').map r) (.inl (cy, z)))) H1 → va_D A ((X ++ [(q, .inl (cA, N', .inr (.inr (.inr (.inr (fun i => if i < N' then some (r i) else none))))))]) ++ va_pl (L ++ (List.range N').map r) (vr_up f ((List.range N').map r) (.inl (cy, z)))) → va_S A H0 H1 locs →
      W p l e R s m args below meth c H1 locs (cells + 1 + N') (slots + N' + N' * K') Q (F0 m (pc + 4) ls (.ref q :: rest))) : W p l e R s m args below meth c H locs cells slots Q (F0 m pc ls (.int k :: .int n :: rest)) := by
  subst hN
  subst hM
  intro T hT Xs
  obtain ⟨vm₁, cA, comp, -, fA, fC, hO, -, X', step⟩ := Xs.multianewarray2F hexec hown hclink (va_AOA.use hover) harr (g := F0 m pc ls (.int k :: .int n :: rest)) rfl (by rw [hb]; exact hdg) rfl hn hk hb1 hb2 hb3 hdf hdd hcells hslots
  have ec : some cy = some comp := hcy.symm.trans fC
  cases ec
  generalize hF : Jvm.Free.Multi.fill (T.setVm vm₁) cA cy n.toNatClampNeg k.toNatClampNeg (defaultValue ty) n.toNatClampNeg = F at X' step
  have hTh : (T.setVm vm₁).heap = H := hT
  obtain ⟨f1, f2, -, -⟩ := Jvm.Free.Multi.fill_facts (T.setVm vm₁) cA cy n.toNatClampNeg k.toNatClampNeg (defaultValue ty) n.toNatClampNeg
  rw [hF, hTh] at f1 f2
  have hold : ∀ x : Nat, x < H.size → F.heap[x]? = H[x]? := fun x hx => by
    have := Jvm.Free.Multi.fill_old (T.setVm vm₁) cA cy n.toNatClampNeg k.toNatClampNeg (defaultValue ty) (a := x) (by rw [hTh]; exact hx) n.toNatClampNeg
    rw [hF, hTh] at this
    exact this
  have hrow : ∀ j : Nat, j < n.toNatClampNeg → F.heap[H.size + 1 + j]? = some (vp_cell cy z) := fun j hj => by
    have := Jvm.Free.Multi.fill_inner (T.setVm vm₁) cA cy n.toNatClampNeg k.toNatClampNeg (defaultValue ty) n.toNatClampNeg j hj
    rw [hF, hTh, hz] at this
    exact this
  have hout : Jvm.Free.Multi.outerC cA n.toNatClampNeg H.size n.toNatClampNeg = vp_cell cA (n.toNatClampNeg, .inr (.inr (.inr (.inr (fun i => if i < n.toNatClampNeg then some (H.size + 1 + i) else none))))) := by
    rw [vp_cell_q]
    exact vr_outer cA n.toNatClampNeg H.size n.toNatClampNeg
  rw [hout] at f2
  have hlt : ∀ a, a ∈ L → a < H.size := fun a ha => by
    obtain ⟨k9, hk9⟩ := va_pl_get (X := X) (f := f) ha
    exact (hP k9 _ hk9).lt
  have hnl : ∀ i : Nat, i < n.toNatClampNeg → H.size + 1 + i ∉ L := fun i _ h => by
    have := hlt _ h
    omega
  have hnm : ∀ a, a ∈ (List.range n.toNatClampNeg).map (fun i => H.size + 1 + i) → a ∉ L := fun a ha h => by
    obtain ⟨i, -, rfl⟩ := List.mem_map.mp ha
    have := hlt _ h
    omega
  have hP0 : va_P D cl (X ++ va_pl L f) F.heap := hP.kept (fun k9 x hx => hold x.1 ((hP k9 x hx).lt))
  have hP1 : va_P D cl ((X ++ va_pl L f) ++ [(H.size, .inl (cA, n.toNatClampNeg, .inr (.inr (.inr (.inr (fun i => if i < n.toNatClampNeg then some (H.size + 1 + i) else none))))))]) F.heap := hP0.app (fun k9 x hx => by
    have h0 : k9 < 1 := (List.getElem?_eq_some_iff.mp hx).1
    rw [show k9 = 0 by omega] at hx
    cases hx
    exact f2)
  have hP2 : va_P D cl (((X ++ va_pl L f) ++ [(H.size, .inl (cA, n.toNatClampNeg, .inr (.inr (.inr (.inr (fun i => if i < n.toNatClampNeg then some (H.size + 1 + i) else none))))))]) ++ ((List.range n.toNatClampNeg).map (fun i => H.size + 1 + i)).map (fun a => (a, .inl (cy, z)))) F.heap := hP1.app (fun k9 x hx => by
    obtain ⟨a, ha, rfl⟩ := List.mem_map.mp (List.mem_of_getElem? hx)
    obtain ⟨i, hi, rfl⟩ := List.mem_map.mp ha
    exact hrow i (List.mem_range.mp hi))
  have hD2 : va_D A (((X ++ va_pl L f) ++ [(H.size, .inl (cA, n.toNatClampNeg, .inr (.inr (.inr (.inr (fun i => if i < n.toNatClampNeg then some (H.size + 1 + i) else none))))))]) ++ ((List.range n.toNatClampNeg).map (fun i => H.size + 1 + i)).map (fun a => (a, .inl (cy, z)))) := by
    have hD1 := hD.push (e := .inl (cA, n.toNatClampNeg, .inr (.inr (.inr (.inr (fun i => if i < n.toNatClampNeg then some (H.size + 1 + i) else none)))))) hP rfl (hA _ hS.1)
    generalize hW1 : (X ++ va_pl L f) ++ [(H.size, .inl (cA, n.toNatClampNeg, .inr (.inr (.inr (.inr (fun i => if i < n.toNatClampNeg then some (H.size + 1 + i) else none))))))] = W1 at hD1 hP1 ⊢
    have hle : ∀ (k9 : Nat) (x : Nat × va_E), W1[k9]? = some x → x.1 ≤ H.size := fun k9 x hx => by
      rw [← hW1] at hx
      by_cases hl : k9 < (X ++ va_pl L f).length
      · rw [List.getElem?_append_left hl] at hx
        exact Nat.le_of_lt ((hP k9 x hx).lt)
      · rw [List.getElem?_append_right (by omega)] at hx
        have h0 : k9 - (X ++ va_pl L f).length < 1 := (List.getElem?_eq_some_iff.mp hx).1
        rw [show k9 - (X ++ va_pl L f).length = 0 by omega] at hx
        cases hx
        exact Nat.le_refl _
    have hr : ∀ (k9 : Nat) (x : Nat × va_E), (((List.range n.toNatClampNeg).map (fun i => H.size + 1 + i)).map (fun a => ((a, .inl (cy, z)) : Nat × va_E)))[k9]? = some x → x.1 = H.size + 1 + k9 := fun k9 x hx => by
      rw [List.getElem?_map, List.getElem?_map] at hx
      by_cases h9 : k9 < n.toNatClampNeg
      · rw [List.getElem?_range h9] at hx
        cases hx
        rfl
      · have hn0 : (List.range n.toNatClampNeg)[k9]? = none := List.getElem?_eq_none (by rw [List.length_range]; omega)
        rw [hn0] at hx
        cases hx
    refine ⟨fun i j x y hi hj hxy => ?_, fun k9 x hx => ?_⟩
    · by_cases h1 : i < W1.length <;> by_cases h2 : j < W1.length
      · rw [List.getElem?_append_left h1] at hi
        rw [List.getElem?_append_left h2] at hj
        exact hD1.1 i j x y hi hj hxy
      · rw [List.getElem?_append_left h1] at hi
        rw [List.getElem?_append_right (by omega)] at hj
        have := hle _ _ hi
        have := hr _ _ hj
        omega
      · rw [List.getElem?_append_right (by omega)] at hi
        rw [List.getElem?_append_left h2] at hj
        have := hle _ _ hj
        have := hr _ _ hi
        omega
      · rw [List.getElem?_append_right (by omega)] at hi hj
        have := hr _ _ hi
        have := hr _ _ hj
        omega
    · by_cases h1 : k9 < W1.length
      · rw [List.getElem?_append_left h1] at hx
        exact hD1.2 k9 x hx
      · rw [List.getElem?_append_right (by omega)] at hx
        have := hr _ _ hx
        exact hA _ (by have := hS.1; omega)
  have hAr : ArrOfT s cA (.array ty) := fun N9 z9 => by
    obtain ⟨-, k9, hk9, cm9, hkk9⟩ := (hO 0 0 0).1
    exact ⟨(fun q hq => by cases hq), k9, hk9, cm9, hkk9⟩
  have hK2 : va_K D cl (tys ++ [(cA, .array ty)]) s := ⟨hK.1, fun k9 x hx => by
    by_cases hl : k9 < tys.length
    · rw [List.getElem?_append_left hl] at hx
      exact hK.2 k9 x hx
    · rw [List.getElem?_append_right (by omega)] at hx
      have h0 : k9 - tys.length < 1 := (List.getElem?_eq_some_iff.mp hx).1
      rw [show k9 - tys.length = 0 by omega] at hx
      cases hx
      exact ⟨hAr, fA⟩⟩
  obtain ⟨t, a1, b1⟩ := kk H.size (fun i => H.size + 1 + i) cA F.heap (fun i j _ _ h => by have h9 : H.size + 1 + i = H.size + 1 + j := h; omega) hnl hK2 (by rw [← vr_rows hnm]; exact vr_lay hP2) (by rw [← vr_rows hnm]; exact vr_layD hD2) ⟨by rw [f1]; have := hS.1; omega, fun x h1 h2 => (hold x (Nat.lt_of_lt_of_le h1 hS.1)).trans (hS.2.1 x h1 h2), hS.2.2⟩ F rfl X'
  refine ⟨t, step t ?_, b1⟩
  have e : T.heap.size = H.size := by rw [hT]
  rw [e]
  exact a1
end VGM
/-! ===== END ===== -/

/-! ===== BEGIN exceptions that leave a method, and their catching by the caller (launches without stack traces) ===== -/
section VXA
/-! The laws vx_back, vx_callV, vx_callS, vx_callSW, vx_throw0, vx_throwS follow proofs of the library, with one case more: JvmDerived/Free/Laws.lean (Back.of_free), Shelf42/LK1.lean (callV, callS), Shelf/KitTraced.lean (throwNew0V, throwNewS). -/

/-- where a method has thrown q: the class by its name, the cell, what was written, the world -/
def vx_T (XC : String → State → State → Prop) (st : State) (q : Addr) (t : State) (mc ms : Nat) (free : Addr → Prop) : Prop :=
  ∃ (E : String) (ce : Cell) (L : List Loc), XC E st t ∧ t.heap[q]? = some ce ∧ ce.vm = .none ∧ st.vm.findClass E = some ce.cls ∧ st.WarmedH t.vm ∧ st.sameButNew ({ t with vm := st.vm } : State) L mc ms ∧ ∀ z ∈ L, free z.base
def vx_Q (Qc : Array Value → State → Outcome → State → Prop) (XC : String → State → State → Prop) (mc ms : Nat) (free : Addr → Prop) : Array Value → State → Outcome → State → Prop := fun a st o t =>
  (Qc a st o t ∧ ∃ L, FrameEnd st o t L mc ms ∧ ∀ q ∈ L, free q.base) ∨ ∃ q, o = .threw q ∧ vx_T XC st q t mc ms free
/-- a callee that returns or throws -/
def vx_Met (l : Launch) (y : MethodName) (ws : List Cond) (rm : Room) (Pc : Array Value → State → Prop) (Qc : Array Value → State → Outcome → State → Prop) (XC : String → State → State → Prop) (mc ms : Nat) (free : Addr → Prop) : Prop :=
  MetFree l y (headSpec ws rm) Pc (fun _ _ _ _ _ => True) (vx_Q Qc XC mc ms free)
def vx_Post (XC : String → State → State → Prop) (mc ms : Nat) (free : Addr → Prop) : Pt → Array Value → Addr → Pt → Prop := fun A a q B =>
  ∃ (g : JFrame) (mk : MethodId) (t : State) (L : List Loc) (E : String) (ce : Cell), B.U.heap = t.heap ∧ B.U.vm = t.vm ∧ XC E (A.U.calling g mk a) t ∧ t.heap[q]? = some ce ∧ ce.vm = .none ∧ A.U.vm.findClass E = some ce.cls ∧ B.locs = A.locs ++ L ∧ (∀ z ∈ L, free z.base) ∧ B.cells = A.cells + mc ∧ B.slots = A.slots + ms
def vx_Back (l : Launch) (R : Room) (p : Program) (e : Env) (below : List Frame) (s : State) (sargs : Array Value) (y : MethodName) (len W9 : Nat)
    (Pre : Pt → Array Value → Prop) (Post : Pt → Array Value → Option Value → Pt → Prop) (PostX : Pt → Array Value → Addr → Pt → Prop) : Prop :=
  ∀ (m : MethodId) (meth : Method) (c : Code) (A : Pt) (g : JFrame) (ig : Instr) (mk : MethodId) (a : Array Value),
    Stand p l e R s m sargs below meth c A.U A.locs A.cells A.slots → g.method = m → g.locals.size = c.maxLocals → decode c.code g.pc = .ok (ig, len) →
    2 * g.monitorRoom + (g.stack.map fun v => v.category).sum ≤ W9 → A.U.methodNamed? y = some mk → Pre A a →
    (∃ (v : Option Value) (B : Pt), Stand p l e R s m sargs below meth c B.U B.locs B.cells B.slots ∧ Post A a v B ∧
      Steps p.tables e below (doInvoke e (A.U.setTop g) [] mk a).1 (B.U.setTop { g with pc := g.pc + len, stack := v.toList ++ g.stack })) ∨
    (∃ (q : Addr) (B : Pt), Stand p l e R s m sargs below meth c B.U B.locs B.cells B.slots ∧ PostX A a q B ∧
      Steps p.tables e below (doInvoke e (A.U.setTop g) [] mk a).1 ((B.U.setTop g).pushFrame (.throwing q)))
section Payer
variable {l : Launch} {R : Room} {p : Program} {e : Env} {below : List Frame} {s : State} {sargs : Array Value} {y : MethodName} {len W9 : Nat}
theorem vx_back {ws : List Cond} {rm : Room} {Pc : Array Value → State → Prop} {Qc : Array Value → State → Outcome → State → Prop} {XC : String → State → State → Prop} {mc ms : Nat} {free : Addr → Prop} {bytes : ByteArray} {maxL : Nat} {ret : Option FieldType}
    (hM : vx_Met l y ws rm Pc Qc XC mc ms free) (hblind : FrameBlind Pc) (hrc : rm.cells = mc) (hrs : rm.slots = ms)
    (hframes : rm.frames + 1 ≤ R.frames) (hlocals : W9 + (maxL + 11) + rm.locals ≤ R.locals)
    (hws : ∀ w ∈ ws, ∀ a' U, s.WarmedH U.vm → w.before a' U = true) (hcode : Cond.code y bytes maxL ret ∈ ws) (hinit : ∀ a' U, s.WarmedH U.vm → (Cond.initialized y.cls).before a' U = true) :
    vx_Back l R p e below s sargs y len W9 (PreOf R mc ms Pc) (PostOf Qc mc ms free) (vx_Post XC mc ms free) := by
  intro m meth c A g ig mk a X hg hsize hdg hW hn hp
  have h1 : (headSpec ws rm).pre.before a A.U = true := atoms_intro fun w hw => hws w hw _ _ X.warmed
  have h2 : (Cond.code y bytes maxL ret).before a A.U = true := hws _ hcode _ _ X.warmed
  have h3 : (Cond.initialized y.cls).before a A.U = true := hinit _ _ X.warmed
  have h4 : A.cells + (headSpec ws rm).room.cells ≤ R.cells := by rw [show (headSpec ws rm).room.cells = mc from hrc]; exact hp.1
  have h5 : A.slots + (headSpec ws rm).room.slots ≤ R.slots := by rw [show (headSpec ws rm).room.slots = ms from hrs]; exact hp.2.1
  have hPc : Pc a (A.U.calling g mk a) := hblind _ _ _ _ hp.2.2
  obtain ⟨U, Ls, c0, s0⟩ := A
  dsimp only [Pt.U, Pt.locs, Pt.cells, Pt.slots] at h1 h2 h3 h4 h5 X hn hPc ⊢
  obtain ⟨methY, cY, hmY, hcY, -, hlY, -, -, -, -⟩ := Cond.code_spec hn h2
  obtain ⟨kY, hkY, -⟩ := className_of_methodNamed hn
  have hinitY : kY.init = .initialized := Cond.initialized_spec (findClass_of_methodNamed hn) hkY h3
  have h : At U g.method c below := by rw [hg]; exact X.here
  have hlocals9 : W9 + (maxL + 11) + (headSpec ws rm).room.locals ≤ R.locals := hlocals
  have happ : (headSpec ws rm).appliesLoose y e.platform (U.calling g mk a) = true :=
    Spec.appliesLoose_calling (g := g) h hdg hn hkY hinitY
      (X.room_calling (g := g) (R' := (headSpec ws rm).room) hsize hmY hcY hframes (by rw [hlY]; omega) h4 h5) h1
  obtain ⟨mid, hmid⟩ := h.above
  have hfr : (U.setTop g).frames = (.java g :: mid) ++ below := by rw [State.frames_setTop' g h.top, hmid]; rfl
  obtain ⟨o, s₂, hsteps, -, hend, hq⟩ := Steps.callFree hM p X.admits X.cas X.clock (acts := []) hfr happ hPc trivial
  have hq' : vx_Q Qc XC mc ms free a (U.calling g mk a) o s₂ := hq
  rw [State.frames_setTop' g h.top] at hend
  obtain ⟨g₀, hg0⟩ := Option.isSome_iff_exists.mp h.top
  obtain ⟨r, hr⟩ := State.topJava?_eq_some.mp hg0
  have hr' : (({ U with heap := s₂.heap, slotsUsed := s₂.slotsUsed } : State).setVm s₂.vm).frames = .java g₀ :: r := hr
  rcases hq' with ⟨hqc, L, hfe, hL⟩ | ⟨q, rfl, E, ce, L, hx, hce, hcv, hcl, hW₂, hsm, hL⟩
  · obtain ⟨⟨v, rfl⟩, hW₂, e2, q2, q3, q4, q5, q6⟩ := id hfe
    have e3 : s₂ = ({ (U.calling g mk a).setFrames s₂.frames with heap := s₂.heap, slotsUsed := s₂.slotsUsed } : State).setVm s₂.vm := by
      have : s₂ = ({ s₂ with vm := (U.calling g mk a).vm } : State).setVm s₂.vm := rfl
      rw [e2] at this
      exact this
    obtain ⟨c₂, i₂, len₂, hc₂, hd₂, hf₂⟩ := hend
    have hW' : U.WarmedH s₂.vm := hW₂
    have hcc : c₂ = c := by
      have h1 : s₂.code? g.method = U.code? g.method := by
        rw [State.code?_eq, State.code?_eq, hW'.alike.method?]
      exact Option.some.inj (hc₂.symm.trans (h1.trans h.code))
    subst hcc
    have hlen : len₂ = len := by rw [hdg] at hd₂; cases hd₂; rfl
    subst hlen
    have hs₂ : s₂ = (({ U with heap := s₂.heap, slotsUsed := s₂.slotsUsed } : State).setVm s₂.vm).setTop { g with pc := g.pc + len₂, stack := v.toList ++ g.stack } := by
      refine e3.trans ?_
      rw [hf₂, State.calling_eq h.top, State.setFrames_setFrames, State.setTop_of_frames _ hr', hr]
      rfl
    have hsame : U.sameButNew ({ U with heap := s₂.heap, slotsUsed := s₂.slotsUsed } : State) L mc ms := by
      refine ⟨?_, q2, q3, q4, q5, q6⟩
      obtain ⟨t, ht, -⟩ := State.frames_cons hr
      show ({ U with heap := s₂.heap, slotsUsed := s₂.slotsUsed } : State) = { U.setFrames U.frames with heap := s₂.heap, slotsUsed := s₂.slotsUsed }
      rw [State.setFrames_self ht]
    subst hg
    refine Or.inl ⟨v, ⟨(({ U with heap := s₂.heap, slotsUsed := s₂.slotsUsed } : State).setVm s₂.vm), Ls ++ L, c0 + mc, s0 + ms⟩,
      ⟨X.admits, X.cas, X.clock, X.frames, X.room, X.hears, X.method, X.code, (X.here.setHeapUsed s₂.heap s₂.slotsUsed).setVm hW'.alike, X.tail, State.WarmedH.trans X.warmed hW', X.limits, X.bytes, X.same.trans (hsame.setVm s.vm)⟩,
      ⟨g, mk, s₂, L, rfl, rfl, hqc, rfl, hL, rfl, rfl⟩, ?_⟩
    show Steps p.tables e below _ ((({ U with heap := s₂.heap, slotsUsed := s₂.slotsUsed } : State).setVm s₂.vm).setTop { g with pc := g.pc + len₂, stack := v.toList ++ g.stack })
    rw [← hs₂]
    exact hsteps
  · obtain ⟨e2, q2, q3, q4, q5, q6⟩ := id hsm
    have e3 : s₂ = ({ (U.calling g mk a).setFrames s₂.frames with heap := s₂.heap, slotsUsed := s₂.slotsUsed } : State).setVm s₂.vm := by
      have : s₂ = ({ s₂ with vm := (U.calling g mk a).vm } : State).setVm s₂.vm := rfl
      rw [e2] at this
      exact this
    have hf₂ : s₂.frames = .throwing q :: .java g :: U.frames.tail := hend
    have hW' : U.WarmedH s₂.vm := hW₂
    have hs₂ : s₂ = ((({ U with heap := s₂.heap, slotsUsed := s₂.slotsUsed } : State).setVm s₂.vm).setTop g).pushFrame (.throwing q) := by
      refine e3.trans ?_
      rw [hf₂, State.calling_eq h.top, State.setFrames_setFrames, State.pushFrame, State.frames_setTop _ hr', State.setTop_of_frames _ hr', State.setFrames_setFrames, hr]
      rfl
    have hsame : U.sameButNew ({ U with heap := s₂.heap, slotsUsed := s₂.slotsUsed } : State) L mc ms := by
      refine ⟨?_, q2, q3, q4, q5, q6⟩
      obtain ⟨t, ht, -⟩ := State.frames_cons hr
      show ({ U with heap := s₂.heap, slotsUsed := s₂.slotsUsed } : State) = { U.setFrames U.frames with heap := s₂.heap, slotsUsed := s₂.slotsUsed }
      rw [State.setFrames_self ht]
    subst hg
    refine Or.inr ⟨q, ⟨(({ U with heap := s₂.heap, slotsUsed := s₂.slotsUsed } : State).setVm s₂.vm), Ls ++ L, c0 + mc, s0 + ms⟩,
      ⟨X.admits, X.cas, X.clock, X.frames, X.room, X.hears, X.method, X.code, (X.here.setHeapUsed s₂.heap s₂.slotsUsed).setVm hW'.alike, X.tail, State.WarmedH.trans X.warmed hW', X.limits, X.bytes, X.same.trans (hsame.setVm s.vm)⟩,
      ⟨g, mk, s₂, L, E, ce, rfl, rfl, hx, hce, hcv, hcl, rfl, hL, rfl, rfl⟩, ?_⟩
    show Steps p.tables e below _ (((({ U with heap := s₂.heap, slotsUsed := s₂.slotsUsed } : State).setVm s₂.vm).setTop g).pushFrame (.throwing q))
    rw [← hs₂]
    exact hsteps
end Payer
section Calls
variable {p : Program} {l : Launch} {e : Env} {R : Room} {s : State} {m : MethodId} {args : Array Value} {below : List Frame} {meth : Method} {c : Code} {T : State} {locs : List Loc} {cells slots : Nat}
theorem vx_callV (X : Stand p l e R s m args below meth c T locs cells slots) (hexec : p.tables.exec = Jvm.exec) {own C : String} {index : Nat} {y : MethodName} {bytes : ByteArray} {maxL : Nat} {ret : Option FieldType}
    (hown : s.vm.findClass own = some m.cls) (hlink : (Cond.methodLink own index y).before args s = true) (hinst : (Cond.instanceMethod y).before args s = true) (hsel : (Cond.selects C y y).before args s = true)
    (hcode : (Cond.code y bytes maxL ret).before args s = true) (hy : y.cls ≠ "java/lang/invoke/MethodHandle" ∧ y.cls ≠ "java/lang/invoke/VarHandle")
    {W9 : Nat} {Pre : Pt → Array Value → Prop} {Post : Pt → Array Value → Option Value → Pt → Prop} {PostX : Pt → Array Value → Addr → Pt → Prop} (hK : vx_Back l R p e below s args y 3 W9 Pre Post PostX)
    {b : Addr} {cellB : Cell} (hcell : T.heap[b]? = some cellB) (hobj : cellB.vm.isStatics = false) (hcls : s.vm.findClass C = some cellB.cls)
    {g : JFrame} (hg : g.method = m) (hsize : g.locals.size = c.maxLocals) {argsL rest : List Value} (hlen : ∀ sig, parseMethodDescriptor y.desc = some sig → argsL.length = sig.parameters.length)
    (hstack : g.stack = argsL.reverse ++ .ref b :: rest) (hW : 2 * g.monitorRoom + (rest.map fun v => v.category).sum ≤ W9) (hdg : decode c.code g.pc = .ok (.invokevirtual index, 3))
    (hpre : ∀ vm₁, s.WarmedH vm₁ → Pre ⟨T.setVm vm₁, locs, cells, slots⟩ (Value.ref b :: argsL).toArray) :
    (∃ (v : Option Value) (vm₁ : Vm) (B : Pt), s.WarmedH vm₁ ∧ Stand p l e R s m args below meth c B.U B.locs B.cells B.slots ∧ Post ⟨T.setVm vm₁, locs, cells, slots⟩ (Value.ref b :: argsL).toArray v B ∧
      ∀ target, Steps p.tables e below (B.U.setTop { g with pc := g.pc + 3, stack := v.toList ++ rest }) target → Steps p.tables e below (T.setTop g) target) ∨
    (∃ (q : Addr) (vm₁ : Vm) (B : Pt), s.WarmedH vm₁ ∧ Stand p l e R s m args below meth c B.U B.locs B.cells B.slots ∧ PostX ⟨T.setVm vm₁, locs, cells, slots⟩ (Value.ref b :: argsL).toArray q B ∧
      Steps p.tables e below (T.setTop g) ((B.U.setTop { g with stack := rest }).pushFrame (.throwing q))) := by
  obtain ⟨mk, methM, hnamed, hmethM, hstM, habM⟩ := Cond.instanceMethod_spec hinst
  obtain ⟨methM', cM, hmethM', -, -, -, -, -, -, hsigM⟩ := Cond.code_spec hnamed hcode
  cases hmethM.symm.trans hmethM'
  obtain ⟨c2, r2, m2, q1, q2, q3, q4, kP, hkP, hkPi⟩ := Cond.selects_spec hsel
  cases hcls.symm.trans q1
  cases (State.methodFound?_of_named hnamed hy).symm.trans q2
  cases hnamed.symm.trans q3
  have hselP : selectMethod e.platform s.vm cellB.cls mk = .method mk := by rw [Launch.admits_selectMethod X.admits]; exact q4
  obtain ⟨vm₁, X₁, hstep₁⟩ := X.invokevirtual hexec hown hlink hnamed hmethM hstM hkP hkPi hy (a := b) (cell := cellB) hcell
    (fun z h => by rw [h] at hobj; cases hobj) hselP hmethM habM hkP hkPi (g := g) hg (argsL := argsL) (rest := rest) (hlen _ hsigM) hstack hdg
  rcases hK m meth c ⟨T.setVm vm₁, locs, cells, slots⟩ { g with stack := rest } (.invokevirtual index) mk (Value.ref b :: argsL).toArray X₁ hg hsize hdg hW (X₁.named hnamed) (hpre vm₁ X₁.warmed) with ⟨v, B, X', hpost, hsteps⟩ | ⟨q, B, X', hpost, hsteps⟩
  · exact Or.inl ⟨v, vm₁, B, X₁.warmed, X', hpost, fun target h => hstep₁ _ fun acts => by rw [doInvoke_state]; exact hsteps.trans h⟩
  · exact Or.inr ⟨q, vm₁, B, X₁.warmed, X', hpost, hstep₁ _ fun acts => by rw [doInvoke_state]; exact hsteps⟩
theorem vx_callS (X : Stand p l e R s m args below meth c T locs cells slots) (hexec : p.tables.exec = Jvm.exec) {own : String} {index : Nat} {y : MethodName} {bytes : ByteArray} {maxL : Nat} {ret : Option FieldType}
    (hown : s.vm.findClass own = some m.cls) (hlink : (Cond.methodLink own index y).before args s = true) (hstat : (Cond.static y).before args s = true) (hinit : (Cond.initialized y.cls).before args s = true)
    (hcode : (Cond.code y bytes maxL ret).before args s = true) (hy : y.cls ≠ "java/lang/invoke/MethodHandle" ∧ y.cls ≠ "java/lang/invoke/VarHandle")
    {W9 : Nat} {Pre : Pt → Array Value → Prop} {Post : Pt → Array Value → Option Value → Pt → Prop} {PostX : Pt → Array Value → Addr → Pt → Prop} (hK : vx_Back l R p e below s args y 3 W9 Pre Post PostX)
    {g : JFrame} (hg : g.method = m) (hsize : g.locals.size = c.maxLocals) {argsL rest : List Value} (hlen : ∀ sig, parseMethodDescriptor y.desc = some sig → argsL.length = sig.parameters.length)
    (hstack : g.stack = argsL.reverse ++ rest) (hW : 2 * g.monitorRoom + (rest.map fun v => v.category).sum ≤ W9) (hdg : decode c.code g.pc = .ok (.invokestatic index, 3))
    (hpre : ∀ vm₁, s.WarmedH vm₁ → Pre ⟨T.setVm vm₁, locs, cells, slots⟩ argsL.toArray) :
    (∃ (v : Option Value) (vm₁ : Vm) (B : Pt), s.WarmedH vm₁ ∧ Stand p l e R s m args below meth c B.U B.locs B.cells B.slots ∧ Post ⟨T.setVm vm₁, locs, cells, slots⟩ argsL.toArray v B ∧
      ∀ target, Steps p.tables e below (B.U.setTop { g with pc := g.pc + 3, stack := v.toList ++ rest }) target → Steps p.tables e below (T.setTop g) target) ∨
    (∃ (q : Addr) (vm₁ : Vm) (B : Pt), s.WarmedH vm₁ ∧ Stand p l e R s m args below meth c B.U B.locs B.cells B.slots ∧ PostX ⟨T.setVm vm₁, locs, cells, slots⟩ argsL.toArray q B ∧
      Steps p.tables e below (T.setTop g) ((B.U.setTop { g with stack := rest }).pushFrame (.throwing q))) := by
  obtain ⟨mk, hnamed⟩ := Cond.code_named hcode
  obtain ⟨methM, cM, hmethM, -, -, -, -, -, -, hsigM⟩ := Cond.code_spec hnamed hcode
  have hstatic : methM.isStatic = true := Cond.static_spec hnamed hmethM hstat
  obtain ⟨kP, hkP, -⟩ := className_of_methodNamed hnamed
  have hinitP : kP.init = .initialized := Cond.initialized_spec (findClass_of_methodNamed hnamed) hkP hinit
  obtain ⟨vm₁, X₁, hstep₁⟩ := X.invokestatic hexec hown hlink hnamed hmethM hstatic hkP hinitP hy (g := g) hg (argsL := argsL) (rest := rest) (hlen _ hsigM) hstack hdg
  rcases hK m meth c ⟨T.setVm vm₁, locs, cells, slots⟩ { g with stack := rest } (.invokestatic index) mk argsL.toArray X₁ hg hsize hdg hW (X₁.named hnamed) (hpre vm₁ X₁.warmed) with ⟨v, B, X', hpost, hsteps⟩ | ⟨q, B, X', hpost, hsteps⟩
  · exact Or.inl ⟨v, vm₁, B, X₁.warmed, X', hpost, fun target h => hstep₁ _ fun acts => by rw [doInvoke_state]; exact hsteps.trans h⟩
  · exact Or.inr ⟨q, vm₁, B, X₁.warmed, X', hpost, hstep₁ _ fun acts => by rw [doInvoke_state]; exact hsteps⟩
end Calls
theorem vx_cls {s : State} {T : State} {vm₁ : Vm} {E : String} {k : ClassId} (hW : s.WarmedH vm₁) (h : (T.setVm vm₁).vm.findClass E = some k) : s.vm.findClass E = some k := by
  have h1 : vm₁.findClass E = some k := h
  rw [hW.alike.findClass] at h1
  exact h1
/-- the method's frame g, with q thrown over it -/
def vx_W (p : Program) (l : Launch) (e : Env) (R : Room) (s : State) (m : MethodId) (args : Array Value) (below : List Frame) (meth : Method) (c : Code) (H : Heap) (locs : List Loc) (cells slots : Nat) (Q : State → Prop) (g : JFrame) (q : Addr) : Prop :=
  ∀ T : State, T.heap = H → Stand p l e R s m args below meth c T locs cells slots → ∃ t, Steps p.tables e below ((T.setTop g).pushFrame (.throwing q)) t ∧ Q t
def vx_Run (p : Program) (l : Launch) (e : Env) (R : Room) (s : State) (m : MethodId) (args : Array Value) (below : List Frame) (meth : Method) (c : Code) (H : Heap) (locs : List Loc) (cells slots mc ms : Nat) (g : JFrame) (rest : List Value) (Qa : State → Outcome → State → Prop) (XC : String → State → State → Prop) (free : Addr → Prop) : Prop :=
  ∀ T : State, T.heap = H → Stand p l e R s m args below meth c T locs cells slots →
    (∃ (v : Option Value) (st₀ t T' : State) (L : List Loc), st₀.heap = H ∧ Stand p l e R s m args below meth c T' (locs ++ L) (cells + mc) (slots + ms) ∧ (∀ q ∈ L, free q.base) ∧ T'.heap = t.heap ∧ T'.vm = t.vm ∧ Qa st₀ (.returned v) t ∧
      Goes p e below T g T' { g with pc := g.pc + 3, stack := v.toList ++ rest }) ∨
    (∃ (q : Addr) (st₀ t T' : State) (L : List Loc) (E : String) (ce : Cell), st₀.heap = H ∧ Stand p l e R s m args below meth c T' (locs ++ L) (cells + mc) (slots + ms) ∧ (∀ z ∈ L, free z.base) ∧ T'.heap = t.heap ∧ T'.vm = t.vm ∧ XC E st₀ t ∧ t.heap[q]? = some ce ∧ ce.vm = .none ∧ s.vm.findClass E = some ce.cls ∧
      Steps p.tables e below (T.setTop g) ((T'.setTop { g with stack := rest }).pushFrame (.throwing q)))
def vx_X {S : Type} (px : S → Prop) (B : String → S → State → Prop) (A : Nat → Prop) : String → State → State → Prop := fun E st t => ∃ u : S, px u ∧ B E u t ∧ va_F A st t
section Runs
variable {p : Program} {l : Launch} {e : Env} {R : Room} {s : State} {m : MethodId} {args : Array Value} {below : List Frame} {meth : Method} {c : Code} {H : Heap} {locs : List Loc} {cells slots : Nat}
variable {y : MethodName} {bytes cc : ByteArray} {maxL nL mc ms n index : Nat} {ret : Option FieldType} {ws : List Cond} {rm : Room} {Pc : Array Value → State → Prop} {Qc : Array Value → State → Outcome → State → Prop} {XC : String → State → State → Prop} {free : Addr → Prop} {Ts : List Cond} {own C : String} {b : Addr} {As rest : List Value} {g : JFrame}
theorem vx_callBack (cb : CallB R s args own index y bytes maxL ret ws rm mc ms n) (hM : vx_Met l y ws rm Pc Qc XC mc ms free) (hbl : FrameBlind Pc) : vx_Back l R p e below s args y 3 8 (PreOf R mc ms Pc) (PostOf Qc mc ms free) (vx_Post XC mc ms free) := by
  obtain ⟨hrc, hrs, hfr, hlo, hws, hcw, -, hini, -⟩ := cb
  exact vx_back (bytes := bytes) (maxL := maxL) (ret := ret) hM hbl hrc hrs hfr hlo hws hcw (fun a' U hW => word_at hW (Or.inl (by first | rfl | simp [Cond.onTables, Cond.keeps, Cond.steady])) hini)
theorem vx_runV (S : CallFix p m c cc nL s args Ts own) (hM : vx_Met l y ws rm Pc Qc XC mc ms free) (cw : CallW R s args own C index y bytes maxL ret ws rm mc ms n) (hp : PreV s H C b Pc As)
    (hg : g.method = m) (hn : As.length = n) (hsize : g.locals.size = nL) (hstack : g.stack = As.reverse ++ .ref b :: rest) (hW : 2 * g.monitorRoom + (rest.map fun v => v.category).sum ≤ 8) (hdg : decode cc g.pc = .ok (.invokevirtual index, 3)) (hf : cells + mc ≤ R.cells ∧ slots + ms ≤ R.slots) :
    vx_Run p l e R s m args below meth c H locs cells slots mc ms g rest (Qc (Value.ref b :: As).toArray) XC free := by
  have hK : vx_Back l R p e below s args y 3 8 (PreOf R mc ms Pc) (PostOf Qc mc ms free) (vx_Post XC mc ms free) := vx_callBack cw.1 hM hp.1
  obtain ⟨⟨-, -, -, -, -, -, hcode, -, hy, hlen, hl⟩, hin, hse⟩ := cw
  obtain ⟨hx, hb, hml, ho, -⟩ := S
  obtain ⟨-, ⟨cellB, hcB, hoB, hclB⟩, hPc⟩ := hp
  intro T hT X
  rcases vx_callV X hx (C := C) (bytes := bytes) (maxL := maxL) (ret := ret) ho hl hin hse hcode hy hK (by rw [hT]; exact hcB) hoB hclB hg (hsize.trans hml.symm) (argsL := As) (rest := rest) (fun sig h => hn.trans (hlen sig h)) hstack hW (by rw [hb]; exact hdg)
    (fun vm₁ hW₁ => ⟨hf.1, hf.2, hPc (T.setVm vm₁) hT hW₁⟩) with ⟨v, vm₁, ⟨U', l2, c2, s2⟩, hW₁, X', ⟨g', mk, t, L, e1, e2, hq, h1, hL, h2, h3⟩, st⟩ | ⟨q, vm₁, ⟨U', l2, c2, s2⟩, hW₁, X', ⟨g', mk, t, L, E, ce, e1, e2, hq, hce, hcv, hcl, h1, hL, h2, h3⟩, st⟩
  · dsimp only [Pt.U, Pt.locs, Pt.cells, Pt.slots] at X' e1 e2 h1 h2 h3 st
    subst h1; subst h2; subst h3
    exact Or.inl ⟨v, (T.setVm vm₁).calling g' mk (Value.ref b :: As).toArray, t, U', L, hT, X', hL, e1, e2, hq, st⟩
  · dsimp only [Pt.U, Pt.locs, Pt.cells, Pt.slots] at X' e1 e2 h1 h2 h3 st hcl
    subst h1; subst h2; subst h3
    exact Or.inr ⟨q, (T.setVm vm₁).calling g' mk (Value.ref b :: As).toArray, t, U', L, E, ce, hT, X', hL, e1, e2, hq, hce, hcv, vx_cls hW₁ hcl, st⟩
theorem vx_runS (S : CallFix p m c cc nL s args Ts own) (hM : vx_Met l y ws rm Pc Qc XC mc ms free) (cw : CallB R s args own index y bytes maxL ret ws rm mc ms n ∧ (Cond.static y).before args s = true) (hp : PreS s H Pc As)
    (hg : g.method = m) (hn : As.length = n) (hsize : g.locals.size = nL) (hstack : g.stack = As.reverse ++ rest) (hW : 2 * g.monitorRoom + (rest.map fun v => v.category).sum ≤ 8) (hdg : decode cc g.pc = .ok (.invokestatic index, 3)) (hf : cells + mc ≤ R.cells ∧ slots + ms ≤ R.slots) :
    vx_Run p l e R s m args below meth c H locs cells slots mc ms g rest (Qc As.toArray) XC free := by
  have hK : vx_Back l R p e below s args y 3 8 (PreOf R mc ms Pc) (PostOf Qc mc ms free) (vx_Post XC mc ms free) := vx_callBack cw.1 hM hp.1
  obtain ⟨⟨-, -, -, -, -, -, hcode, hini, hy, hlen, hl⟩, hstt⟩ := cw
  obtain ⟨hx, hb, hml, ho, -⟩ := S
  intro T hT X
  rcases vx_callS X hx (bytes := bytes) (maxL := maxL) (ret := ret) ho hl hstt hini hcode hy hK hg (hsize.trans hml.symm) (argsL := As) (rest := rest) (fun sig h => hn.trans (hlen sig h)) hstack hW (by rw [hb]; exact hdg)
    (fun vm₁ hW₁ => ⟨hf.1, hf.2, hp.2 (T.setVm vm₁) hT hW₁⟩) with ⟨v, vm₁, ⟨U', l2, c2, s2⟩, hW₁, X', ⟨g', mk, t, L, e1, e2, hq, h1, hL, h2, h3⟩, st⟩ | ⟨q, vm₁, ⟨U', l2, c2, s2⟩, hW₁, X', ⟨g', mk, t, L, E, ce, e1, e2, hq, hce, hcv, hcl, h1, hL, h2, h3⟩, st⟩
  · dsimp only [Pt.U, Pt.locs, Pt.cells, Pt.slots] at X' e1 e2 h1 h2 h3 st
    subst h1; subst h2; subst h3
    exact Or.inl ⟨v, (T.setVm vm₁).calling g' mk As.toArray, t, U', L, hT, X', hL, e1, e2, hq, st⟩
  · dsimp only [Pt.U, Pt.locs, Pt.cells, Pt.slots] at X' e1 e2 h1 h2 h3 st hcl
    subst h1; subst h2; subst h3
    exact Or.inr ⟨q, (T.setVm vm₁).calling g' mk As.toArray, t, U', L, E, ce, hT, X', hL, e1, e2, hq, hce, hcv, vx_cls hW₁ hcl, st⟩
end Runs
section Rows
variable {p : Program} {l : Launch} {e : Env} {R : Room} {s : State} {m : MethodId} {args : Array Value} {below : List Frame} {meth : Method} {c : Code} {H : Heap} {locs : List Loc} {cells slots : Nat} {Q : State → Prop}
variable {mc ms : Nat} {free : Addr → Prop} {A0 A1 : Nat → Prop} {H0 : Heap} {a : Array Value} {pc : Nat} {ls : Array Slot} {st0 rest : List Value}
theorem vx_keep {st₀ t T' : State} {L : List Loc} (h0 : st₀.heap = H) (e1 : T'.heap = t.heap) (hS : va_S A0 H0 H locs) (hA : ∀ q, q < H.size → A1 q → A0 q) (hf : ∀ q, free q → A0 q) (hL : ∀ q ∈ L, free q.base) (hF : va_F A1 st₀ t) :
    H.size ≤ T'.heap.size ∧ (∀ q : Nat, q < H.size → ¬ A1 q → T'.heap[q]? = H[q]?) ∧ va_S A0 H0 T'.heap (locs ++ L) := by
  obtain ⟨hz, hk⟩ := hF
  rw [h0] at hz hk
  exact ⟨by rw [e1]; exact hz, fun q h1 h2 => by rw [e1]; exact hk q h1 h2,
    ⟨Nat.le_trans hS.1 (by rw [e1]; exact hz), fun q h1 h2 => by rw [e1, hk q (Nat.lt_of_lt_of_le h1 hS.1) (fun z => h2 (hA q (Nat.lt_of_lt_of_le h1 hS.1) z))]; exact hS.2.1 q h1 h2, fun q hq => by
      rcases List.mem_append.mp hq with h | h
      · exact hS.2.2 q h
      · exact hf _ (hL q h)⟩⟩
theorem vx_calli {S SX : Type} {post : Int32 → S → Prop} {px : SX → Prop} {B : S → State → Prop} {BX : String → SX → State → Prop} {AX : Nat → Prop} (hr : vx_Run p l e R s m args below meth c H locs cells slots mc ms (F0 m pc ls st0) rest (va_Qi post B A1 a) (vx_X px BX AX) free) (hS : va_S A0 H0 H locs) (hA : ∀ q, q < H.size → A1 q → A0 q) (hf : ∀ q, free q → A0 q) (hAX : ∀ q, q < H.size → AX q → A0 q)
    (kx : ∀ (E : String) (ce : Cell) (q9 : Addr) (u : SX) (t : State) (H1 : Heap) (locs1 : List Loc), t.heap = H1 → s.vm.Alike t.vm → px u → BX E u t → H.size ≤ H1.size → (∀ q : Nat, q < H.size → ¬ AX q → H1[q]? = H[q]?) → va_S A0 H0 H1 locs1 → H1[q9]? = some ce → ce.vm = .none → s.vm.findClass E = some ce.cls → vx_W p l e R s m args below meth c H1 locs1 (cells + mc) (slots + ms) Q (F0 m pc ls rest) q9)
    (kk : ∀ (r : Int32) (u : S) (t : State) (H1 : Heap) (locs1 : List Loc), t.heap = H1 → s.vm.Alike t.vm → post r u → B u t → H.size ≤ H1.size → (∀ q : Nat, q < H.size → ¬ A1 q → H1[q]? = H[q]?) → va_S A0 H0 H1 locs1 → W p l e R s m args below meth c H1 locs1 (cells + mc) (slots + ms) Q (F0 m (pc + 3) ls (.int r :: rest))) : W p l e R s m args below meth c H locs cells slots Q (F0 m pc ls st0) := by
  intro T hT X
  rcases hr T hT X with ⟨v, st₀, t, T', L, h0, X', hL, e1, e2, ⟨⟨r, u, hv, hp, hb⟩, hF⟩, st⟩ | ⟨q, st₀, t, T', L, E, ce, h0, X', hL, e1, e2, ⟨u, hp, hb, hF⟩, hce, hcv, hcl, st⟩
  · cases hv
    obtain ⟨k1, k2, k3⟩ := vx_keep h0 e1 hS hA hf hL hF
    obtain ⟨t2, a1, b1⟩ := kk r u t T'.heap (locs ++ L) e1.symm (by rw [← e2]; exact X'.warmed.alike) hp hb k1 k2 k3 T' rfl X'
    exact ⟨t2, st t2 a1, b1⟩
  · obtain ⟨k1, k2, k3⟩ := vx_keep h0 e1 hS hAX hf hL hF
    obtain ⟨t2, a1, b1⟩ := kx E ce q u t T'.heap (locs ++ L) e1.symm (by rw [← e2]; exact X'.warmed.alike) hp hb k1 k2 k3 (by rw [e1]; exact hce) hcv hcl T' rfl X'
    exact ⟨t2, st.trans a1, b1⟩
theorem vx_calll {S SX : Type} {post : Int64 → S → Prop} {px : SX → Prop} {B : S → State → Prop} {BX : String → SX → State → Prop} {AX : Nat → Prop} (hr : vx_Run p l e R s m args below meth c H locs cells slots mc ms (F0 m pc ls st0) rest (va_Ql post B A1 a) (vx_X px BX AX) free) (hS : va_S A0 H0 H locs) (hA : ∀ q, q < H.size → A1 q → A0 q) (hf : ∀ q, free q → A0 q) (hAX : ∀ q, q < H.size → AX q → A0 q)
    (kx : ∀ (E : String) (ce : Cell) (q9 : Addr) (u : SX) (t : State) (H1 : Heap) (locs1 : List Loc), t.heap = H1 → s.vm.Alike t.vm → px u → BX E u t → H.size ≤ H1.size → (∀ q : Nat, q < H.size → ¬ AX q → H1[q]? = H[q]?) → va_S A0 H0 H1 locs1 → H1[q9]? = some ce → ce.vm = .none → s.vm.findClass E = some ce.cls → vx_W p l e R s m args below meth c H1 locs1 (cells + mc) (slots + ms) Q (F0 m pc ls rest) q9)
    (kk : ∀ (r : Int64) (u : S) (t : State) (H1 : Heap) (locs1 : List Loc), t.heap = H1 → s.vm.Alike t.vm → post r u → B u t → H.size ≤ H1.size → (∀ q : Nat, q < H.size → ¬ A1 q → H1[q]? = H[q]?) → va_S A0 H0 H1 locs1 → W p l e R s m args below meth c H1 locs1 (cells + mc) (slots + ms) Q (F0 m (pc + 3) ls (.long r :: rest))) : W p l e R s m args below meth c H locs cells slots Q (F0 m pc ls st0) := by
  intro T hT X
  rcases hr T hT X with ⟨v, st₀, t, T', L, h0, X', hL, e1, e2, ⟨⟨r, u, hv, hp, hb⟩, hF⟩, st⟩ | ⟨q, st₀, t, T', L, E, ce, h0, X', hL, e1, e2, ⟨u, hp, hb, hF⟩, hce, hcv, hcl, st⟩
  · cases hv
    obtain ⟨k1, k2, k3⟩ := vx_keep h0 e1 hS hA hf hL hF
    obtain ⟨t2, a1, b1⟩ := kk r u t T'.heap (locs ++ L) e1.symm (by rw [← e2]; exact X'.warmed.alike) hp hb k1 k2 k3 T' rfl X'
    exact ⟨t2, st t2 a1, b1⟩
  · obtain ⟨k1, k2, k3⟩ := vx_keep h0 e1 hS hAX hf hL hF
    obtain ⟨t2, a1, b1⟩ := kx E ce q u t T'.heap (locs ++ L) e1.symm (by rw [← e2]; exact X'.warmed.alike) hp hb k1 k2 k3 (by rw [e1]; exact hce) hcv hcl T' rfl X'
    exact ⟨t2, st.trans a1, b1⟩
theorem vx_callf {S SX : Type} {post : UInt32 → S → Prop} {px : SX → Prop} {B : S → State → Prop} {BX : String → SX → State → Prop} {AX : Nat → Prop} (hr : vx_Run p l e R s m args below meth c H locs cells slots mc ms (F0 m pc ls st0) rest (va_Qf post B A1 a) (vx_X px BX AX) free) (hS : va_S A0 H0 H locs) (hA : ∀ q, q < H.size → A1 q → A0 q) (hf : ∀ q, free q → A0 q) (hAX : ∀ q, q < H.size → AX q → A0 q)
    (kx : ∀ (E : String) (ce : Cell) (q9 : Addr) (u : SX) (t : State) (H1 : Heap) (locs1 : List Loc), t.heap = H1 → s.vm.Alike t.vm → px u → BX E u t → H.size ≤ H1.size → (∀ q : Nat, q < H.size → ¬ AX q → H1[q]? = H[q]?) → va_S A0 H0 H1 locs1 → H1[q9]? = some ce → ce.vm = .none → s.vm.findClass E = some ce.cls → vx_W p l e R s m args below meth c H1 locs1 (cells + mc) (slots + ms) Q (F0 m pc ls rest) q9)
    (kk : ∀ (r : UInt32) (u : S) (t : State) (H1 : Heap) (locs1 : List Loc), t.heap = H1 → s.vm.Alike t.vm → post r u → B u t → H.size ≤ H1.size → (∀ q : Nat, q < H.size → ¬ A1 q → H1[q]? = H[q]?) → va_S A0 H0 H1 locs1 → W p l e R s m args below meth c H1 locs1 (cells + mc) (slots + ms) Q (F0 m (pc + 3) ls (.float r :: rest))) : W p l e R s m args below meth c H locs cells slots Q (F0 m pc ls st0) := by
  intro T hT X
  rcases hr T hT X with ⟨v, st₀, t, T', L, h0, X', hL, e1, e2, ⟨⟨r, u, hv, hp, hb⟩, hF⟩, st⟩ | ⟨q, st₀, t, T', L, E, ce, h0, X', hL, e1, e2, ⟨u, hp, hb, hF⟩, hce, hcv, hcl, st⟩
  · cases hv
    obtain ⟨k1, k2, k3⟩ := vx_keep h0 e1 hS hA hf hL hF
    obtain ⟨t2, a1, b1⟩ := kk r u t T'.heap (locs ++ L) e1.symm (by rw [← e2]; exact X'.warmed.alike) hp hb k1 k2 k3 T' rfl X'
    exact ⟨t2, st t2 a1, b1⟩
  · obtain ⟨k1, k2, k3⟩ := vx_keep h0 e1 hS hAX hf hL hF
    obtain ⟨t2, a1, b1⟩ := kx E ce q u t T'.heap (locs ++ L) e1.symm (by rw [← e2]; exact X'.warmed.alike) hp hb k1 k2 k3 (by rw [e1]; exact hce) hcv hcl T' rfl X'
    exact ⟨t2, st.trans a1, b1⟩
theorem vx_calld {S SX : Type} {post : UInt64 → S → Prop} {px : SX → Prop} {B : S → State → Prop} {BX : String → SX → State → Prop} {AX : Nat → Prop} (hr : vx_Run p l e R s m args below meth c H locs cells slots mc ms (F0 m pc ls st0) rest (va_Qd post B A1 a) (vx_X px BX AX) free) (hS : va_S A0 H0 H locs) (hA : ∀ q, q < H.size → A1 q → A0 q) (hf : ∀ q, free q → A0 q) (hAX : ∀ q, q < H.size → AX q → A0 q)
    (kx : ∀ (E : String) (ce : Cell) (q9 : Addr) (u : SX) (t : State) (H1 : Heap) (locs1 : List Loc), t.heap = H1 → s.vm.Alike t.vm → px u → BX E u t → H.size ≤ H1.size → (∀ q : Nat, q < H.size → ¬ AX q → H1[q]? = H[q]?) → va_S A0 H0 H1 locs1 → H1[q9]? = some ce → ce.vm = .none → s.vm.findClass E = some ce.cls → vx_W p l e R s m args below meth c H1 locs1 (cells + mc) (slots + ms) Q (F0 m pc ls rest) q9)
    (kk : ∀ (r : UInt64) (u : S) (t : State) (H1 : Heap) (locs1 : List Loc), t.heap = H1 → s.vm.Alike t.vm → post r u → B u t → H.size ≤ H1.size → (∀ q : Nat, q < H.size → ¬ A1 q → H1[q]? = H[q]?) → va_S A0 H0 H1 locs1 → W p l e R s m args below meth c H1 locs1 (cells + mc) (slots + ms) Q (F0 m (pc + 3) ls (.double r :: rest))) : W p l e R s m args below meth c H locs cells slots Q (F0 m pc ls st0) := by
  intro T hT X
  rcases hr T hT X with ⟨v, st₀, t, T', L, h0, X', hL, e1, e2, ⟨⟨r, u, hv, hp, hb⟩, hF⟩, st⟩ | ⟨q, st₀, t, T', L, E, ce, h0, X', hL, e1, e2, ⟨u, hp, hb, hF⟩, hce, hcv, hcl, st⟩
  · cases hv
    obtain ⟨k1, k2, k3⟩ := vx_keep h0 e1 hS hA hf hL hF
    obtain ⟨t2, a1, b1⟩ := kk r u t T'.heap (locs ++ L) e1.symm (by rw [← e2]; exact X'.warmed.alike) hp hb k1 k2 k3 T' rfl X'
    exact ⟨t2, st t2 a1, b1⟩
  · obtain ⟨k1, k2, k3⟩ := vx_keep h0 e1 hS hAX hf hL hF
    obtain ⟨t2, a1, b1⟩ := kx E ce q u t T'.heap (locs ++ L) e1.symm (by rw [← e2]; exact X'.warmed.alike) hp hb k1 k2 k3 (by rw [e1]; exact hce) hcv hcl T' rfl X'
    exact ⟨t2, st.trans a1, b1⟩
theorem vx_callv {S SX : Type} {post : S → Prop} {px : SX → Prop} {B : S → State → Prop} {BX : String → SX → State → Prop} {AX : Nat → Prop} (hr : vx_Run p l e R s m args below meth c H locs cells slots mc ms (F0 m pc ls st0) rest (va_Qv post B A1 a) (vx_X px BX AX) free) (hS : va_S A0 H0 H locs) (hA : ∀ q, q < H.size → A1 q → A0 q) (hf : ∀ q, free q → A0 q) (hAX : ∀ q, q < H.size → AX q → A0 q)
    (kx : ∀ (E : String) (ce : Cell) (q9 : Addr) (u : SX) (t : State) (H1 : Heap) (locs1 : List Loc), t.heap = H1 → s.vm.Alike t.vm → px u → BX E u t → H.size ≤ H1.size → (∀ q : Nat, q < H.size → ¬ AX q → H1[q]? = H[q]?) → va_S A0 H0 H1 locs1 → H1[q9]? = some ce → ce.vm = .none → s.vm.findClass E = some ce.cls → vx_W p l e R s m args below meth c H1 locs1 (cells + mc) (slots + ms) Q (F0 m pc ls rest) q9)
    (kk : ∀ (u : S) (t : State) (H1 : Heap) (locs1 : List Loc), t.heap = H1 → s.vm.Alike t.vm → post u → B u t → H.size ≤ H1.size → (∀ q : Nat, q < H.size → ¬ A1 q → H1[q]? = H[q]?) → va_S A0 H0 H1 locs1 → W p l e R s m args below meth c H1 locs1 (cells + mc) (slots + ms) Q (F0 m (pc + 3) ls (rest))) : W p l e R s m args below meth c H locs cells slots Q (F0 m pc ls st0) := by
  intro T hT X
  rcases hr T hT X with ⟨v, st₀, t, T', L, h0, X', hL, e1, e2, ⟨⟨u, hv, hp, hb⟩, hF⟩, st⟩ | ⟨q, st₀, t, T', L, E, ce, h0, X', hL, e1, e2, ⟨u, hp, hb, hF⟩, hce, hcv, hcl, st⟩
  · cases hv
    obtain ⟨k1, k2, k3⟩ := vx_keep h0 e1 hS hA hf hL hF
    obtain ⟨t2, a1, b1⟩ := kk u t T'.heap (locs ++ L) e1.symm (by rw [← e2]; exact X'.warmed.alike) hp hb k1 k2 k3 T' rfl X'
    exact ⟨t2, st t2 a1, b1⟩
  · obtain ⟨k1, k2, k3⟩ := vx_keep h0 e1 hS hAX hf hL hF
    obtain ⟨t2, a1, b1⟩ := kx E ce q u t T'.heap (locs ++ L) e1.symm (by rw [← e2]; exact X'.warmed.alike) hp hb k1 k2 k3 (by rw [e1]; exact hce) hcv hcl T' rfl X'
    exact ⟨t2, st.trans a1, b1⟩
/-- caught by the row x of this method's table; the rows ahead don't take it -/
theorem vx_catch {own name : String} {E : String} {ce : Cell} {q : Addr} (hown : s.vm.findClass own = some m.cls) (pre : List ExceptionTableEntry) (x : ExceptionTableEntry) (suf : List ExceptionTableEntry) (hsplit : c.exceptionTable.toList = pre ++ x :: suf)
    (hpass : ∀ z ∈ pre, covers z pc = false ∨ (z.catchType ≠ 0 ∧ ∃ nm : String, (Cond.classLink own z.catchType nm).before args s = true ∧ va_Nc E nm s)) (hx : covers x pc = true) (h0 : x.catchType ≠ 0)
    (hlink : (Cond.classLink own x.catchType name).before args s = true) (hcast : (Cond.castable E name).before args s = true) (hcell : H[q]? = some ce) (hv : ce.vm = .none) (hcl : s.vm.findClass E = some ce.cls)
    (kk : W p l e R s m args below meth c H locs cells slots Q (F0 m x.handlerPc ls [.ref q])) : vx_W p l e R s m args below meth c H locs cells slots Q (F0 m pc ls rest) q := by
  intro T hT X
  have hpl : e.platform.magicAccessors = ({} : Platform).magicAccessors := by rw [X.admits.platform]
  obtain ⟨c3, c4, hc3, hc4, hasg⟩ := Cond.castable_spec hcast
  cases Option.some.inj (hc3.symm.trans hcl)
  obtain ⟨c5, hc5, hcl5⟩ := Cond.classLink_spec hown hlink e.platform hpl
  cases Option.some.inj (hc4.symm.trans hc5)
  obtain ⟨vm', X', st⟩ := X.thenCaughtThrough q (g := F0 m pc ls rest) rfl (Steps.refl _) (by rw [hT]; exact hcell) (by rw [hv]; rfl) (by obtain ⟨k9, h9, -⟩ := Vm.findClass_spec hcl; exact ⟨k9, h9⟩) pre x suf hsplit
    (fun z hz => by
      rcases hpass z hz with h | ⟨hz0, nm, hl1, hn1⟩
      · exact Or.inl h
      · obtain ⟨c6, hc6, hcl6⟩ := Cond.classLink_spec hown hl1 e.platform hpl
        obtain ⟨a8, b8, h1, h2, h3⟩ := hn1
        cases Option.some.inj (h1.symm.trans hcl)
        cases Option.some.inj (h2.symm.trans hc6)
        exact Or.inr ⟨hz0, _, hcl6, h3⟩) hx (Or.inr ⟨h0, c4, hcl5, hasg⟩)
  obtain ⟨t, a1, b1⟩ := kk (T.setVm vm') hT X'
  exact ⟨t, st.trans a1, b1⟩
end Rows
section Ends
variable {p : Program} {l : Launch} {e : Env} {R : Room} {s : State} {m : MethodId} {args : Array Value} {below : List Frame} {meth : Method} {c : Code} {H : Heap} {locs : List Loc} {cells slots : Nat} {Q : State → Prop}
variable {mc ms : Nat} {free : Addr → Prop} {A0 A1 : Nat → Prop} {H0 : Heap} {a : Array Value} {ls : Array Slot} {st0 rest : List Value}
variable {Qc : Array Value → State → Outcome → State → Prop} {XC : String → State → State → Prop}
/-- what a body that may throw owes at its end -/
def vx_MQ (below : List Frame) (Qc : Array Value → State → Outcome → State → Prop) (XC : String → State → State → Prop) (a : Array Value) (s : State) (mc ms : Nat) (free : Addr → Prop) : State → Prop := fun t =>
  ∃ o, t.status = .running ∧ Ended t below o ∧ vx_Q Qc XC mc ms free a s o t
theorem vx_ret {g : JFrame} {mc ms : Nat} (k : W p l e R s m args below meth c H locs cells slots (MQ below Qc args s mc ms free) g) : W p l e R s m args below meth c H locs cells slots (vx_MQ below Qc XC args s mc ms free) g := by
  intro T hT X
  obtain ⟨t, a1, o, b1, b2, b3, b4⟩ := k T hT X
  exact ⟨t, a1, o, b1, b2, Or.inl ⟨b3, b4⟩⟩
/-- not caught here: it goes on to the caller -/
theorem vx_widen {g : JFrame} {q : Addr} {k n : Nat} (h1 : cells ≤ k) (h2 : slots ≤ n) (kk : vx_W p l e R s m args below meth c H locs k n Q g q) : vx_W p l e R s m args below meth c H locs cells slots Q g q := fun T hT X => kk T hT (stand_widen X h1 h2)
theorem vx_out {pc : Nat} {E : String} {ce : Cell} {q : Addr} {mc ms : Nat} (hout : ∀ x ∈ c.exceptionTable.toList, covers x pc = false) (hlocks : meth.locks = false) (hcell : H[q]? = some ce) (hv : ce.vm = .none) (hcl : s.vm.findClass E = some ce.cls)
    (hx : ∀ t : State, t.heap = H → s.vm.Alike t.vm → XC E s t) (hf : ∀ z ∈ locs, free z.base) (hc : cells ≤ mc) (hs : slots ≤ ms) :
    vx_W p l e R s m args below meth c H locs cells slots (vx_MQ below Qc XC args s mc ms free) (F0 m pc ls rest) q := by
  intro T hT X
  obtain ⟨st1, hrun, hend, hW, hsm⟩ := X.leaveThrown q (g := F0 m pc ls rest) rfl rfl rfl hout hlocks
  have hcell9 : (T.setFrames (.throwing q :: below)).heap[q]? = some ce := by
    show T.heap[q]? = some ce
    rw [hT]; exact hcell
  exact ⟨_, st1, .threw q, hrun, hend, Or.inr ⟨q, rfl, E, ce, locs, hx _ hT hW.alike, hcell9, hv, hcl, hW, hsm.mono hc hs, hf⟩⟩
theorem vx_frame {U : State} {k n : Nat} (h : s.sameButNew ({ U with vm := s.vm } : State) locs k n) : s.heap.size ≤ U.heap.size ∧ ∀ q : Nat, q < s.heap.size → (∀ z ∈ locs, z.base ≠ q) → U.heap[q]? = s.heap[q]? := by
  obtain ⟨-, h2, -, -, -, h6⟩ := h
  refine ⟨h2, fun q hq hz => ?_⟩
  obtain ⟨c9, e1, e2, e3, e4⟩ := h6 q _ (Array.getElem?_eq_getElem hq)
  have hs : c9.slots = (s.heap[q]).slots := Array.ext_getElem? fun i => e4 i fun hm => hz _ hm rfl
  have h9 : c9 = s.heap[q] := by
    rw [hs] at e2
    exact e2
  have e5 : U.heap[q]? = some c9 := e1
  rw [e5, h9, Array.getElem?_eq_getElem hq]
/-- the words of a throw but the four that speak of the heap -/
def vx_no (w : Cond) : Bool := decide (w ≠ .isRef (.static Bundle.tN "UNASSIGNED_STACK" Bundle.steD)) && decide (w ≠ .isRef (.static Bundle.tN "SUPPRESSED_SENTINEL" Bundle.listD)) && decide (w ≠ .laysStatic Bundle.tN "UNASSIGNED_STACK" Bundle.steD) && decide (w ≠ .laysStatic Bundle.tN "SUPPRESSED_SENTINEL" Bundle.listD)
def vx_at0 (own : String) (ic : Nat) (X : String) (names : List String) : List Cond := (Bundle.ownAtoms0 own ic X names).filter vx_no
def vx_atS (own : String) (ic : Nat) (X : String) (names : List String) : List Cond := (Bundle.ownAtoms own ic X names).filter vx_no
/-- a word that the tables alone decide, or a good one -/
def vx_ot (w : Cond) : Bool := w.onTables || goodWord w
theorem vx_ot_at {args a' : Array Value} {s U : State} {w : Cond} (hW : s.WarmedH U.vm) (hvm : s.vm = U.vm) (hg : vx_ot w = true) (h : w.before args s = true) : w.before a' U = true := by
  simp only [vx_ot, Bool.or_eq_true] at hg
  rcases hg with hg | hg
  · exact va_tabs hg hvm h
  · exact word_at hW (good_of_word hg) h
/-- a list's words: the good ones out of the method's own list, the others by premises of their own -/
theorem vx_hat {args : Array Value} {s : State} {L B : List Cond} (h1 : ∀ w ∈ L.filter goodWord, w.before args s = true) (h2 : ∀ w ∈ L.filter (fun w => !goodWord w), w ∈ B) (h3 : ∀ w ∈ B, w.before args s = true) : ∀ w ∈ L, w.before args s = true := by
  intro w hw
  by_cases g : goodWord w = true
  · exact h1 w (List.mem_filter.mpr ⟨hw, g⟩)
  · refine h3 w (h2 w (List.mem_filter.mpr ⟨hw, ?_⟩))
    show (!goodWord w) = true
    cases hgw : goodWord w
    · rfl
    · exact absurd hgw g
theorem vx_c {args : Array Value} {s : State} {w : Cond} {B : List Cond} (h : w.before args s = true) (t : ∀ w ∈ B, w.before args s = true) : ∀ w' ∈ w :: B, w'.before args s = true := fun w' h' => (List.mem_cons.mp h').elim (fun e => by rw [e]; exact h) (t w')
theorem vx_n {args : Array Value} {s : State} : ∀ w ∈ ([] : List Cond), w.before args s = true := fun _ h => nomatch h
theorem vx_own {args : Array Value} {s : State} {L : List Cond} (h1 : ∀ w ∈ L.filter vx_no, w.before args s = true)
    (hU : (Cond.isRef (.static Bundle.tN "UNASSIGNED_STACK" Bundle.steD)).before args s = true) (hN : (Cond.isRef (.static Bundle.tN "SUPPRESSED_SENTINEL" Bundle.listD)).before args s = true)
    (lU : (Cond.laysStatic Bundle.tN "UNASSIGNED_STACK" Bundle.steD).before args s = true) (lN : (Cond.laysStatic Bundle.tN "SUPPRESSED_SENTINEL" Bundle.listD).before args s = true) : ∀ w ∈ L, w.before args s = true := by
  intro w hw
  by_cases e1 : w = .isRef (.static Bundle.tN "UNASSIGNED_STACK" Bundle.steD)
  · rw [e1]; exact hU
  · by_cases e2 : w = .isRef (.static Bundle.tN "SUPPRESSED_SENTINEL" Bundle.listD)
    · rw [e2]; exact hN
    · by_cases e3 : w = .laysStatic Bundle.tN "UNASSIGNED_STACK" Bundle.steD
      · rw [e3]; exact lU
      · by_cases e4 : w = .laysStatic Bundle.tN "SUPPRESSED_SENTINEL" Bundle.listD
        · rw [e4]; exact lN
        · exact h1 w (List.mem_filter.mpr ⟨hw, by unfold vx_no; rw [decide_eq_true e1, decide_eq_true e2, decide_eq_true e3, decide_eq_true e4]; rfl⟩)
/-- where a static field lies, its class's statics cell in H -/
def vx_L (C n d : String) (A : Nat → Prop) (U : State) (H : Heap) : Prop := ∃ (c : ClassId) (k : Class) (i : Nat) (f : Field) (a : Nat) (cell : Cell), U.vm.findClass C = some c ∧ U.fieldFound? C n d = some (c, k, i, f) ∧ f.isStatic = true ∧ k.statics = some a ∧ H[a]? = some cell ∧ cell.vm.isStatics = true ∧ cell.cls = c ∧ f.slot < cell.slots.size ∧ k.staticTypes[f.slot]? = some f.type ∧ ¬ A a
theorem vx_L.moved {C n d : String} {A : Nat → Prop} {u U : State} {H : Heap} (hvm : u.vm.Alike U.vm) (h : vx_L C n d A u H) : vx_L C n d A U H := by
  obtain ⟨c, k, i, f, a, cell, h1, h2, h3, h4, h5, h6, h7, h8, h9, h10⟩ := h
  obtain ⟨k', hi', he⟩ := State.fieldFound?_setVm hvm h2
  exact ⟨c, k', i, f, a, cell, by rw [hvm.findClass]; exact h1, hi', h3, by rw [he]; exact h4, h5, h6, h7, h8, by rw [he]; exact h9, h10⟩
theorem vx_L.kept {C n d : String} {A : Nat → Prop} {U : State} {H H1 : Heap} (h : vx_L C n d A U H) (hq : ∀ a : Nat, a < H.size → ¬ A a → H1[a]? = H[a]?) : vx_L C n d A U H1 := by
  obtain ⟨c, k, i, f, a, cell, h1, h2, h3, h4, h5, h6, h7, h8, h9, h10⟩ := h
  exact ⟨c, k, i, f, a, cell, h1, h2, h3, h4, by rw [hq a (Array.getElem?_eq_some_iff.mp h5).1 h10]; exact h5, h6, h7, h8, h9, h10⟩
theorem vx_L.narrow {C n d : String} {A B : Nat → Prop} {U : State} {H : Heap} (h : vx_L C n d A U H) (hAB : ∀ q, B q → A q) : vx_L C n d B U H := by
  obtain ⟨c, k, i, f, a, cell, h1, h2, h3, h4, h5, h6, h7, h8, h9, h10⟩ := h
  exact ⟨c, k, i, f, a, cell, h1, h2, h3, h4, h5, h6, h7, h8, h9, fun z => h10 (hAB _ z)⟩
theorem vx_L.word {C n d : String} {A : Nat → Prop} {s : State} {args : Array Value} (h : vx_L C n d A s s.heap) : (Cond.laysStatic C n d).before args s = true := by
  obtain ⟨c, k, i, f, a, cell, h1, h2, h3, h4, h5, h6, h7, h8, h9, -⟩ := h
  show (Cond.laysStatic C n d).holds args s none s [] = true
  exact Cond.laysStatic_of h1 h2 h3 h4 h5 h6 h7 h8 h9
/-- .. and what it holds: null or some reference -/
def vx_Zq (C n d : String) (A : Nat → Prop) (U : State) (H : Heap) : Prop := va_Zq C n d A U H ∧ vx_L C n d A U H
theorem vx_Zq.moved {C n d : String} {A : Nat → Prop} {u U : State} {H : Heap} (hvm : u.vm.Alike U.vm) (h : vx_Zq C n d A u H) : vx_Zq C n d A U H := ⟨va_Zq.moved hvm h.1, vx_L.moved hvm h.2⟩
theorem vx_Zq.kept {C n d : String} {A : Nat → Prop} {U : State} {H H1 : Heap} (h : vx_Zq C n d A U H) (hq : ∀ a : Nat, a < H.size → ¬ A a → H1[a]? = H[a]?) : vx_Zq C n d A U H1 := ⟨va_Zq.kept h.1 hq, vx_L.kept h.2 hq⟩
theorem vx_Zq.narrow {C n d : String} {A B : Nat → Prop} {U : State} {H : Heap} (h : vx_Zq C n d A U H) (hAB : ∀ q, B q → A q) : vx_Zq C n d B U H := ⟨va_Zq.narrow h.1 hAB, vx_L.narrow h.2 hAB⟩
theorem vx_Zqof {args : Array Value} {s : State} {C n d : String} {A : Nat → Prop} (hl : (Cond.laysStatic C n d).before args s = true) (hini : (Cond.initialized C).before args s = true) (h : (Cond.isRef (.static C n d)).before args s = true) (hA : ∀ a : Nat, a < s.heap.size → ¬ A a) : vx_Zq C n d A s s.heap := by
  refine ⟨va_Zqof hl hini h hA, ?_⟩
  obtain ⟨c, k, i, f, a, cell, h1, h2, h3, h4, h5, h6, h7, h8, h9⟩ := Cond.laysStatic_spec hl
  exact ⟨c, k, i, f, a, cell, h1, h2, h3, h4, h5, h6, h7, h8, h9, hA a (Array.getElem?_eq_some_iff.mp h5).1⟩
theorem vx_isRef {C n d : String} {v : Value} {A : Nat → Prop} {s : State} {args : Array Value} (h : va_Z C n d v A s s.heap) (hv : v.isRef = true) : (Cond.isRef (.static C n d)).before args s = true := by
  obtain ⟨cf, kf, fi, f, a, cell, h1, h2, h3, h4, h5, h6, h7, -⟩ := h
  have he : (Term.static C n d).eval args s none [] s = some v := by
    simp [Term.eval, State.fieldNamed?, h1, h2, h4, h5, h6, h7]
  simp only [Cond.before, Cond.holds, Cond.value, he]
  cases v <;> simp_all [Value.isRef]
theorem vx_isRefq {C n d : String} {A : Nat → Prop} {s : State} {args : Array Value} (h : va_Zq C n d A s s.heap) : (Cond.isRef (.static C n d)).before args s = true := by
  rcases h with h | ⟨t, h⟩
  · exact vx_isRef h rfl
  · exact vx_isRef h rfl
/-- the same frame, seen from here: as if the method were called anew in this heap -/
theorem vx_rebase {T : State} (X : Stand p l e R s m args below meth c T locs cells slots) {R' : Room} (hf : R'.frames ≤ R.frames) (hl : R'.locals ≤ R.locals) (hc : cells + R'.cells ≤ R.cells) (hs : slots + R'.slots ≤ R.slots) :
    Stand p l e R' ((T.setVm s.vm).setFrames (.invoking m args :: below)) m args below meth c T [] 0 0 := by
  have htop : (T.setVm s.vm).topJava?.isSome := X.here.top
  have hF : ((T.setVm s.vm).setFrames (.invoking m args :: below)).frames = .invoking m args :: below := State.frames_setFrames _ (State.cur_lt_of_top htop)
  obtain ⟨g₀, hg0⟩ := Option.isSome_iff_exists.mp htop
  obtain ⟨r, hr⟩ := State.topJava?_eq_some.mp hg0
  have hl9 : e.platform.stackLimits (T.setVm s.vm).me = e.platform.stackLimits s.me := X.limits
  have hb9 : (T.setVm s.vm).me.stackBytes = s.me.stackBytes := X.bytes
  refine ⟨X.admits, X.cas, X.clock, hF, ?_, X.hears, X.method, X.code, X.here, X.tail, X.warmed, ?_, ?_, ?_⟩
  · have h := X.room
    have hU : ((T.setVm s.vm).setFrames (.invoking m args :: below)).localsInUse = s.localsInUse := by
      rw [State.localsInUse_invoking hF (meth := meth) (c := c) X.method X.code, State.localsInUse_invoking X.frames X.method X.code]
    simp only [State.hasRoom, Bool.and_eq_true, decide_eq_true_eq] at h ⊢
    obtain ⟨⟨⟨⟨h1, h2, h3, h4, h5, h6⟩, h7⟩, h8⟩, h9⟩ := h
    rw [X.frames, List.length_cons] at h2 h3
    have q1 := X.heapSize
    have q2 := X.used
    simp only [hF, hU, List.length_cons, State.stackLimits_setFrames, State.stackBytes_setFrames, hl9, hb9]
    refine ⟨⟨⟨⟨by omega, by omega, by omega, by omega, by omega, h6⟩, ?_⟩, ?_⟩, X.book⟩
    · show T.heap.size + R'.cells ≤ e.platform.maxCells
      omega
    · show T.slotsUsed + R'.slots ≤ e.platform.maxSlots
      omega
  · rw [State.stackLimits_setFrames]; rfl
  · rw [State.stackBytes_setFrames]; rfl
  · refine ⟨?_, Nat.le_refl _, Nat.le_refl _, ?_, ?_, fun a c9 h9 => ⟨c9, h9, rfl, rfl, fun _ _ => rfl⟩⟩
    · obtain ⟨t, ht, -⟩ := State.frames_cons hr
      show T.setVm s.vm = { ((T.setVm s.vm).setFrames (.invoking m args :: below)).setFrames (T.setVm s.vm).frames with heap := T.heap, slotsUsed := T.slotsUsed }
      rw [State.setFrames_setFrames, State.setFrames_self ht]
      rfl
    · show T.slotsUsed = T.slotsUsed + ((T.heap.toList.drop T.heap.size).map (·.slots.size)).sum
      rw [List.drop_eq_nil_of_le (Nat.le_of_eq Array.length_toList)]
      rfl
    · show ((T.heap.toList.drop T.heap.size).map (·.slots.size)).sum ≤ 0
      rw [List.drop_eq_nil_of_le (Nat.le_of_eq Array.length_toList)]
      exact Nat.le_refl _
/-- 'throw new E()': new; dup; invokespecial; athrow -/
theorem vx_throw0 {cc : ByteArray} {pc : Nat} (hexec : p.tables.exec = Jvm.exec) (hb : c.code = cc) (hl : l.stackTraces = false) {own cls : String} {names : List String} {ik ic mc ms : Nat} {A : Nat → Prop}
    (hown : s.vm.findClass own = some m.cls) (hcls : Bundle.fit cls = true) (hnames : ∀ n ∈ names, Bundle.fit n = true)
    (hk : (Cond.classLink own ik cls).before args s = true) (hini : (Cond.initialized cls).before args s = true) (hat : ∀ w ∈ vx_at0 own ic cls names, w.before args s = true)
    (hgood : ∀ w ∈ Cond.classLink own ik cls :: Cond.initialized cls :: vx_at0 own ic cls names, vx_ot w = true)
    (hU : vx_Zq Bundle.tN "UNASSIGNED_STACK" Bundle.steD A s s.heap) (hN : vx_Zq Bundle.tN "SUPPRESSED_SENTINEL" Bundle.listD A s s.heap) (hS : va_S A s.heap H locs) (hsize : ls.size = c.maxLocals)
    (d0 : decode cc pc = .ok (.new ik, 3)) (d3 : decode cc (pc + 3) = .ok (.dup, 1)) (d4 : decode cc (pc + 4) = .ok (.invokespecial ic, 3)) (d7 : decode cc (pc + 7) = .ok (.athrow, 1))
    (hout : ∀ x ∈ c.exceptionTable.toList, covers x (pc + 7) = false)
    (hRframes : names.length + 3 < R.frames) (hRlocals : (rest.map fun v => v.category).sum + (13 * (names.length + 1) + 42) ≤ R.locals) (hRcells : cells + 1 ≤ R.cells) (hRslots : slots + 6 ≤ R.slots) (hlocks : meth.locks = false)
    (hx : ∀ t : State, s.vm.Alike t.vm → H.size ≤ t.heap.size → (∀ q : Nat, q < H.size → t.heap[q]? = H[q]?) → XC cls s t)
    (hf : ∀ z ∈ locs, free z.base) (hc : cells + 1 ≤ mc) (hs : slots + 6 ≤ ms) :
    W p l e R s m args below meth c H locs cells slots (vx_MQ below Qc XC args s mc ms free) (F0 m pc ls rest) := by
  intro T hT X
  have htr : e.platform.stackTraces = false := (show e.platform.stackTraces = l.stackTraces by rw [X.admits.platform]).trans hl
  have Y := vx_rebase X (R' := { frames := R.frames, locals := R.locals, cells := 1, slots := 6 }) (Nat.le_refl _) (Nat.le_refl _) hRcells hRslots
  obtain ⟨s', hA⟩ : ∃ z, z = (T.setVm s.vm).setFrames (.invoking m args :: below) := ⟨_, rfl⟩
  rw [← hA] at Y
  have hvm : s'.vm = s.vm := by rw [hA]; rfl
  have hhp : s'.heap = H := by rw [hA]; exact hT
  have hW0 : s.WarmedH s'.vm := by rw [hvm]; exact State.WarmedH.refl s
  have hat' : ∀ w ∈ vx_at0 own ic cls names, w.before args s' = true := fun w hw => vx_ot_at hW0 hvm.symm (hgood w (List.mem_cons_of_mem _ (List.mem_cons_of_mem _ hw))) (hat w hw)
  have hk' : (Cond.classLink own ik cls).before args s' = true := vx_ot_at hW0 hvm.symm (hgood _ List.mem_cons_self) hk
  have hini' : (Cond.initialized cls).before args s' = true := vx_ot_at hW0 hvm.symm (hgood _ (List.mem_cons_of_mem _ List.mem_cons_self)) hini
  have hU' : vx_Zq Bundle.tN "UNASSIGNED_STACK" Bundle.steD A s' s'.heap := by rw [hhp]; exact vx_Zq.moved hW0.alike (hU.kept hS.2.1)
  have hN' : vx_Zq Bundle.tN "SUPPRESSED_SENTINEL" Bundle.listD A s' s'.heap := by rw [hhp]; exact vx_Zq.moved hW0.alike (hN.kept hS.2.1)
  have h : ∀ w ∈ Bundle.ownAtoms0 own ic cls names, w.before args s' = true := vx_own hat' (vx_isRefq hU'.1) (vx_isRefq hN'.1) hU'.2.word hN'.2.word
  have hown' : s'.vm.findClass own = some m.cls := by rw [hvm]; exact hown
  have hins : (Cond.instantiable cls 6).before args s' = true := h _ (by simp [Bundle.ownAtoms0])
  obtain ⟨vm₁, cX, kX, hfX, hkX, -, -, X₁, st1⟩ := Y.newCold hexec (own := own) (C := cls) (index := ik) (n := 6) hown' hk' hins hini'
    (g := F0 m pc ls rest) rfl (by rw [hb]; exact d0) (Nat.le_refl _) (Nat.le_refl _)
  generalize hT1 : (T.setVm vm₁).pushCell { cls := cX, slots := kX.instanceTypes.map defaultValue, vm := .none } = T1 at X₁ st1
  have hcat : (Value.ref T.heap.size).category = 1 := rfl
  have hcellA : T1.heap[T.heap.size]? = some (freshCell cX kX) := by rw [← hT1]; exact State.heap_pushCell_size _ _
  have d3' : decode c.code (pc + 3) = .ok (.dup, 1) := by rw [hb]; exact d3
  obtain ⟨U, hsteps, hrun, hend, hW, hsame, ce, hce, hO⟩ := X₁.ctorThrow0 hexec htr (own := own) (cls := cls) (names := names) (ic := ic) hown' hcls hnames h (fun x hx => nomatch hx) hfX hkX hcellA (by rw [hhp, hT]; exact Nat.le_refl _)
    (g := { method := m, pc := pc + 4, locals := ls, stack := .ref T.heap.size :: .ref T.heap.size :: rest, locked := none }) rfl hsize rfl rfl (rest := rest) rfl
    (by rw [hb]; exact d4) (by rw [hb]; exact d7) hout hRframes (by simp only [List.map_cons, List.sum_cons, hcat]; omega) hlocks
  obtain ⟨f1, f2⟩ := vx_frame hsame
  rw [hhp] at f1 f2
  have hWs : s.WarmedH U.vm := State.WarmedH.trans hW0 hW
  have hcl : s.vm.findClass cls = some ce.cls := by
    have h9 := hO.cls
    rw [hvm] at h9
    exact h9
  have hall : s.sameButNew ({ U with vm := s.vm } : State) locs mc ms := by
    subst hA
    obtain ⟨e1, e2⟩ := hsame
    rw [State.setFrames_setFrames] at e1
    have h2 : (T.setVm s.vm).sameButNew ({ U with vm := s.vm } : State) [] (0 + 1) (0 + 6) := ⟨e1, e2⟩
    have h3 := X.same.trans h2
    rw [List.append_nil] at h3
    exact h3.mono hc hs
  refine ⟨U, ?_, .threw T.heap.size, hrun, hend, Or.inr ⟨T.heap.size, rfl, cls, ce, locs, hx U hWs.alike f1 (fun q hq => f2 q hq (fun z hz => nomatch hz)), hce, hO.vm, hcl, hWs, hall, hf⟩⟩
  refine st1 _ ?_
  show Steps p.tables e below (T1.setTop { method := m, pc := pc + 3, locals := ls, stack := .ref T.heap.size :: rest, locked := none }) _
  jvm_step X₁.here [X₁.here.top, hexec, d3', Value.category]
  exact hsteps
/-- 'throw new E("text")': new; dup; ldc; invokespecial; athrow -/
theorem vx_throwS {cc : ByteArray} {pc : Nat} (hexec : p.tables.exec = Jvm.exec) (hb : c.code = cc) (hl : l.stackTraces = false) {own cls text : String} {names : List String} {ik is ic mc ms sa : Nat} {A : Nat → Prop}
    (hown : s.vm.findClass own = some m.cls) (hcls : Bundle.fit cls = true) (hnames : ∀ n ∈ names, Bundle.fit n = true)
    (hk : (Cond.classLink own ik cls).before args s = true) (hini : (Cond.initialized cls).before args s = true) (hstr : vk_R own is text sa s) (hat : ∀ w ∈ vx_atS own ic cls names, w.before args s = true)
    (hgood : ∀ w ∈ Cond.classLink own ik cls :: Cond.initialized cls :: vx_atS own ic cls names, vx_ot w = true)
    (hU : vx_Zq Bundle.tN "UNASSIGNED_STACK" Bundle.steD A s s.heap) (hN : vx_Zq Bundle.tN "SUPPRESSED_SENTINEL" Bundle.listD A s s.heap) (hS : va_S A s.heap H locs) (hsize : ls.size = c.maxLocals)
    (d0 : decode cc pc = .ok (.new ik, 3)) (d3 : decode cc (pc + 3) = .ok (.dup, 1)) (d4 : decode cc (pc + 4) = .ok (.ldc is, 2)) (d6 : decode cc (pc + 6) = .ok (.invokespecial ic, 3)) (d9 : decode cc (pc + 9) = .ok (.athrow, 1))
    (hout : ∀ x ∈ c.exceptionTable.toList, covers x (pc + 9) = false)
    (hRframes : names.length + 3 < R.frames) (hRlocals : (rest.map fun v => v.category).sum + (13 * (names.length + 1) + 43) ≤ R.locals) (hRcells : cells + 1 ≤ R.cells) (hRslots : slots + 6 ≤ R.slots) (hlocks : meth.locks = false)
    (hx : ∀ t : State, s.vm.Alike t.vm → H.size ≤ t.heap.size → (∀ q : Nat, q < H.size → t.heap[q]? = H[q]?) → XC cls s t)
    (hf : ∀ z ∈ locs, free z.base) (hc : cells + 1 ≤ mc) (hs : slots + 6 ≤ ms) :
    W p l e R s m args below meth c H locs cells slots (vx_MQ below Qc XC args s mc ms free) (F0 m pc ls rest) := by
  intro T hT X
  have htr : e.platform.stackTraces = false := (show e.platform.stackTraces = l.stackTraces by rw [X.admits.platform]).trans hl
  have Y := vx_rebase X (R' := { frames := R.frames, locals := R.locals, cells := 1, slots := 6 }) (Nat.le_refl _) (Nat.le_refl _) hRcells hRslots
  obtain ⟨s', hA⟩ : ∃ z, z = (T.setVm s.vm).setFrames (.invoking m args :: below) := ⟨_, rfl⟩
  rw [← hA] at Y
  have hvm : s'.vm = s.vm := by rw [hA]; rfl
  have hhp : s'.heap = H := by rw [hA]; exact hT
  have hW0 : s.WarmedH s'.vm := by rw [hvm]; exact State.WarmedH.refl s
  have hat' : ∀ w ∈ vx_atS own ic cls names, w.before args s' = true := fun w hw => vx_ot_at hW0 hvm.symm (hgood w (List.mem_cons_of_mem _ (List.mem_cons_of_mem _ hw))) (hat w hw)
  have hk' : (Cond.classLink own ik cls).before args s' = true := vx_ot_at hW0 hvm.symm (hgood _ List.mem_cons_self) hk
  have hini' : (Cond.initialized cls).before args s' = true := vx_ot_at hW0 hvm.symm (hgood _ (List.mem_cons_of_mem _ List.mem_cons_self)) hini
  have hU' : vx_Zq Bundle.tN "UNASSIGNED_STACK" Bundle.steD A s' s'.heap := by rw [hhp]; exact vx_Zq.moved hW0.alike (hU.kept hS.2.1)
  have hN' : vx_Zq Bundle.tN "SUPPRESSED_SENTINEL" Bundle.listD A s' s'.heap := by rw [hhp]; exact vx_Zq.moved hW0.alike (hN.kept hS.2.1)
  have h : ∀ w ∈ Bundle.ownAtoms own ic cls names, w.before args s' = true := vx_own hat' (vx_isRefq hU'.1) (vx_isRefq hN'.1) hU'.2.word hN'.2.word
  have hown' : s'.vm.findClass own = some m.cls := by rw [hvm]; exact hown
  have hins : (Cond.instantiable cls 6).before args s' = true := h _ (by simp [Bundle.ownAtoms])
  obtain ⟨vm₁, cX, kX, hfX, hkX, -, -, X₁, st1⟩ := Y.newCold hexec (own := own) (C := cls) (index := ik) (n := 6) hown' hk' hins hini'
    (g := F0 m pc ls rest) rfl (by rw [hb]; exact d0) (Nat.le_refl _) (Nat.le_refl _)
  generalize hT1 : (T.setVm vm₁).pushCell { cls := cX, slots := kX.instanceTypes.map defaultValue, vm := .none } = T1 at X₁ st1
  have hcat : (Value.ref T.heap.size).category = 1 := rfl
  have hcellA : T1.heap[T.heap.size]? = some (freshCell cX kX) := by rw [← hT1]; exact State.heap_pushCell_size _ _
  have d3' : decode c.code (pc + 3) = .ok (.dup, 1) := by rw [hb]; exact d3
  have d4' : decode c.code (pc + 4) = .ok (.ldc is, 2) := by rw [hb]; exact d4
  have hstr' : vk_R own is text sa s' := vk_R.warm hW0 hstr
  obtain ⟨U, hsteps, hrun, hend, hW, hsame, ce, hce, hO⟩ := X₁.ctorThrowS hexec htr (own := own) (cls := cls) (names := names) (ic := ic) hown' hcls hnames h (fun x hx => nomatch hx) hfX hkX hcellA (by rw [hhp, hT]; exact Nat.le_refl _) (msg := .ref sa) rfl
    (g := { method := m, pc := pc + 6, locals := ls, stack := .ref sa :: .ref T.heap.size :: .ref T.heap.size :: rest, locked := none }) rfl hsize rfl rfl (rest := rest) rfl
    (by rw [hb]; exact d6) (by rw [hb]; exact d9) hout hRframes (by simp only [List.map_cons, List.sum_cons, hcat]; omega) hlocks
  obtain ⟨f1, f2⟩ := vx_frame hsame
  rw [hhp] at f1 f2
  have hWs : s.WarmedH U.vm := State.WarmedH.trans hW0 hW
  have hcl : s.vm.findClass cls = some ce.cls := by
    have h9 := hO.cls
    rw [hvm] at h9
    exact h9
  have hall : s.sameButNew ({ U with vm := s.vm } : State) locs mc ms := by
    subst hA
    obtain ⟨e1, e2⟩ := hsame
    rw [State.setFrames_setFrames] at e1
    have h2 : (T.setVm s.vm).sameButNew ({ U with vm := s.vm } : State) [] (0 + 1) (0 + 6) := ⟨e1, e2⟩
    have h3 := X.same.trans h2
    rw [List.append_nil] at h3
    exact h3.mono hc hs
  refine ⟨U, ?_, .threw T.heap.size, hrun, hend, Or.inr ⟨T.heap.size, rfl, cls, ce, locs, hx U hWs.alike f1 (fun q hq => f2 q hq (fun z hz => nomatch hz)), hce, hO.vm, hcl, hWs, hall, hf⟩⟩
  refine st1 _ ?_
  show Steps p.tables e below (T1.setTop { method := m, pc := pc + 3, locals := ls, stack := .ref T.heap.size :: rest, locked := none }) _
  jvm_step X₁.here [X₁.here.top, hexec, d3', Value.category]
  exact X₁.ldcString hexec (own := own) (text := text) (index := is) (a := sa) hown' hstr'.1 hstr'.2
    (g := { method := m, pc := pc + 4, locals := ls, stack := .ref T.heap.size :: .ref T.heap.size :: rest, locked := none }) rfl d4' _ hsteps
/-- 'throw new E("text")', the text by a wide index -/
theorem vx_throwSW {cc : ByteArray} {pc : Nat} (hexec : p.tables.exec = Jvm.exec) (hb : c.code = cc) (hl : l.stackTraces = false) {own cls text : String} {names : List String} {ik is ic mc ms sa : Nat} {A : Nat → Prop}
    (hown : s.vm.findClass own = some m.cls) (hcls : Bundle.fit cls = true) (hnames : ∀ n ∈ names, Bundle.fit n = true)
    (hk : (Cond.classLink own ik cls).before args s = true) (hini : (Cond.initialized cls).before args s = true) (hstr : vk_R own is text sa s) (hat : ∀ w ∈ vx_atS own ic cls names, w.before args s = true)
    (hgood : ∀ w ∈ Cond.classLink own ik cls :: Cond.initialized cls :: vx_atS own ic cls names, vx_ot w = true)
    (hU : vx_Zq Bundle.tN "UNASSIGNED_STACK" Bundle.steD A s s.heap) (hN : vx_Zq Bundle.tN "SUPPRESSED_SENTINEL" Bundle.listD A s s.heap) (hS : va_S A s.heap H locs) (hsize : ls.size = c.maxLocals)
    (d0 : decode cc pc = .ok (.new ik, 3)) (d3 : decode cc (pc + 3) = .ok (.dup, 1)) (d4 : decode cc (pc + 4) = .ok (.ldc_w is, 3)) (d7 : decode cc (pc + 7) = .ok (.invokespecial ic, 3)) (d10 : decode cc (pc + 10) = .ok (.athrow, 1))
    (hout : ∀ x ∈ c.exceptionTable.toList, covers x (pc + 10) = false)
    (hRframes : names.length + 3 < R.frames) (hRlocals : (rest.map fun v => v.category).sum + (13 * (names.length + 1) + 43) ≤ R.locals) (hRcells : cells + 1 ≤ R.cells) (hRslots : slots + 6 ≤ R.slots) (hlocks : meth.locks = false)
    (hx : ∀ t : State, s.vm.Alike t.vm → H.size ≤ t.heap.size → (∀ q : Nat, q < H.size → t.heap[q]? = H[q]?) → XC cls s t)
    (hf : ∀ z ∈ locs, free z.base) (hc : cells + 1 ≤ mc) (hs : slots + 6 ≤ ms) :
    W p l e R s m args below meth c H locs cells slots (vx_MQ below Qc XC args s mc ms free) (F0 m pc ls rest) := by
  intro T hT X
  have htr : e.platform.stackTraces = false := (show e.platform.stackTraces = l.stackTraces by rw [X.admits.platform]).trans hl
  have Y := vx_rebase X (R' := { frames := R.frames, locals := R.locals, cells := 1, slots := 6 }) (Nat.le_refl _) (Nat.le_refl _) hRcells hRslots
  obtain ⟨s', hA⟩ : ∃ z, z = (T.setVm s.vm).setFrames (.invoking m args :: below) := ⟨_, rfl⟩
  rw [← hA] at Y
  have hvm : s'.vm = s.vm := by rw [hA]; rfl
  have hhp : s'.heap = H := by rw [hA]; exact hT
  have hW0 : s.WarmedH s'.vm := by rw [hvm]; exact State.WarmedH.refl s
  have hat' : ∀ w ∈ vx_atS own ic cls names, w.before args s' = true := fun w hw => vx_ot_at hW0 hvm.symm (hgood w (List.mem_cons_of_mem _ (List.mem_cons_of_mem _ hw))) (hat w hw)
  have hk' : (Cond.classLink own ik cls).before args s' = true := vx_ot_at hW0 hvm.symm (hgood _ List.mem_cons_self) hk
  have hini' : (Cond.initialized cls).before args s' = true := vx_ot_at hW0 hvm.symm (hgood _ (List.mem_cons_of_mem _ List.mem_cons_self)) hini
  have hU' : vx_Zq Bundle.tN "UNASSIGNED_STACK" Bundle.steD A s' s'.heap := by rw [hhp]; exact vx_Zq.moved hW0.alike (hU.kept hS.2.1)
  have hN' : vx_Zq Bundle.tN "SUPPRESSED_SENTINEL" Bundle.listD A s' s'.heap := by rw [hhp]; exact vx_Zq.moved hW0.alike (hN.kept hS.2.1)
  have h : ∀ w ∈ Bundle.ownAtoms own ic cls names, w.before args s' = true := vx_own hat' (vx_isRefq hU'.1) (vx_isRefq hN'.1) hU'.2.word hN'.2.word
  have hown' : s'.vm.findClass own = some m.cls := by rw [hvm]; exact hown
  have hins : (Cond.instantiable cls 6).before args s' = true := h _ (by simp [Bundle.ownAtoms])
  obtain ⟨vm₁, cX, kX, hfX, hkX, -, -, X₁, st1⟩ := Y.newCold hexec (own := own) (C := cls) (index := ik) (n := 6) hown' hk' hins hini'
    (g := F0 m pc ls rest) rfl (by rw [hb]; exact d0) (Nat.le_refl _) (Nat.le_refl _)
  generalize hT1 : (T.setVm vm₁).pushCell { cls := cX, slots := kX.instanceTypes.map defaultValue, vm := .none } = T1 at X₁ st1
  have hcat : (Value.ref T.heap.size).category = 1 := rfl
  have hcellA : T1.heap[T.heap.size]? = some (freshCell cX kX) := by rw [← hT1]; exact State.heap_pushCell_size _ _
  have d3' : decode c.code (pc + 3) = .ok (.dup, 1) := by rw [hb]; exact d3
  have d4' : decode c.code (pc + 4) = .ok (.ldc_w is, 3) := by rw [hb]; exact d4
  have hstr' : vk_R own is text sa s' := vk_R.warm hW0 hstr
  obtain ⟨U, hsteps, hrun, hend, hW, hsame, ce, hce, hO⟩ := X₁.ctorThrowS hexec htr (own := own) (cls := cls) (names := names) (ic := ic) hown' hcls hnames h (fun x hx => nomatch hx) hfX hkX hcellA (by rw [hhp, hT]; exact Nat.le_refl _) (msg := .ref sa) rfl
    (g := { method := m, pc := pc + 7, locals := ls, stack := .ref sa :: .ref T.heap.size :: .ref T.heap.size :: rest, locked := none }) rfl hsize rfl rfl (rest := rest) rfl
    (by rw [hb]; exact d7) (by rw [hb]; exact d10) hout hRframes (by simp only [List.map_cons, List.sum_cons, hcat]; omega) hlocks
  obtain ⟨f1, f2⟩ := vx_frame hsame
  rw [hhp] at f1 f2
  have hWs : s.WarmedH U.vm := State.WarmedH.trans hW0 hW
  have hcl : s.vm.findClass cls = some ce.cls := by
    have h9 := hO.cls
    rw [hvm] at h9
    exact h9
  have hall : s.sameButNew ({ U with vm := s.vm } : State) locs mc ms := by
    subst hA
    obtain ⟨e1, e2⟩ := hsame
    rw [State.setFrames_setFrames] at e1
    have h2 : (T.setVm s.vm).sameButNew ({ U with vm := s.vm } : State) [] (0 + 1) (0 + 6) := ⟨e1, e2⟩
    have h3 := X.same.trans h2
    rw [List.append_nil] at h3
    exact h3.mono hc hs
  refine ⟨U, ?_, .threw T.heap.size, hrun, hend, Or.inr ⟨T.heap.size, rfl, cls, ce, locs, hx U hWs.alike f1 (fun q hq => f2 q hq (fun z hz => nomatch hz)), hce, hO.vm, hcl, hWs, hall, hf⟩⟩
  refine st1 _ ?_
  show Steps p.tables e below (T1.setTop { method := m, pc := pc + 3, locals := ls, stack := .ref T.heap.size :: rest, locked := none }) _
  jvm_step X₁.here [X₁.here.top, hexec, d3', Value.category]
  exact X₁.ldcStringW hexec (own := own) (text := text) (index := is) (a := sa) hown' hstr'.1 hstr'.2
    (g := { method := m, pc := pc + 4, locals := ls, stack := .ref T.heap.size :: .ref T.heap.size :: rest, locked := none }) rfl d4' _ hsteps
end Ends
section Bodies
variable {l : Launch}
theorem vx_ofW {y : MethodName} {ws ws' : List Cond} {rm : Room} {Pc : Array Value → State → Prop} {Qc : Array Value → State → Outcome → State → Prop} {XC : String → State → State → Prop} {mc ms : Nat} {free : Addr → Prop} {cc : ByteArray} {maxL : Nat} {ret : Option FieldType}
    (hy : plainName y.cls = true) (hw : ws = Cond.code y cc maxL ret :: ws')
    (body : ∀ p e s m args below meth c s₁, BodyLoose p l y (headSpec ws rm) cc maxL ret e s m args below meth c s₁ → c.maxLocals = maxL → (∀ x ∈ c.exceptionTable.toList, False) → Pc args s →
      W p l e (headSpec ws rm).room s m args below meth c s.heap [] 0 0 (vx_MQ below Qc XC args s mc ms free) (entryFrame m args maxL)) : vx_Met l y ws rm Pc Qc XC mc ms free := by
  refine MetFree.of_bodyS (code := cc) (maxLocals := maxL) (ret := ret) hy ?_ ?_
  · intro args s m h hn
    obtain ⟨meth, c, h1, h2, h3, h4, h5, h6, -, -⟩ := Cond.code_spec hn (atoms_spec (ws := ws) h _ (by rw [hw]; exact List.mem_cons_self))
    exact ⟨meth, c, h1, h2, h3, h4, h5, h6⟩
  · intro p e s m args below meth c s₁ B hml hP _
    have hh0 : s₁.heap = s.heap := by rw [B.state]; rfl
    have ht : ∀ x ∈ c.exceptionTable.toList, False := by
      obtain ⟨meth9, c9, h1, h2, -, -, -, -, h7, -⟩ := Cond.code_spec B.named (atoms_spec (ws := ws) B.pre _ (by rw [hw]; exact List.mem_cons_self))
      cases Option.some.inj (h1.symm.trans B.method)
      cases Option.some.inj (h2.symm.trans (Stand.of_body B).code)
      intro x hx
      rw [Array.isEmpty_iff.mp h7] at hx
      cases hx
    obtain ⟨t, a1, o, b1, b2, b3⟩ := body p e s m args below meth c s₁ B hml ht hP s₁ hh0 (Stand.of_body B)
    exact ⟨t, o, a1, b1, b2, b3⟩
/-- the table of a body with handlers -/
theorem vx_table {p : Program} {x y : MethodName} {S : Spec} {cc bytes : ByteArray} {maxL maxL' : Nat} {ret ret' : Option FieldType} {e : Env} {s s₁ : State} {m : MethodId} {args : Array Value} {below : List Frame} {meth : Method} {c : Code} {hh : List (Nat × Nat × Nat × Nat)}
    (B : BodyLoose p l y S cc maxL ret e s m args below meth c s₁) (h : (Cond.codeWith y bytes maxL' ret' hh).before args s = true) : c.exceptionTable.toList = tableOf hh := by
  obtain ⟨m9, meth9, c9, hn9, h1, h2, -, -, h6, -⟩ := Cond.codeWith_spec h
  cases Option.some.inj (hn9.symm.trans B.named)
  cases Option.some.inj (h1.symm.trans B.method)
  cases Option.some.inj (h2.symm.trans (Stand.of_body B).code)
  rw [← h6, table_eq]
end Bodies
end VXA
/-! ===== END ===== -/
/-! ===== BEGIN a static call of a method with an exception table ===== -/
section VXS
variable {p : Program} {l : Launch} {e : Env} {R : Room} {s : State} {m : MethodId} {args : Array Value} {below : List Frame} {meth : Method} {c : Code} {T : State} {H : Heap} {locs : List Loc} {cells slots : Nat}
abbrev vx_CSW (R : Room) (s : State) (args : Array Value) (own : String) (index : Nat) (y : MethodName) (bytes : ByteArray) (maxL : Nat) (ret : Option FieldType) (hh : List (Nat × Nat × Nat × Nat)) (ws : List Cond) (rm : Room) (mc ms n : Nat) : Prop :=
  (rm.cells = mc ∧ rm.slots = ms ∧ rm.frames + 1 ≤ R.frames ∧ 8 + (maxL + 11) + rm.locals ≤ R.locals ∧ (∀ w ∈ ws, ∀ (a' : Array Value) (U : State), s.WarmedH U.vm → w.before a' U = true) ∧ Cond.codeWith y bytes maxL ret hh ∈ ws) ∧
  (Cond.codeWith y bytes maxL ret hh).before args s = true ∧ (Cond.initialized y.cls).before args s = true ∧ (y.cls ≠ "java/lang/invoke/MethodHandle" ∧ y.cls ≠ "java/lang/invoke/VarHandle") ∧
  (∀ sig, parseMethodDescriptor y.desc = some sig → n = sig.parameters.length) ∧ (Cond.methodLink own index y).before args s = true ∧ (Cond.static y).before args s = true
theorem vx_cwSW {own : String} {index maxL mc ms : Nat} {y : MethodName} {bytes : ByteArray} {ret : Option FieldType} {hh : List (Nat × Nat × Nat × Nat)} {Ts ws ws' : List Cond} {rm : Room} (n : Nat) (ht : ∀ w ∈ Ts, w.before args s = true) (hT : GoodIn Ts (va_wsS own index y ws)) (hw : ws = Cond.codeWith y bytes maxL ret hh :: ws') (hrc : rm.cells = mc) (hrs : rm.slots = ms)
    (hd : y.cls ≠ "java/lang/invoke/MethodHandle" ∧ y.cls ≠ "java/lang/invoke/VarHandle" ∧ (parseMethodDescriptor y.desc).map (fun d => d.parameters.length) = some n) (hR : rm.frames + 1 ≤ R.frames ∧ 8 + (maxL + 11) + rm.locals ≤ R.locals) :
    vx_CSW R s args own index y bytes maxL ret hh ws rm mc ms n := by
  have ok : ∀ w ∈ va_wsS own index y ws, w.before args s = true := fun w h => ht w (hT w h).1
  have hG : GoodIn Ts ws := fun w h => hT w (by unfold va_wsS; exact List.mem_append_right _ h)
  have hc : Cond.codeWith y bytes maxL ret hh ∈ ws := by rw [hw]; exact List.mem_cons_self
  refine ⟨⟨hrc, hrs, hR.1, hR.2, pay_in ht hG, hc⟩, ht _ (hG _ hc).1, ok _ (by simp [va_wsS]), ⟨hd.1, hd.2.1⟩, fun sig h => ?_, ok _ (by simp [va_wsS]), ok _ (by simp [va_wsS])⟩
  have h2 := hd.2.2
  rw [h] at h2
  exact (Option.some.inj h2).symm
theorem vx_callSW (X : Stand p l e R s m args below meth c T locs cells slots) (hexec : p.tables.exec = Jvm.exec) {own : String} {index : Nat} {y : MethodName} {bytes : ByteArray} {maxL : Nat} {ret : Option FieldType} {hh : List (Nat × Nat × Nat × Nat)}
    (hown : s.vm.findClass own = some m.cls) (hlink : (Cond.methodLink own index y).before args s = true) (hstat : (Cond.static y).before args s = true) (hinit : (Cond.initialized y.cls).before args s = true)
    (hcode : (Cond.codeWith y bytes maxL ret hh).before args s = true) (hy : y.cls ≠ "java/lang/invoke/MethodHandle" ∧ y.cls ≠ "java/lang/invoke/VarHandle")
    {W9 : Nat} {Pre : Pt → Array Value → Prop} {Post : Pt → Array Value → Option Value → Pt → Prop} (hK : Back l R p e below s args y 3 W9 Pre Post)
    {g : JFrame} (hg : g.method = m) (hsize : g.locals.size = c.maxLocals) {argsL rest : List Value} (hlen : ∀ sig, parseMethodDescriptor y.desc = some sig → argsL.length = sig.parameters.length)
    (hstack : g.stack = argsL.reverse ++ rest) (hW : 2 * g.monitorRoom + (rest.map fun v => v.category).sum ≤ W9) (hdg : decode c.code g.pc = .ok (.invokestatic index, 3))
    (hpre : ∀ vm₁, s.WarmedH vm₁ → Pre ⟨T.setVm vm₁, locs, cells, slots⟩ argsL.toArray) :
    ∃ (v : Option Value) (vm₁ : Vm) (B : Pt), s.WarmedH vm₁ ∧ Stand p l e R s m args below meth c B.U B.locs B.cells B.slots ∧ Post ⟨T.setVm vm₁, locs, cells, slots⟩ argsL.toArray v B ∧
      ∀ target, Steps p.tables e below (B.U.setTop { g with pc := g.pc + 3, stack := v.toList ++ rest }) target → Steps p.tables e below (T.setTop g) target := by
  obtain ⟨mk, methM, cM, hnamed, hmethM, -, -, -, -, -, -, hsigM⟩ := Cond.codeWith_spec hcode
  have hstatic : methM.isStatic = true := Cond.static_spec hnamed hmethM hstat
  obtain ⟨kP, hkP, -⟩ := className_of_methodNamed hnamed
  have hinitP : kP.init = .initialized := Cond.initialized_spec (findClass_of_methodNamed hnamed) hkP hinit
  obtain ⟨vm₁, X₁, hstep₁⟩ := X.invokestatic hexec hown hlink hnamed hmethM hstatic hkP hinitP hy (g := g) hg (argsL := argsL) (rest := rest) (hlen _ hsigM) hstack hdg
  obtain ⟨v, B, X', hpost, hsteps⟩ := hK m meth c ⟨T.setVm vm₁, locs, cells, slots⟩ { g with stack := rest } (.invokestatic index) mk argsL.toArray X₁ hg hsize hdg hW (X₁.named hnamed) (hpre vm₁ X₁.warmed)
  exact ⟨v, vm₁, B, X₁.warmed, X', hpost, fun target h => hstep₁ _ fun acts => by rw [doInvoke_state]; exact hsteps.trans h⟩
theorem vx_runSW {y : MethodName} {bytes cc : ByteArray} {maxL nL mc ms n index : Nat} {ret : Option FieldType} {hh : List (Nat × Nat × Nat × Nat)} {ws : List Cond} {rm : Room} {Pc : Array Value → State → Prop} {Qc : Array Value → State → Outcome → State → Prop} {free : Addr → Prop} {Ts : List Cond} {own : String} {As rest : List Value} {g : JFrame}
    (S : CallFix p m c cc nL s args Ts own) (hM : Met l y ws rm Pc Qc mc ms free) (cw : vx_CSW R s args own index y bytes maxL ret hh ws rm mc ms n) (hp : PreS s H Pc As)
    (hg : g.method = m) (hn : As.length = n) (hsize : g.locals.size = nL) (hstack : g.stack = As.reverse ++ rest) (hW : 2 * g.monitorRoom + (rest.map fun v => v.category).sum ≤ 8) (hdg : decode cc g.pc = .ok (.invokestatic index, 3)) (hf : cells + mc ≤ R.cells ∧ slots + ms ≤ R.slots) :
    va_Run p l e R s m args below meth c H locs cells slots mc ms g rest (Qc As.toArray) (free) := by
  obtain ⟨⟨hrc, hrs, hfr, hlo, hws, hcw⟩, hcode, hini, hy, hlen, hl, hstt⟩ := cw
  have hK : Back l R p e below s args y 3 8 (PreOf R mc ms Pc) (PostOf Qc mc ms free) := va_backW (hh := hh) (bytes := bytes) (maxL := maxL) (ret := ret) hM hp.1 hrc hrs hfr hlo hws hcw (fun a' U hW => word_at hW (Or.inl (by first | rfl | simp [Cond.onTables, Cond.keeps, Cond.steady])) hini)
  obtain ⟨hx, hb, hml, ho, -⟩ := S
  intro T hT X
  obtain ⟨v, vm₁, ⟨U', l2, c2, s2⟩, hW₁, X', ⟨g', mk, t, L, e1, e2, hq, h1, hL, h2, h3⟩, st⟩ := vx_callSW X hx (hh := hh) (bytes := bytes) (maxL := maxL) (ret := ret) ho hl hstt hini hcode hy hK hg (hsize.trans hml.symm) (argsL := As) (rest := rest) (fun sig h => hn.trans (hlen sig h)) hstack hW (by rw [hb]; exact hdg)
    (fun vm₁ hW₁ => ⟨hf.1, hf.2, hp.2 (T.setVm vm₁) hT hW₁⟩)
  dsimp only [Pt.U, Pt.locs, Pt.cells, Pt.slots] at X' e1 e2 h1 h2 h3 st
  subst h1; subst h2; subst h3
  exact ⟨v, (T.setVm vm₁).calling g' mk As.toArray, t, U', L, hT, X', hL, e1, e2, hq, st⟩
/-- not caught here, past rows that name other classes: it goes on to the caller -/
theorem vx_outP {p : Program} {l : Launch} {e : Env} {R : Room} {s : State} {m : MethodId} {args : Array Value} {below : List Frame} {meth : Method} {c : Code} {H : Heap} {locs : List Loc} {cells slots : Nat} {free : Addr → Prop} {ls : Array Slot} {rest : List Value} {Qc : Array Value → State → Outcome → State → Prop} {XC : String → State → State → Prop}
    {pc : Nat} {own E : String} {ce : Cell} {q : Addr} {mc ms : Nat} (hown : s.vm.findClass own = some m.cls) (hlocks : meth.locks = false)
    (hpass : ∀ z ∈ c.exceptionTable.toList, covers z pc = false ∨ (z.catchType ≠ 0 ∧ ∃ nm : String, (Cond.classLink own z.catchType nm).before args s = true ∧ va_Nc E nm s)) (hcell : H[q]? = some ce) (hv : ce.vm = .none) (hcl : s.vm.findClass E = some ce.cls)
    (hx : ∀ t : State, t.heap = H → s.vm.Alike t.vm → XC E s t) (hf : ∀ z ∈ locs, free z.base) (hc : cells ≤ mc) (hs : slots ≤ ms) :
    vx_W p l e R s m args below meth c H locs cells slots (vx_MQ below Qc XC args s mc ms free) (F0 m pc ls rest) q := by
  intro T hT X
  have hpl : e.platform.magicAccessors = ({} : Platform).magicAccessors := by rw [X.admits.platform]
  obtain ⟨vm', hW', X', st⟩ := X.outThrough hlocks q (g := F0 m pc ls rest) rfl rfl rfl (cell := ce) (by rw [hT]; exact hcell) (by rw [hv]; rfl)
    (by obtain ⟨k9, h9, -⟩ := Vm.findClass_spec hcl; exact ⟨k9, h9⟩) (fun z hz => by
      rcases hpass z hz with h | ⟨hz0, nm, hl1, hn1⟩
      · exact Or.inl h
      · obtain ⟨c6, hc6, hcl6⟩ := Cond.classLink_spec hown hl1 e.platform hpl
        obtain ⟨a8, b8, h1, h2, h3⟩ := hn1
        cases Option.some.inj (h1.symm.trans hcl)
        cases Option.some.inj (h2.symm.trans hc6)
        exact Or.inr ⟨hz0, _, hcl6, h3⟩)
  obtain ⟨g₀, hfr⟩ := X'.frames_eq
  have hcell9 : ((T.setVm vm').setFrames (.throwing q :: below)).heap[q]? = some ce := by
    show T.heap[q]? = some ce
    rw [hT]; exact hcell
  have hend : Ended ((T.setVm vm').setFrames (.throwing q :: below)) below (.threw q) := State.frames_setFrames _ (State.cur_lt_of_frames hfr)
  refine ⟨(T.setVm vm').setFrames (.throwing q :: below), ?_, .threw q, X'.here.running, hend, Or.inr ⟨q, rfl, E, ce, locs, hx _ hT (X'.ends _).1.alike, hcell9, hv, hcl, (X'.ends _).1, (X'.ends _).2.mono hc hs, hf⟩⟩
  rw [X.pushThrowing_eq]
  exact st
/-- a thing of a world lies in the heap -/
theorem vx_lt {D : va_G} {cl : List vw_C} {ws : va_W} {H1 : Heap} (h : va_P D cl ws H1) {k : Nat} {q : Nat × va_E} (hk : ws[k]? = some q) : q.1 < H1.size := (h k q hk).lt
end VXS
/-! ===== END ===== -/
/-! ===== BEGIN methods with a table of their own: called by a name, returning or throwing ===== -/
section VXH
/-! vx_backW, vx_callVX, vx_callSX, vx_callVW, vx_runVW, vx_runVX, vx_runSX, vx_ofWH follow the same proofs as their sisters above (Free/Laws.lean, Shelf42/LK1.lean); vx_outP calls Shelf42/NT130.lean (outThrough). -/
section
variable {l : Launch} {R : Room} {p : Program} {e : Env} {below : List Frame} {s : State} {sargs : Array Value} {y : MethodName} {len W9 : Nat}
theorem vx_backW {ws : List Cond} {rm : Room} {Pc : Array Value → State → Prop} {Qc : Array Value → State → Outcome → State → Prop} {XC : String → State → State → Prop} {mc ms : Nat} {free : Addr → Prop} {bytes : ByteArray} {maxL : Nat} {ret : Option FieldType} {hh : List (Nat × Nat × Nat × Nat)}
    (hM : vx_Met l y ws rm Pc Qc XC mc ms free) (hblind : FrameBlind Pc) (hrc : rm.cells = mc) (hrs : rm.slots = ms)
    (hframes : rm.frames + 1 ≤ R.frames) (hlocals : W9 + (maxL + 11) + rm.locals ≤ R.locals)
    (hws : ∀ w ∈ ws, ∀ a' U, s.WarmedH U.vm → w.before a' U = true) (hcode : Cond.codeWith y bytes maxL ret hh ∈ ws) (hinit : ∀ a' U, s.WarmedH U.vm → (Cond.initialized y.cls).before a' U = true) :
    vx_Back l R p e below s sargs y len W9 (PreOf R mc ms Pc) (PostOf Qc mc ms free) (vx_Post XC mc ms free) := by
  intro m meth c A g ig mk a X hg hsize hdg hW hn hp
  have h1 : (headSpec ws rm).pre.before a A.U = true := atoms_intro fun w hw => hws w hw _ _ X.warmed
  have h2 : (Cond.codeWith y bytes maxL ret hh).before a A.U = true := hws _ hcode _ _ X.warmed
  have h3 : (Cond.initialized y.cls).before a A.U = true := hinit _ _ X.warmed
  have h4 : A.cells + (headSpec ws rm).room.cells ≤ R.cells := by rw [show (headSpec ws rm).room.cells = mc from hrc]; exact hp.1
  have h5 : A.slots + (headSpec ws rm).room.slots ≤ R.slots := by rw [show (headSpec ws rm).room.slots = ms from hrs]; exact hp.2.1
  have hPc : Pc a (A.U.calling g mk a) := hblind _ _ _ _ hp.2.2
  obtain ⟨U, Ls, c0, s0⟩ := A
  dsimp only [Pt.U, Pt.locs, Pt.cells, Pt.slots] at h1 h2 h3 h4 h5 X hn hPc ⊢
  obtain ⟨m9, methY, cY, hn9, hmY, hcY, -, hlY, -⟩ := Cond.codeWith_spec h2
  cases Option.some.inj (hn9.symm.trans hn)
  obtain ⟨kY, hkY, -⟩ := className_of_methodNamed hn
  have hinitY : kY.init = .initialized := Cond.initialized_spec (findClass_of_methodNamed hn) hkY h3
  have h : At U g.method c below := by rw [hg]; exact X.here
  have hlocals9 : W9 + (maxL + 11) + (headSpec ws rm).room.locals ≤ R.locals := hlocals
  have happ : (headSpec ws rm).appliesLoose y e.platform (U.calling g mk a) = true :=
    Spec.appliesLoose_calling (g := g) h hdg hn hkY hinitY
      (X.room_calling (g := g) (R' := (headSpec ws rm).room) hsize hmY hcY hframes (by rw [hlY]; omega) h4 h5) h1
  obtain ⟨mid, hmid⟩ := h.above
  have hfr : (U.setTop g).frames = (.java g :: mid) ++ below := by rw [State.frames_setTop' g h.top, hmid]; rfl
  obtain ⟨o, s₂, hsteps, -, hend, hq⟩ := Steps.callFree hM p X.admits X.cas X.clock (acts := []) hfr happ hPc trivial
  have hq' : vx_Q Qc XC mc ms free a (U.calling g mk a) o s₂ := hq
  rw [State.frames_setTop' g h.top] at hend
  obtain ⟨g₀, hg0⟩ := Option.isSome_iff_exists.mp h.top
  obtain ⟨r, hr⟩ := State.topJava?_eq_some.mp hg0
  have hr' : (({ U with heap := s₂.heap, slotsUsed := s₂.slotsUsed } : State).setVm s₂.vm).frames = .java g₀ :: r := hr
  rcases hq' with ⟨hqc, L, hfe, hL⟩ | ⟨q, rfl, E, ce, L, hx, hce, hcv, hcl, hW₂, hsm, hL⟩
  · obtain ⟨⟨v, rfl⟩, hW₂, e2, q2, q3, q4, q5, q6⟩ := id hfe
    have e3 : s₂ = ({ (U.calling g mk a).setFrames s₂.frames with heap := s₂.heap, slotsUsed := s₂.slotsUsed } : State).setVm s₂.vm := by
      have : s₂ = ({ s₂ with vm := (U.calling g mk a).vm } : State).setVm s₂.vm := rfl
      rw [e2] at this
      exact this
    obtain ⟨c₂, i₂, len₂, hc₂, hd₂, hf₂⟩ := hend
    have hW' : U.WarmedH s₂.vm := hW₂
    have hcc : c₂ = c := by
      have h1 : s₂.code? g.method = U.code? g.method := by
        rw [State.code?_eq, State.code?_eq, hW'.alike.method?]
      exact Option.some.inj (hc₂.symm.trans (h1.trans h.code))
    subst hcc
    have hlen : len₂ = len := by rw [hdg] at hd₂; cases hd₂; rfl
    subst hlen
    have hs₂ : s₂ = (({ U with heap := s₂.heap, slotsUsed := s₂.slotsUsed } : State).setVm s₂.vm).setTop { g with pc := g.pc + len₂, stack := v.toList ++ g.stack } := by
      refine e3.trans ?_
      rw [hf₂, State.calling_eq h.top, State.setFrames_setFrames, State.setTop_of_frames _ hr', hr]
      rfl
    have hsame : U.sameButNew ({ U with heap := s₂.heap, slotsUsed := s₂.slotsUsed } : State) L mc ms := by
      refine ⟨?_, q2, q3, q4, q5, q6⟩
      obtain ⟨t, ht, -⟩ := State.frames_cons hr
      show ({ U with heap := s₂.heap, slotsUsed := s₂.slotsUsed } : State) = { U.setFrames U.frames with heap := s₂.heap, slotsUsed := s₂.slotsUsed }
      rw [State.setFrames_self ht]
    subst hg
    refine Or.inl ⟨v, ⟨(({ U with heap := s₂.heap, slotsUsed := s₂.slotsUsed } : State).setVm s₂.vm), Ls ++ L, c0 + mc, s0 + ms⟩,
      ⟨X.admits, X.cas, X.clock, X.frames, X.room, X.hears, X.method, X.code, (X.here.setHeapUsed s₂.heap s₂.slotsUsed).setVm hW'.alike, X.tail, State.WarmedH.trans X.warmed hW', X.limits, X.bytes, X.same.trans (hsame.setVm s.vm)⟩,
      ⟨g, mk, s₂, L, rfl, rfl, hqc, rfl, hL, rfl, rfl⟩, ?_⟩
    show Steps p.tables e below _ ((({ U with heap := s₂.heap, slotsUsed := s₂.slotsUsed } : State).setVm s₂.vm).setTop { g with pc := g.pc + len₂, stack := v.toList ++ g.stack })
    rw [← hs₂]
    exact hsteps
  · obtain ⟨e2, q2, q3, q4, q5, q6⟩ := id hsm
    have e3 : s₂ = ({ (U.calling g mk a).setFrames s₂.frames with heap := s₂.heap, slotsUsed := s₂.slotsUsed } : State).setVm s₂.vm := by
      have : s₂ = ({ s₂ with vm := (U.calling g mk a).vm } : State).setVm s₂.vm := rfl
      rw [e2] at this
      exact this
    have hf₂ : s₂.frames = .throwing q :: .java g :: U.frames.tail := hend
    have hW' : U.WarmedH s₂.vm := hW₂
    have hs₂ : s₂ = ((({ U with heap := s₂.heap, slotsUsed := s₂.slotsUsed } : State).setVm s₂.vm).setTop g).pushFrame (.throwing q) := by
      refine e3.trans ?_
      rw [hf₂, State.calling_eq h.top, State.setFrames_setFrames, State.pushFrame, State.frames_setTop _ hr', State.setTop_of_frames _ hr', State.setFrames_setFrames, hr]
      rfl
    have hsame : U.sameButNew ({ U with heap := s₂.heap, slotsUsed := s₂.slotsUsed } : State) L mc ms := by
      refine ⟨?_, q2, q3, q4, q5, q6⟩
      obtain ⟨t, ht, -⟩ := State.frames_cons hr
      show ({ U with heap := s₂.heap, slotsUsed := s₂.slotsUsed } : State) = { U.setFrames U.frames with heap := s₂.heap, slotsUsed := s₂.slotsUsed }
      rw [State.setFrames_self ht]
    subst hg
    refine Or.inr ⟨q, ⟨(({ U with heap := s₂.heap, slotsUsed := s₂.slotsUsed } : State).setVm s₂.vm), Ls ++ L, c0 + mc, s0 + ms⟩,
      ⟨X.admits, X.cas, X.clock, X.frames, X.room, X.hears, X.method, X.code, (X.here.setHeapUsed s₂.heap s₂.slotsUsed).setVm hW'.alike, X.tail, State.WarmedH.trans X.warmed hW', X.limits, X.bytes, X.same.trans (hsame.setVm s.vm)⟩,
      ⟨g, mk, s₂, L, E, ce, rfl, rfl, hx, hce, hcv, hcl, rfl, hL, rfl, rfl⟩, ?_⟩
    show Steps p.tables e below _ (((({ U with heap := s₂.heap, slotsUsed := s₂.slotsUsed } : State).setVm s₂.vm).setTop g).pushFrame (.throwing q))
    rw [← hs₂]
    exact hsteps
end
variable {p : Program} {l : Launch} {e : Env} {R : Room} {s : State} {m : MethodId} {args : Array Value} {below : List Frame} {meth : Method} {c : Code} {T : State} {H : Heap} {locs : List Loc} {cells slots : Nat}
theorem vx_callVX (X : Stand p l e R s m args below meth c T locs cells slots) (hexec : p.tables.exec = Jvm.exec) {own C : String} {index : Nat} {y : MethodName} {bytes : ByteArray} {maxL : Nat} {ret : Option FieldType} {hh : List (Nat × Nat × Nat × Nat)}
    (hown : s.vm.findClass own = some m.cls) (hlink : (Cond.methodLink own index y).before args s = true) (hinst : (Cond.instanceMethod y).before args s = true) (hsel : (Cond.selects C y y).before args s = true)
    (hcode : (Cond.codeWith y bytes maxL ret hh).before args s = true) (hy : y.cls ≠ "java/lang/invoke/MethodHandle" ∧ y.cls ≠ "java/lang/invoke/VarHandle")
    {W9 : Nat} {Pre : Pt → Array Value → Prop} {Post : Pt → Array Value → Option Value → Pt → Prop} {PostX : Pt → Array Value → Addr → Pt → Prop} (hK : vx_Back l R p e below s args y 3 W9 Pre Post PostX)
    {b : Addr} {cellB : Cell} (hcell : T.heap[b]? = some cellB) (hobj : cellB.vm.isStatics = false) (hcls : s.vm.findClass C = some cellB.cls)
    {g : JFrame} (hg : g.method = m) (hsize : g.locals.size = c.maxLocals) {argsL rest : List Value} (hlen : ∀ sig, parseMethodDescriptor y.desc = some sig → argsL.length = sig.parameters.length)
    (hstack : g.stack = argsL.reverse ++ .ref b :: rest) (hW : 2 * g.monitorRoom + (rest.map fun v => v.category).sum ≤ W9) (hdg : decode c.code g.pc = .ok (.invokevirtual index, 3))
    (hpre : ∀ vm₁, s.WarmedH vm₁ → Pre ⟨T.setVm vm₁, locs, cells, slots⟩ (Value.ref b :: argsL).toArray) :
    (∃ (v : Option Value) (vm₁ : Vm) (B : Pt), s.WarmedH vm₁ ∧ Stand p l e R s m args below meth c B.U B.locs B.cells B.slots ∧ Post ⟨T.setVm vm₁, locs, cells, slots⟩ (Value.ref b :: argsL).toArray v B ∧
      ∀ target, Steps p.tables e below (B.U.setTop { g with pc := g.pc + 3, stack := v.toList ++ rest }) target → Steps p.tables e below (T.setTop g) target) ∨
    (∃ (q : Addr) (vm₁ : Vm) (B : Pt), s.WarmedH vm₁ ∧ Stand p l e R s m args below meth c B.U B.locs B.cells B.slots ∧ PostX ⟨T.setVm vm₁, locs, cells, slots⟩ (Value.ref b :: argsL).toArray q B ∧
      Steps p.tables e below (T.setTop g) ((B.U.setTop { g with stack := rest }).pushFrame (.throwing q))) := by
  obtain ⟨mk, methM, hnamed, hmethM, hstM, habM⟩ := Cond.instanceMethod_spec hinst
  obtain ⟨m8, methM', cM, hn8, hmethM', -, -, -, -, -, -, hsigM⟩ := Cond.codeWith_spec hcode
  cases Option.some.inj (hn8.symm.trans hnamed)
  cases hmethM.symm.trans hmethM'
  obtain ⟨c2, r2, m2, q1, q2, q3, q4, kP, hkP, hkPi⟩ := Cond.selects_spec hsel
  cases hcls.symm.trans q1
  cases (State.methodFound?_of_named hnamed hy).symm.trans q2
  cases hnamed.symm.trans q3
  have hselP : selectMethod e.platform s.vm cellB.cls mk = .method mk := by rw [Launch.admits_selectMethod X.admits]; exact q4
  obtain ⟨vm₁, X₁, hstep₁⟩ := X.invokevirtual hexec hown hlink hnamed hmethM hstM hkP hkPi hy (a := b) (cell := cellB) hcell
    (fun z h => by rw [h] at hobj; cases hobj) hselP hmethM habM hkP hkPi (g := g) hg (argsL := argsL) (rest := rest) (hlen _ hsigM) hstack hdg
  rcases hK m meth c ⟨T.setVm vm₁, locs, cells, slots⟩ { g with stack := rest } (.invokevirtual index) mk (Value.ref b :: argsL).toArray X₁ hg hsize hdg hW (X₁.named hnamed) (hpre vm₁ X₁.warmed) with ⟨v, B, X', hpost, hsteps⟩ | ⟨q, B, X', hpost, hsteps⟩
  · exact Or.inl ⟨v, vm₁, B, X₁.warmed, X', hpost, fun target h => hstep₁ _ fun acts => by rw [doInvoke_state]; exact hsteps.trans h⟩
  · exact Or.inr ⟨q, vm₁, B, X₁.warmed, X', hpost, hstep₁ _ fun acts => by rw [doInvoke_state]; exact hsteps⟩
theorem vx_callSX (X : Stand p l e R s m args below meth c T locs cells slots) (hexec : p.tables.exec = Jvm.exec) {own : String} {index : Nat} {y : MethodName} {bytes : ByteArray} {maxL : Nat} {ret : Option FieldType} {hh : List (Nat × Nat × Nat × Nat)}
    (hown : s.vm.findClass own = some m.cls) (hlink : (Cond.methodLink own index y).before args s = true) (hstat : (Cond.static y).before args s = true) (hinit : (Cond.initialized y.cls).before args s = true)
    (hcode : (Cond.codeWith y bytes maxL ret hh).before args s = true) (hy : y.cls ≠ "java/lang/invoke/MethodHandle" ∧ y.cls ≠ "java/lang/invoke/VarHandle")
    {W9 : Nat} {Pre : Pt → Array Value → Prop} {Post : Pt → Array Value → Option Value → Pt → Prop} {PostX : Pt → Array Value → Addr → Pt → Prop} (hK : vx_Back l R p e below s args y 3 W9 Pre Post PostX)
    {g : JFrame} (hg : g.method = m) (hsize : g.locals.size = c.maxLocals) {argsL rest : List Value} (hlen : ∀ sig, parseMethodDescriptor y.desc = some sig → argsL.length = sig.parameters.length)
    (hstack : g.stack = argsL.reverse ++ rest) (hW : 2 * g.monitorRoom + (rest.map fun v => v.category).sum ≤ W9) (hdg : decode c.code g.pc = .ok (.invokestatic index, 3))
    (hpre : ∀ vm₁, s.WarmedH vm₁ → Pre ⟨T.setVm vm₁, locs, cells, slots⟩ argsL.toArray) :
    (∃ (v : Option Value) (vm₁ : Vm) (B : Pt), s.WarmedH vm₁ ∧ Stand p l e R s m args below meth c B.U B.locs B.cells B.slots ∧ Post ⟨T.setVm vm₁, locs, cells, slots⟩ argsL.toArray v B ∧
      ∀ target, Steps p.tables e below (B.U.setTop { g with pc := g.pc + 3, stack := v.toList ++ rest }) target → Steps p.tables e below (T.setTop g) target) ∨
    (∃ (q : Addr) (vm₁ : Vm) (B : Pt), s.WarmedH vm₁ ∧ Stand p l e R s m args below meth c B.U B.locs B.cells B.slots ∧ PostX ⟨T.setVm vm₁, locs, cells, slots⟩ argsL.toArray q B ∧
      Steps p.tables e below (T.setTop g) ((B.U.setTop { g with stack := rest }).pushFrame (.throwing q))) := by
  obtain ⟨mk, methM, cM, hnamed, hmethM, -, -, -, -, -, -, hsigM⟩ := Cond.codeWith_spec hcode
  have hstatic : methM.isStatic = true := Cond.static_spec hnamed hmethM hstat
  obtain ⟨kP, hkP, -⟩ := className_of_methodNamed hnamed
  have hinitP : kP.init = .initialized := Cond.initialized_spec (findClass_of_methodNamed hnamed) hkP hinit
  obtain ⟨vm₁, X₁, hstep₁⟩ := X.invokestatic hexec hown hlink hnamed hmethM hstatic hkP hinitP hy (g := g) hg (argsL := argsL) (rest := rest) (hlen _ hsigM) hstack hdg
  rcases hK m meth c ⟨T.setVm vm₁, locs, cells, slots⟩ { g with stack := rest } (.invokestatic index) mk argsL.toArray X₁ hg hsize hdg hW (X₁.named hnamed) (hpre vm₁ X₁.warmed) with ⟨v, B, X', hpost, hsteps⟩ | ⟨q, B, X', hpost, hsteps⟩
  · exact Or.inl ⟨v, vm₁, B, X₁.warmed, X', hpost, fun target h => hstep₁ _ fun acts => by rw [doInvoke_state]; exact hsteps.trans h⟩
  · exact Or.inr ⟨q, vm₁, B, X₁.warmed, X', hpost, hstep₁ _ fun acts => by rw [doInvoke_state]; exact hsteps⟩
theorem vx_callVW (X : Stand p l e R s m args below meth c T locs cells slots) (hexec : p.tables.exec = Jvm.exec) {own C : String} {index : Nat} {y : MethodName} {bytes : ByteArray} {maxL : Nat} {ret : Option FieldType} {hh : List (Nat × Nat × Nat × Nat)}
    (hown : s.vm.findClass own = some m.cls) (hlink : (Cond.methodLink own index y).before args s = true) (hinst : (Cond.instanceMethod y).before args s = true) (hsel : (Cond.selects C y y).before args s = true)
    (hcode : (Cond.codeWith y bytes maxL ret hh).before args s = true) (hy : y.cls ≠ "java/lang/invoke/MethodHandle" ∧ y.cls ≠ "java/lang/invoke/VarHandle")
    {W9 : Nat} {Pre : Pt → Array Value → Prop} {Post : Pt → Array Value → Option Value → Pt → Prop} (hK : Back l R p e below s args y 3 W9 Pre Post)
    {b : Addr} {cellB : Cell} (hcell : T.heap[b]? = some cellB) (hobj : cellB.vm.isStatics = false) (hcls : s.vm.findClass C = some cellB.cls)
    {g : JFrame} (hg : g.method = m) (hsize : g.locals.size = c.maxLocals) {argsL rest : List Value} (hlen : ∀ sig, parseMethodDescriptor y.desc = some sig → argsL.length = sig.parameters.length)
    (hstack : g.stack = argsL.reverse ++ .ref b :: rest) (hW : 2 * g.monitorRoom + (rest.map fun v => v.category).sum ≤ W9) (hdg : decode c.code g.pc = .ok (.invokevirtual index, 3))
    (hpre : ∀ vm₁, s.WarmedH vm₁ → Pre ⟨T.setVm vm₁, locs, cells, slots⟩ (Value.ref b :: argsL).toArray) :
    ∃ (v : Option Value) (vm₁ : Vm) (B : Pt), s.WarmedH vm₁ ∧ Stand p l e R s m args below meth c B.U B.locs B.cells B.slots ∧ Post ⟨T.setVm vm₁, locs, cells, slots⟩ (Value.ref b :: argsL).toArray v B ∧
      ∀ target, Steps p.tables e below (B.U.setTop { g with pc := g.pc + 3, stack := v.toList ++ rest }) target → Steps p.tables e below (T.setTop g) target := by
  obtain ⟨mk, methM, hnamed, hmethM, hstM, habM⟩ := Cond.instanceMethod_spec hinst
  obtain ⟨m8, methM', cM, hn8, hmethM', -, -, -, -, -, -, hsigM⟩ := Cond.codeWith_spec hcode
  cases Option.some.inj (hn8.symm.trans hnamed)
  cases hmethM.symm.trans hmethM'
  obtain ⟨c2, r2, m2, q1, q2, q3, q4, kP, hkP, hkPi⟩ := Cond.selects_spec hsel
  cases hcls.symm.trans q1
  cases (State.methodFound?_of_named hnamed hy).symm.trans q2
  cases hnamed.symm.trans q3
  have hselP : selectMethod e.platform s.vm cellB.cls mk = .method mk := by rw [Launch.admits_selectMethod X.admits]; exact q4
  obtain ⟨vm₁, X₁, hstep₁⟩ := X.invokevirtual hexec hown hlink hnamed hmethM hstM hkP hkPi hy (a := b) (cell := cellB) hcell
    (fun z h => by rw [h] at hobj; cases hobj) hselP hmethM habM hkP hkPi (g := g) hg (argsL := argsL) (rest := rest) (hlen _ hsigM) hstack hdg
  obtain ⟨v, B, X', hpost, hsteps⟩ := hK m meth c ⟨T.setVm vm₁, locs, cells, slots⟩ { g with stack := rest } (.invokevirtual index) mk (Value.ref b :: argsL).toArray X₁ hg hsize hdg hW (X₁.named hnamed) (hpre vm₁ X₁.warmed)
  exact ⟨v, vm₁, B, X₁.warmed, X', hpost, fun target h => hstep₁ _ fun acts => by rw [doInvoke_state]; exact hsteps.trans h⟩
abbrev vx_CVW (R : Room) (s : State) (args : Array Value) (own C : String) (index : Nat) (y : MethodName) (bytes : ByteArray) (maxL : Nat) (ret : Option FieldType) (hh : List (Nat × Nat × Nat × Nat)) (ws : List Cond) (rm : Room) (mc ms n : Nat) : Prop :=
  (rm.cells = mc ∧ rm.slots = ms ∧ rm.frames + 1 ≤ R.frames ∧ 8 + (maxL + 11) + rm.locals ≤ R.locals ∧ (∀ w ∈ ws, ∀ (a' : Array Value) (U : State), s.WarmedH U.vm → w.before a' U = true) ∧ Cond.codeWith y bytes maxL ret hh ∈ ws) ∧
  (Cond.codeWith y bytes maxL ret hh).before args s = true ∧ (Cond.initialized y.cls).before args s = true ∧ (y.cls ≠ "java/lang/invoke/MethodHandle" ∧ y.cls ≠ "java/lang/invoke/VarHandle") ∧
  (∀ sig, parseMethodDescriptor y.desc = some sig → n = sig.parameters.length) ∧ (Cond.methodLink own index y).before args s = true ∧ (Cond.instanceMethod y).before args s = true ∧ (Cond.selects C y y).before args s = true
theorem vx_cwVW {own C : String} {index maxL mc ms : Nat} {y : MethodName} {bytes : ByteArray} {ret : Option FieldType} {hh : List (Nat × Nat × Nat × Nat)} {Ts ws ws' : List Cond} {rm : Room} (n : Nat) (ht : ∀ w ∈ Ts, w.before args s = true) (hT : GoodIn Ts (wsV own index C y ws)) (hw : ws = Cond.codeWith y bytes maxL ret hh :: ws') (hrc : rm.cells = mc) (hrs : rm.slots = ms)
    (hd : y.cls = C ∧ y.cls ≠ "java/lang/invoke/MethodHandle" ∧ y.cls ≠ "java/lang/invoke/VarHandle" ∧ (parseMethodDescriptor y.desc).map (fun d => d.parameters.length) = some n) (hR : rm.frames + 1 ≤ R.frames ∧ 8 + (maxL + 11) + rm.locals ≤ R.locals) :
    vx_CVW R s args own C index y bytes maxL ret hh ws rm mc ms n := by
  obtain ⟨hC, hd⟩ := hd
  subst hC
  have ok : ∀ w ∈ wsV own index y.cls y ws, w.before args s = true := fun w h => ht w (hT w h).1
  have hG : GoodIn Ts ws := fun w h => hT w (by unfold wsV; exact List.mem_append_right _ h)
  have hc : Cond.codeWith y bytes maxL ret hh ∈ ws := by rw [hw]; exact List.mem_cons_self
  refine ⟨⟨hrc, hrs, hR.1, hR.2, pay_in ht hG, hc⟩, ht _ (hG _ hc).1, ok _ (by simp [wsV]), ⟨hd.1, hd.2.1⟩, fun sig h => ?_, ok _ (by simp [wsV]), ok _ (by simp [wsV]), ok _ (by simp [wsV])⟩
  have h2 := hd.2.2
  rw [h] at h2
  exact (Option.some.inj h2).symm
theorem vx_runVW {y : MethodName} {bytes cc : ByteArray} {maxL nL mc ms n index : Nat} {ret : Option FieldType} {hh : List (Nat × Nat × Nat × Nat)} {ws : List Cond} {rm : Room} {Pc : Array Value → State → Prop} {Qc : Array Value → State → Outcome → State → Prop} {free : Addr → Prop} {Ts : List Cond} {own C : String} {b : Addr} {As rest : List Value} {g : JFrame}
    (S : CallFix p m c cc nL s args Ts own) (hM : Met l y ws rm Pc Qc mc ms free) (cw : vx_CVW R s args own C index y bytes maxL ret hh ws rm mc ms n) (hp : PreV s H C b Pc As)
    (hg : g.method = m) (hn : As.length = n) (hsize : g.locals.size = nL) (hstack : g.stack = As.reverse ++ .ref b :: rest) (hW : 2 * g.monitorRoom + (rest.map fun v => v.category).sum ≤ 8) (hdg : decode cc g.pc = .ok (.invokevirtual index, 3)) (hf : cells + mc ≤ R.cells ∧ slots + ms ≤ R.slots) :
    va_Run p l e R s m args below meth c H locs cells slots mc ms g rest (Qc (Value.ref b :: As).toArray) free := by
  obtain ⟨⟨hrc, hrs, hfr, hlo, hws, hcw⟩, hcode, hini, hy, hlen, hl, hin, hse⟩ := cw
  have hK : Back l R p e below s args y 3 8 (PreOf R mc ms Pc) (PostOf Qc mc ms free) := va_backW (hh := hh) (bytes := bytes) (maxL := maxL) (ret := ret) hM hp.1 hrc hrs hfr hlo hws hcw (fun a' U hW => word_at hW (Or.inl (by first | rfl | simp [Cond.onTables, Cond.keeps, Cond.steady])) hini)
  obtain ⟨hx, hb, hml, ho, -⟩ := S
  obtain ⟨-, ⟨cellB, hcB, hoB, hclB⟩, hPc⟩ := hp
  intro T hT X
  obtain ⟨v, vm₁, ⟨U', l2, c2, s2⟩, hW₁, X', ⟨g', mk, t, L, e1, e2, hq, h1, hL, h2, h3⟩, st⟩ := vx_callVW X hx (C := C) (hh := hh) (bytes := bytes) (maxL := maxL) (ret := ret) ho hl hin hse hcode hy hK (by rw [hT]; exact hcB) hoB hclB hg (hsize.trans hml.symm) (argsL := As) (rest := rest) (fun sig h => hn.trans (hlen sig h)) hstack hW (by rw [hb]; exact hdg)
    (fun vm₁ hW₁ => ⟨hf.1, hf.2, hPc (T.setVm vm₁) hT hW₁⟩)
  dsimp only [Pt.U, Pt.locs, Pt.cells, Pt.slots] at X' e1 e2 h1 h2 h3 st
  subst h1; subst h2; subst h3
  exact ⟨v, (T.setVm vm₁).calling g' mk (Value.ref b :: As).toArray, t, U', L, hT, X', hL, e1, e2, hq, st⟩
section
variable {y : MethodName} {bytes cc : ByteArray} {maxL nL mc ms n index : Nat} {ret : Option FieldType} {ws : List Cond} {rm : Room} {Pc : Array Value → State → Prop} {Qc : Array Value → State → Outcome → State → Prop} {XC : String → State → State → Prop} {free : Addr → Prop} {Ts : List Cond} {own C : String} {b : Addr} {As rest : List Value} {g : JFrame}
theorem vx_runVX {hh : List (Nat × Nat × Nat × Nat)} (S : CallFix p m c cc nL s args Ts own) (hM : vx_Met l y ws rm Pc Qc XC mc ms free) (cw : vx_CVW R s args own C index y bytes maxL ret hh ws rm mc ms n) (hp : PreV s H C b Pc As)
    (hg : g.method = m) (hn : As.length = n) (hsize : g.locals.size = nL) (hstack : g.stack = As.reverse ++ .ref b :: rest) (hW : 2 * g.monitorRoom + (rest.map fun v => v.category).sum ≤ 8) (hdg : decode cc g.pc = .ok (.invokevirtual index, 3)) (hf : cells + mc ≤ R.cells ∧ slots + ms ≤ R.slots) :
    vx_Run p l e R s m args below meth c H locs cells slots mc ms g rest (Qc (Value.ref b :: As).toArray) XC free := by
  obtain ⟨⟨hrc, hrs, hfr, hlo, hws, hcw⟩, hcode, hini, hy, hlen, hl, hin, hse⟩ := cw
  have hK : vx_Back l R p e below s args y 3 8 (PreOf R mc ms Pc) (PostOf Qc mc ms free) (vx_Post XC mc ms free) := vx_backW (hh := hh) (bytes := bytes) (maxL := maxL) (ret := ret) hM hp.1 hrc hrs hfr hlo hws hcw (fun a' U hW => word_at hW (Or.inl (by first | rfl | simp [Cond.onTables, Cond.keeps, Cond.steady])) hini)
  obtain ⟨hx, hb, hml, ho, -⟩ := S
  obtain ⟨-, ⟨cellB, hcB, hoB, hclB⟩, hPc⟩ := hp
  intro T hT X
  rcases vx_callVX X hx (C := C) (hh := hh) (bytes := bytes) (maxL := maxL) (ret := ret) ho hl hin hse hcode hy hK (by rw [hT]; exact hcB) hoB hclB hg (hsize.trans hml.symm) (argsL := As) (rest := rest) (fun sig h => hn.trans (hlen sig h)) hstack hW (by rw [hb]; exact hdg)
    (fun vm₁ hW₁ => ⟨hf.1, hf.2, hPc (T.setVm vm₁) hT hW₁⟩) with ⟨v, vm₁, ⟨U', l2, c2, s2⟩, hW₁, X', ⟨g', mk, t, L, e1, e2, hq, h1, hL, h2, h3⟩, st⟩ | ⟨q, vm₁, ⟨U', l2, c2, s2⟩, hW₁, X', ⟨g', mk, t, L, E, ce, e1, e2, hq, hce, hcv, hcl, h1, hL, h2, h3⟩, st⟩
  · dsimp only [Pt.U, Pt.locs, Pt.cells, Pt.slots] at X' e1 e2 h1 h2 h3 st
    subst h1; subst h2; subst h3
    exact Or.inl ⟨v, (T.setVm vm₁).calling g' mk (Value.ref b :: As).toArray, t, U', L, hT, X', hL, e1, e2, hq, st⟩
  · dsimp only [Pt.U, Pt.locs, Pt.cells, Pt.slots] at X' e1 e2 h1 h2 h3 st hcl
    subst h1; subst h2; subst h3
    exact Or.inr ⟨q, (T.setVm vm₁).calling g' mk (Value.ref b :: As).toArray, t, U', L, E, ce, hT, X', hL, e1, e2, hq, hce, hcv, vx_cls hW₁ hcl, st⟩
theorem vx_runSX {hh : List (Nat × Nat × Nat × Nat)} (S : CallFix p m c cc nL s args Ts own) (hM : vx_Met l y ws rm Pc Qc XC mc ms free) (cw : vx_CSW R s args own index y bytes maxL ret hh ws rm mc ms n) (hp : PreS s H Pc As)
    (hg : g.method = m) (hn : As.length = n) (hsize : g.locals.size = nL) (hstack : g.stack = As.reverse ++ rest) (hW : 2 * g.monitorRoom + (rest.map fun v => v.category).sum ≤ 8) (hdg : decode cc g.pc = .ok (.invokestatic index, 3)) (hf : cells + mc ≤ R.cells ∧ slots + ms ≤ R.slots) :
    vx_Run p l e R s m args below meth c H locs cells slots mc ms g rest (Qc As.toArray) XC free := by
  obtain ⟨⟨hrc, hrs, hfr, hlo, hws, hcw⟩, hcode, hini, hy, hlen, hl, hstt⟩ := cw
  have hK : vx_Back l R p e below s args y 3 8 (PreOf R mc ms Pc) (PostOf Qc mc ms free) (vx_Post XC mc ms free) := vx_backW (hh := hh) (bytes := bytes) (maxL := maxL) (ret := ret) hM hp.1 hrc hrs hfr hlo hws hcw (fun a' U hW => word_at hW (Or.inl (by first | rfl | simp [Cond.onTables, Cond.keeps, Cond.steady])) hini)
  obtain ⟨hx, hb, hml, ho, -⟩ := S
  intro T hT X
  rcases vx_callSX X hx (hh := hh) (bytes := bytes) (maxL := maxL) (ret := ret) ho hl hstt hini hcode hy hK hg (hsize.trans hml.symm) (argsL := As) (rest := rest) (fun sig h => hn.trans (hlen sig h)) hstack hW (by rw [hb]; exact hdg)
    (fun vm₁ hW₁ => ⟨hf.1, hf.2, hp.2 (T.setVm vm₁) hT hW₁⟩) with ⟨v, vm₁, ⟨U', l2, c2, s2⟩, hW₁, X', ⟨g', mk, t, L, e1, e2, hq, h1, hL, h2, h3⟩, st⟩ | ⟨q, vm₁, ⟨U', l2, c2, s2⟩, hW₁, X', ⟨g', mk, t, L, E, ce, e1, e2, hq, hce, hcv, hcl, h1, hL, h2, h3⟩, st⟩
  · dsimp only [Pt.U, Pt.locs, Pt.cells, Pt.slots] at X' e1 e2 h1 h2 h3 st
    subst h1; subst h2; subst h3
    exact Or.inl ⟨v, (T.setVm vm₁).calling g' mk As.toArray, t, U', L, hT, X', hL, e1, e2, hq, st⟩
  · dsimp only [Pt.U, Pt.locs, Pt.cells, Pt.slots] at X' e1 e2 h1 h2 h3 st hcl
    subst h1; subst h2; subst h3
    exact Or.inr ⟨q, (T.setVm vm₁).calling g' mk As.toArray, t, U', L, E, ce, hT, X', hL, e1, e2, hq, hce, hcv, vx_cls hW₁ hcl, st⟩
end
end VXH
theorem vx_ofWH {l : Launch} {y : MethodName} {ws ws' : List Cond} {rm : Room} {Pc : Array Value → State → Prop} {Qc : Array Value → State → Outcome → State → Prop} {XC : String → State → State → Prop} {mc ms : Nat} {free : Addr → Prop} {cc : ByteArray} {maxL : Nat} {ret : Option FieldType} {hh : List (Nat × Nat × Nat × Nat)}
    (hy : plainName y.cls = true) (hw : ws = Cond.codeWith y cc maxL ret hh :: ws')
    (body : ∀ p e s m args below meth c s₁, BodyLoose p l y (headSpec ws rm) cc maxL ret e s m args below meth c s₁ → c.maxLocals = maxL → Pc args s →
      W p l e (headSpec ws rm).room s m args below meth c s.heap [] 0 0 (vx_MQ below Qc XC args s mc ms free) (entryFrame m args maxL)) : vx_Met l y ws rm Pc Qc XC mc ms free := by
  refine MetFree.of_bodyS (code := cc) (maxLocals := maxL) (ret := ret) hy ?_ ?_
  · intro args s m h hn
    obtain ⟨m9, meth, c, hn9, h1, h2, h3, h4, -, h5, h6, -⟩ := Cond.codeWith_spec (atoms_spec (ws := ws) h _ (by rw [hw]; exact List.mem_cons_self))
    cases hn.symm.trans hn9
    exact ⟨meth, c, h1, h2, h3, h4, h5, h6⟩
  · intro p e s m args below meth c s₁ B hml hP _
    have hh0 : s₁.heap = s.heap := by rw [B.state]; rfl
    obtain ⟨t, a1, o, b1, b2, b3⟩ := body p e s m args below meth c s₁ B hml hP s₁ hh0 (Stand.of_body B)
    exact ⟨t, o, a1, b1, b2, b3⟩
/-! ===== END ===== -/
end
section
/-! ===== worlds as functions of the address ===== -/
abbrev fw_W : Type := Nat → Option va_E
/-- the heap holds the world w, and all its cells are of the kind A -/
def fw_P (D : va_G) (cl : List vw_C) (A : Nat → Prop) (w : fw_W) (H : Heap) : Prop := ∀ (q : Nat) (e : va_E), w q = some e → va_at D cl (q, e) H ∧ A q
def fw_L (w : fw_W) : Nat → va_W
  | 0 => []
  | n + 1 => fw_L w n ++ (match w n with | none => [] | some e => [(n, e)])
theorem fw_L_lt {w : fw_W} : ∀ {n i : Nat} {q : Nat × va_E}, (fw_L w n)[i]? = some q → q.1 < n ∧ w q.1 = some q.2
  | 0, i, q, h => by simp [fw_L] at h
  | n + 1, i, q, h => by
    have hm := List.mem_of_getElem? h
    rw [fw_L] at hm
    rcases List.mem_append.mp hm with h1 | h1
    · obtain ⟨j, hj⟩ := List.getElem?_of_mem h1
      have h2 := fw_L_lt hj
      exact ⟨Nat.lt_succ_of_lt h2.1, h2.2⟩
    · cases hw : w n with
      | none => rw [hw] at h1; simp at h1
      | some e =>
        rw [hw] at h1
        simp at h1
        subst h1
        exact ⟨Nat.lt_succ_self n, hw⟩
theorem fw_L_at {w : fw_W} : ∀ {n q : Nat} {e : va_E}, w q = some e → q < n → ∃ i : Nat, (fw_L w n)[i]? = some (q, e)
  | 0, q, e, _, h => absurd h (Nat.not_lt_zero q)
  | n + 1, q, e, hq, h => by
    apply List.getElem?_of_mem
    rw [fw_L]
    by_cases hn : q = n
    · subst hn
      rw [hq]
      simp
    · obtain ⟨i, hi⟩ := fw_L_at hq (show q < n by omega)
      exact List.mem_append_left _ (List.mem_of_getElem? hi)
theorem fw_L_D {w : fw_W} {A : Nat → Prop} (hA : ∀ (q : Nat) (e : va_E), w q = some e → A q) : ∀ (n : Nat), va_D A (fw_L w n)
  | 0 => ⟨fun i j p q h => by simp [fw_L] at h, fun k q h => by simp [fw_L] at h⟩
  | n + 1 => by
    rw [fw_L]
    cases hw : w n with
    | none =>
      show va_D A (fw_L w n ++ [])
      rw [List.append_nil]
      exact fw_L_D hA n
    | some e =>
      refine va_D.app (fw_L_D hA n) ⟨fun i j p q hi hj _ => ?_, fun k q hk => ?_⟩ (fun i j p q hi hj => ?_)
      · have h1 : i < 1 := (List.getElem?_eq_some_iff.mp hi).1
        have h2 : j < 1 := (List.getElem?_eq_some_iff.mp hj).1
        omega
      · have h1 := List.mem_of_getElem? hk
        simp at h1
        subst h1
        exact hA n e hw
      · have h1 := List.mem_of_getElem? hj
        simp at h1
        subst h1
        exact Nat.ne_of_lt (fw_L_lt hi).1
theorem fw_P.lt {D : va_G} {cl : List vw_C} {A : Nat → Prop} {w : fw_W} {H : Heap} (h : fw_P D cl A w H) {q : Nat} {e : va_E} (hq : w q = some e) : q < H.size := (h q e hq).1.lt
theorem fw_P.one {D : va_G} {cl : List vw_C} {A : Nat → Prop} {w : fw_W} {H : Heap} (h : fw_P D cl A w H) {q : Nat} {e : va_E} (hq : w q = some e) : va_P D cl [(q, e)] H := by
  intro k x hx
  have h1 := List.mem_of_getElem? hx
  simp at h1
  subst h1
  exact (h q e hq).1
/-- a world as a list -/
theorem fw_open {D : va_G} {cl : List vw_C} {A : Nat → Prop} {w : fw_W} {H : Heap} (h : fw_P D cl A w H) : ∃ ws : va_W, va_P D cl ws H ∧ va_D A ws ∧ (∀ (q : Nat) (e : va_E), w q = some e → ∃ i : Nat, ws[i]? = some (q, e)) :=
  ⟨fw_L w H.size, fun k q hk => (h q.1 q.2 (fw_L_lt hk).2).1, fw_L_D (fun q e hq => (h q e hq).2) H.size, fun q e hq => fw_L_at hq (h.lt hq)⟩
theorem fw_set {D : va_G} {cl : List vw_C} {A : Nat → Prop} {w : fw_W} {H1 : Heap} {ws : va_W} {i a : Nat} {e0 e : va_E} (hw : ∀ (q : Nat) (e : va_E), w q = some e → ∃ i : Nat, ws[i]? = some (q, e)) (hi : ws[i]? = some (a, e0)) (hP : va_P D cl (ws.set i (a, e)) H1) (hD : va_D A (ws.set i (a, e))) : fw_P D cl A (va_up w a (some e)) H1 := by
  have hl := (List.getElem?_eq_some_iff.mp hi).1
  intro q x hq
  by_cases hqa : q = a
  · subst hqa
    rw [va_up_self] at hq
    cases hq
    have h : (ws.set i (q, e))[i]? = some (q, e) := by rw [List.getElem?_set_self hl]
    exact ⟨hP i _ h, hD.2 i _ h⟩
  · rw [va_up_ne _ _ hqa] at hq
    obtain ⟨j, hj⟩ := hw q x hq
    have hji : j ≠ i := fun h => hqa (by rw [h, hi] at hj; cases hj; rfl)
    have h : (ws.set i (a, e))[j]? = some (q, x) := by rw [List.getElem?_set_ne (Ne.symm hji)]; exact hj
    exact ⟨hP j _ h, hD.2 j _ h⟩
theorem fw_push {D : va_G} {cl : List vw_C} {A : Nat → Prop} {w : fw_W} {H1 : Heap} {ws : va_W} {a : Nat} {e : va_E} (hw : ∀ (q : Nat) (e : va_E), w q = some e → ∃ i : Nat, ws[i]? = some (q, e)) (hP : va_P D cl (ws ++ [(a, e)]) H1) (hD : va_D A (ws ++ [(a, e)])) : w a = none ∧ fw_P D cl A (va_up w a (some e)) H1 := by
  have hlast : (ws ++ [(a, e)])[ws.length]? = some (a, e) := by simp
  have hold : ∀ (j : Nat) (q : Nat × va_E), ws[j]? = some q → (ws ++ [(a, e)])[j]? = some q := fun j q hj => by
    rw [List.getElem?_append_left (List.getElem?_eq_some_iff.mp hj).1]
    exact hj
  constructor
  · cases hn : w a with
    | none => rfl
    | some x =>
      obtain ⟨j, hj⟩ := hw a x hn
      have h1 := hD.1 j ws.length _ _ (hold j _ hj) hlast rfl
      have h2 := (List.getElem?_eq_some_iff.mp hj).1
      omega
  · intro q x hq
    by_cases hqa : q = a
    · subst hqa
      rw [va_up_self] at hq
      cases hq
      exact ⟨hP _ _ hlast, hD.2 _ _ hlast⟩
    · rw [va_up_ne _ _ hqa] at hq
      obtain ⟨j, hj⟩ := hw q x hq
      exact ⟨hP j _ (hold j _ hj), hD.2 j _ (hold j _ hj)⟩
theorem fw_ne {w : fw_W} {a b : Nat} {x y : va_E} (ha : w a = some x) (hb : w b = some y) (h : x ≠ y) : a ≠ b := fun q => h (Option.some.inj (ha.symm.trans ((congrArg w q).trans hb)))
theorem fw_neN {w : fw_W} {a b : Nat} {x : va_E} (ha : w a = some x) (hb : w b = none) : a ≠ b := fun q => by rw [q, hb] at ha; cases ha
end
section
section FWR
variable {p : Program} {l : Launch} {e : Env} {R : Room} {s : State} {m : MethodId} {args : Array Value} {below : List Frame} {meth : Method} {c : Code} {H : Heap} {locs : List Loc} {cells slots : Nat} {Q : State → Prop}
variable {cc : ByteArray} {pc : Nat} {ls : Array Slot} {rest : List Value} {D : va_G} {cl : List vw_C} {tys : List (ClassId × FieldType)} {A : Nat → Prop} {H0 : Heap} {a : Nat} {w : fw_W}
theorem fw_iald (hexec : p.tables.exec = Jvm.exec) (hb : c.code = cc) (hK : va_K D cl tys s) (hP : fw_P D cl A w H) {cA : ClassId} {n : Nat} {f : Nat → Int32} (ha : w a = some (.inl (cA, n, .inl f))) (t0 : Nat) (ht : tys[t0]? = some (cA, .int)) {j : Nat} (hj : j < n) (hn : n < 2 ^ 31) (hdg : decode cc pc = .ok (.iaload, 1))
    (kk : W p l e R s m args below meth c H locs cells slots Q (F0 m (pc + 1) ls (.int (f j) :: rest))) : W p l e R s m args below meth c H locs cells slots Q (F0 m pc ls (.int (nI j) :: .ref a :: rest)) := by
  refine va_iald hexec hb hK (hP.one ha) 0 t0 rfl ht (vp_in_nI hj hn) hdg ?_
  rw [nI_clamp (Nat.lt_trans hj hn)]
  exact kk
theorem fw_iast (hexec : p.tables.exec = Jvm.exec) (hb : c.code = cc) (hK : va_K D cl tys s) (hP : fw_P D cl A w H) (hS : va_S A H0 H locs) {cA : ClassId} {n : Nat} {f : Nat → Int32} (ha : w a = some (.inl (cA, n, .inl f))) (t0 : Nat) (ht : tys[t0]? = some (cA, .int)) {j : Nat} {x : Int32} (hj : j < n) (hn : n < 2 ^ 31) (hdg : decode cc pc = .ok (.iastore, 1))
    (kk : ∀ (w1 : fw_W) (H1 : Heap) (locs1 : List Loc), w1 = va_up w a (some (.inl (cA, n, .inl (upd f j x)))) → fw_P D cl A w1 H1 → va_S A H0 H1 locs1 → W p l e R s m args below meth c H1 locs1 cells slots Q (F0 m (pc + 1) ls rest)) : W p l e R s m args below meth c H locs cells slots Q (F0 m pc ls (.int x :: .int (nI j) :: .ref a :: rest)) := by
  obtain ⟨ws, hPw, hDw, hw⟩ := fw_open hP
  obtain ⟨k, hk⟩ := hw a _ ha
  refine va_iast hexec hb hK hPw hDw hS k t0 hk ht (vp_in_nI hj hn) hdg (fun H1 locs1 h1 h2 h3 => ?_)
  rw [nI_clamp (Nat.lt_trans hj hn)] at h1 h2
  exact kk _ H1 locs1 rfl (fw_set hw hk h1 h2) h3
theorem fw_lald (hexec : p.tables.exec = Jvm.exec) (hb : c.code = cc) (hK : va_K D cl tys s) (hP : fw_P D cl A w H) {cA : ClassId} {n : Nat} {f : Nat → Int64} (ha : w a = some (.inl (cA, n, .inr (.inl f)))) (t0 : Nat) (ht : tys[t0]? = some (cA, .long)) {j : Nat} (hj : j < n) (hn : n < 2 ^ 31) (hdg : decode cc pc = .ok (.laload, 1))
    (kk : W p l e R s m args below meth c H locs cells slots Q (F0 m (pc + 1) ls (.long (f j) :: rest))) : W p l e R s m args below meth c H locs cells slots Q (F0 m pc ls (.int (nI j) :: .ref a :: rest)) := by
  refine va_lald hexec hb hK (hP.one ha) 0 t0 rfl ht (vp_in_nI hj hn) hdg ?_
  rw [nI_clamp (Nat.lt_trans hj hn)]
  exact kk
theorem fw_last (hexec : p.tables.exec = Jvm.exec) (hb : c.code = cc) (hK : va_K D cl tys s) (hP : fw_P D cl A w H) (hS : va_S A H0 H locs) {cA : ClassId} {n : Nat} {f : Nat → Int64} (ha : w a = some (.inl (cA, n, .inr (.inl f)))) (t0 : Nat) (ht : tys[t0]? = some (cA, .long)) {j : Nat} {x : Int64} (hj : j < n) (hn : n < 2 ^ 31) (hdg : decode cc pc = .ok (.lastore, 1))
    (kk : ∀ (w1 : fw_W) (H1 : Heap) (locs1 : List Loc), w1 = va_up w a (some (.inl (cA, n, .inr (.inl (vp_updL f j x))))) → fw_P D cl A w1 H1 → va_S A H0 H1 locs1 → W p l e R s m args below meth c H1 locs1 cells slots Q (F0 m (pc + 1) ls rest)) : W p l e R s m args below meth c H locs cells slots Q (F0 m pc ls (.long x :: .int (nI j) :: .ref a :: rest)) := by
  obtain ⟨ws, hPw, hDw, hw⟩ := fw_open hP
  obtain ⟨k, hk⟩ := hw a _ ha
  refine va_last hexec hb hK hPw hDw hS k t0 hk ht (vp_in_nI hj hn) hdg (fun H1 locs1 h1 h2 h3 => ?_)
  rw [nI_clamp (Nat.lt_trans hj hn)] at h1 h2
  exact kk _ H1 locs1 rfl (fw_set hw hk h1 h2) h3
theorem fw_zald (hexec : p.tables.exec = Jvm.exec) (hb : c.code = cc) (hK : va_K D cl tys s) (hP : fw_P D cl A w H) {cA : ClassId} {n : Nat} {f : Nat → Int32} (ha : w a = some (.inl (cA, n, .inl f))) (t0 : Nat) (ht : tys[t0]? = some (cA, .boolean)) {j : Nat} (hj : j < n) (hn : n < 2 ^ 31) (hdg : decode cc pc = .ok (.baload, 1))
    (kk : W p l e R s m args below meth c H locs cells slots Q (F0 m (pc + 1) ls (.int (f j) :: rest))) : W p l e R s m args below meth c H locs cells slots Q (F0 m pc ls (.int (nI j) :: .ref a :: rest)) := by
  refine va_zald hexec hb hK (hP.one ha) 0 t0 rfl ht (vp_in_nI hj hn) hdg ?_
  rw [nI_clamp (Nat.lt_trans hj hn)]
  exact kk
theorem fw_zast (hexec : p.tables.exec = Jvm.exec) (hb : c.code = cc) (hK : va_K D cl tys s) (hP : fw_P D cl A w H) (hS : va_S A H0 H locs) {cA : ClassId} {n : Nat} {f : Nat → Int32} (ha : w a = some (.inl (cA, n, .inl f))) (t0 : Nat) (ht : tys[t0]? = some (cA, .boolean)) {j : Nat} {x : Int32} (hj : j < n) (hn : n < 2 ^ 31) (hdg : decode cc pc = .ok (.bastore, 1))
    (kk : ∀ (w1 : fw_W) (H1 : Heap) (locs1 : List Loc), w1 = va_up w a (some (.inl (cA, n, .inl (upd f j (vp_nar .boolean x))))) → fw_P D cl A w1 H1 → va_S A H0 H1 locs1 → W p l e R s m args below meth c H1 locs1 cells slots Q (F0 m (pc + 1) ls rest)) : W p l e R s m args below meth c H locs cells slots Q (F0 m pc ls (.int x :: .int (nI j) :: .ref a :: rest)) := by
  obtain ⟨ws, hPw, hDw, hw⟩ := fw_open hP
  obtain ⟨k, hk⟩ := hw a _ ha
  refine va_zast hexec hb hK hPw hDw hS k t0 hk ht (vp_in_nI hj hn) hdg (fun H1 locs1 h1 h2 h3 => ?_)
  rw [nI_clamp (Nat.lt_trans hj hn)] at h1 h2
  exact kk _ H1 locs1 rfl (fw_set hw hk h1 h2) h3
theorem fw_aldq (hexec : p.tables.exec = Jvm.exec) (hb : c.code = cc) (hK : va_K D cl tys s) (hP : fw_P D cl A w H) {cA : ClassId} {C : String} {n : Nat} {f : Nat → Option Nat} (ha : w a = some (.inl (cA, n, .inr (.inr (.inr (.inr f)))))) (t0 : Nat) (ht : tys[t0]? = some (cA, .object C)) {j : Nat} (hj : j < n) (hn : n < 2 ^ 31) (hdg : decode cc pc = .ok (.aaload, 1))
    (kk : W p l e R s m args below meth c H locs cells slots Q (F0 m (pc + 1) ls (va_rf (f j) :: rest))) : W p l e R s m args below meth c H locs cells slots Q (F0 m pc ls (.int (nI j) :: .ref a :: rest)) := by
  refine va_aldq hexec hb hK (hP.one ha) 0 t0 rfl ht (vp_in_nI hj hn) hdg ?_
  rw [nI_clamp (Nat.lt_trans hj hn)]
  exact kk
theorem fw_astq (hexec : p.tables.exec = Jvm.exec) (hb : c.code = cc) (hK : va_K D cl tys s) (hP : fw_P D cl A w H) (hS : va_S A H0 H locs) {cA : ClassId} {r : vw_C} {n v : Nat} {vs : List Value} {f : Nat → Option Nat} (ha : w a = some (.inl (cA, n, .inr (.inr (.inr (.inr f)))))) (t0 : Nat) (ht : tys[t0]? = some (cA, .object r.1)) (ci : Nat) (hv : w v = some (.inr (ci, vs))) (hc : cl[ci]? = some r) {j : Nat} (hj : j < n) (hn : n < 2 ^ 31) (hdg : decode cc pc = .ok (.aastore, 1))
    (kk : ∀ (w1 : fw_W) (H1 : Heap) (locs1 : List Loc), w1 = va_up w a (some (.inl (cA, n, .inr (.inr (.inr (.inr (va_up f j (some v)))))))) → fw_P D cl A w1 H1 → va_S A H0 H1 locs1 → W p l e R s m args below meth c H1 locs1 cells slots Q (F0 m (pc + 1) ls rest)) : W p l e R s m args below meth c H locs cells slots Q (F0 m pc ls (.ref v :: .int (nI j) :: .ref a :: rest)) := by
  obtain ⟨ws, hPw, hDw, hw⟩ := fw_open hP
  obtain ⟨k, hk⟩ := hw a _ ha
  obtain ⟨k2, hk2⟩ := hw v _ hv
  refine va_astq hexec hb hK hPw hDw hS k t0 k2 ci hk ht hk2 hc (vp_in_nI hj hn) hdg (fun H1 locs1 h1 h2 h3 => ?_)
  rw [nI_clamp (Nat.lt_trans hj hn)] at h1 h2
  exact kk _ H1 locs1 rfl (fw_set hw hk h1 h2) h3
theorem fw_astqN (hexec : p.tables.exec = Jvm.exec) (hb : c.code = cc) (hK : va_K D cl tys s) (hP : fw_P D cl A w H) (hS : va_S A H0 H locs) {cA : ClassId} {C : String} {n : Nat} {f : Nat → Option Nat} (ha : w a = some (.inl (cA, n, .inr (.inr (.inr (.inr f)))))) (t0 : Nat) (ht : tys[t0]? = some (cA, .object C)) {j : Nat} (hj : j < n) (hn : n < 2 ^ 31) (hdg : decode cc pc = .ok (.aastore, 1))
    (kk : ∀ (w1 : fw_W) (H1 : Heap) (locs1 : List Loc), w1 = va_up w a (some (.inl (cA, n, .inr (.inr (.inr (.inr (va_up f j none))))))) → fw_P D cl A w1 H1 → va_S A H0 H1 locs1 → W p l e R s m args below meth c H1 locs1 cells slots Q (F0 m (pc + 1) ls rest)) : W p l e R s m args below meth c H locs cells slots Q (F0 m pc ls (.null :: .int (nI j) :: .ref a :: rest)) := by
  obtain ⟨ws, hPw, hDw, hw⟩ := fw_open hP
  obtain ⟨k, hk⟩ := hw a _ ha
  refine va_astqN hexec hb hK hPw hDw hS k t0 hk ht (vp_in_nI hj hn) hdg (fun H1 locs1 h1 h2 h3 => ?_)
  rw [nI_clamp (Nat.lt_trans hj hn)] at h1 h2
  exact kk _ H1 locs1 rfl (fw_set hw hk h1 h2) h3
theorem fw_put (hexec : p.tables.exec = Jvm.exec) (hb : c.code = cc) {own ref C : String} {T : u_T} {N ci index : Nat} {Ts : List Cond} (hts : ∀ w ∈ Ts, w.before args s = true) (hin : ∀ w ∈ u_ws C T N, w ∈ Ts) (ty0 : Nat → FieldType) (hty : ∀ k, k < N → parseFieldDescriptor (T k).2.2.1 = some (ty0 k)) (hnm : ∀ a, a < N → ∀ b, b < N → a ≠ b → (T a).2.1 ≠ (T b).2.1) (hown : s.vm.findClass own = some m.cls) (hK : va_K D cl tys s) (hP : fw_P D cl A w H) (hS0 : va_S A H0 H locs) {fs : List Value} (he : w a = some (.inr (ci, fs))) (hc : cl[ci]? = some (C, T, N)) (k : Nat) (hk : k < N) (hlink : (Cond.fieldLink own index ref (T k).2.1 (T k).2.2.1).before args s = true) (hsame : ∀ x, s.fieldFound? (T k).1 (T k).2.1 (T k).2.2.1 = some x → s.fieldFound? ref (T k).2.1 (T k).2.2.1 = some x) (hfin : (T k).2.2.2 = false) {ty : FieldType} {v : Value} (hd : parseFieldDescriptor (T k).2.2.1 = some ty) (hn : narrow ty v = v) (hfit : fits ty v = true) (hl : k < fs.length)
    (hdg : decode cc pc = .ok (.putfield index, 3)) (kk : ∀ (w1 : fw_W) (H1 : Heap) (locs1 : List Loc), w1 = va_up w a (some (.inr (ci, fs.set k v))) → fw_P D cl A w1 H1 → va_S A H0 H1 locs1 → W p l e R s m args below meth c H1 locs1 cells slots Q (F0 m (pc + 3) ls rest)) : W p l e R s m args below meth c H locs cells slots Q (F0 m pc ls (v :: .ref a :: rest)) := by
  obtain ⟨ws, hPw, hDw, hw⟩ := fw_open hP
  obtain ⟨k2, hk2⟩ := hw a _ he
  exact va_put hexec hb hts hin ty0 hty hnm hown hK hPw hDw hS0 k2 hk2 hc k hk hlink hsame hfin hd hn hfit hl hdg (fun H1 locs1 h1 h2 h3 => kk _ H1 locs1 rfl (fw_set hw hk2 h1 h2) h3)
theorem fw_putN (hexec : p.tables.exec = Jvm.exec) (hb : c.code = cc) {own ref C host : String} {T : u_T} {N ci index : Nat} {Ts : List Cond} (hts : ∀ w ∈ Ts, w.before args s = true) (hin : ∀ w ∈ u_ws C T N, w ∈ Ts) (ty0 : Nat → FieldType) (hty : ∀ k, k < N → parseFieldDescriptor (T k).2.2.1 = some (ty0 k)) (hnm : ∀ a, a < N → ∀ b, b < N → a ≠ b → (T a).2.1 ≠ (T b).2.1) (hown : s.vm.findClass own = some m.cls) (hK : va_K D cl tys s) (hP : fw_P D cl A w H) (hS0 : va_S A H0 H locs) {fs : List Value} (he : w a = some (.inr (ci, fs))) (hc : cl[ci]? = some (C, T, N)) (k : Nat) (hk : k < N) (hlink : (Cond.fieldLinkNest own index ref (T k).2.1 (T k).2.2.1 host).before args s = true) (hsame : ∀ x, s.fieldFound? (T k).1 (T k).2.1 (T k).2.2.1 = some x → s.fieldFound? ref (T k).2.1 (T k).2.2.1 = some x) (hfin : (T k).2.2.2 = false) {ty : FieldType} {v : Value} (hd : parseFieldDescriptor (T k).2.2.1 = some ty) (hn : narrow ty v = v) (hfit : fits ty v = true) (hl : k < fs.length)
    (hdg : decode cc pc = .ok (.putfield index, 3)) (kk : ∀ (w1 : fw_W) (H1 : Heap) (locs1 : List Loc), w1 = va_up w a (some (.inr (ci, fs.set k v))) → fw_P D cl A w1 H1 → va_S A H0 H1 locs1 → W p l e R s m args below meth c H1 locs1 cells slots Q (F0 m (pc + 3) ls rest)) : W p l e R s m args below meth c H locs cells slots Q (F0 m pc ls (v :: .ref a :: rest)) := by
  obtain ⟨ws, hPw, hDw, hw⟩ := fw_open hP
  obtain ⟨k2, hk2⟩ := hw a _ he
  exact va_putN hexec hb hts hin ty0 hty hnm hown hK hPw hDw hS0 k2 hk2 hc k hk hlink hsame hfin hd hn hfit hl hdg (fun H1 locs1 h1 h2 h3 => kk _ H1 locs1 rfl (fw_set hw hk2 h1 h2) h3)
theorem fw_new (hexec : p.tables.exec = Jvm.exec) (hb : c.code = cc) {own C : String} {T : u_T} {N ci index : Nat} {Ts : List Cond} (hts : ∀ w ∈ Ts, w.before args s = true) (hin : ∀ w ∈ u_ws C T N, w ∈ Ts) (ty : Nat → FieldType) (hty : ∀ k, k < N → parseFieldDescriptor (T k).2.2.1 = some (ty k)) (hown : s.vm.findClass own = some m.cls) (hcl : (Cond.classLink own index C).before args s = true) (hinst : (Cond.instantiable C N).before args s = true) (hini : (Cond.initialized C).before args s = true)
    (hK : va_K D cl tys s) (hP : fw_P D cl A w H) (hS : va_S A H0 H locs) (hA : ∀ q, H0.size ≤ q → A q) (hc : cl[ci]? = some (C, T, N)) {fs : List Value} (hfs : ∀ j, j < N → defaultValue (ty j) = vp_V fs j) (hcells : cells + 1 ≤ R.cells) (hslots : slots + N ≤ R.slots) (hdg : decode cc pc = .ok (.new index, 3))
    (kk : ∀ (q : Nat) (w1 : fw_W) (H1 : Heap), w q = none → w1 = va_up w q (some (.inr (ci, fs))) → fw_P D cl A w1 H1 → va_S A H0 H1 locs →
      W p l e R s m args below meth c H1 locs (cells + 1) (slots + N) Q (F0 m (pc + 3) ls (.ref q :: rest))) : W p l e R s m args below meth c H locs cells slots Q (F0 m pc ls rest) := by
  obtain ⟨ws, hPw, hDw, hw⟩ := fw_open hP
  refine va_new hexec hb hts hin ty hty hown hcl hinst hini hK hPw hDw hS hA hc hfs hcells hslots hdg (fun q H1 h1 h2 h3 => ?_)
  obtain ⟨g1, g2⟩ := fw_push hw h1 h2
  exact kk q _ H1 g1 rfl g2 h3
/-- the class of an array is one, by its name -/
theorem fw_cls {U : State} {cA cB : ClassId} {ty : FieldType} (h1 : va_RA U cA ty) (h2 : va_RA U cB ty) : cA = cB := by
  cases ty with
  | object C =>
    obtain ⟨_, _, _, _, _, h3⟩ := h1
    obtain ⟨_, _, _, _, _, h4⟩ := h2
    exact Option.some.inj (h3.symm.trans h4)
  | _ => exact Option.some.inj ((show U.vm.findClass _ = some cA from h1).symm.trans h2)
theorem fw_newa (hexec : p.tables.exec = Jvm.exec) (hb : c.code = cc) {atype : ArrayType} (harr : (Cond.arrayClass (newarray.typeOf atype)).before args s = true) {ty : FieldType} (hty : newarray.typeOf atype = ty) (hK : va_K D cl tys s) (hP : fw_P D cl A w H) (hS : va_S A H0 H locs) (hA : ∀ q, H0.size ≤ q → A q) {cA : ClassId} (t0 : Nat) (ht : tys[t0]? = some (cA, ty))
    {n : Int32} {N' : Nat} {a0 : vp_A} (ha : ∀ cA : ClassId, vp_cell cA a0 = arrV cA N' (fun _ => defaultValue ty)) (hn : ¬ n < 0) (hN : n.toNatClampNeg = N') (hbytes : N' * componentBytes ty ≤ 536870912) (hcells : cells + 1 ≤ R.cells) (hslots : slots + N' ≤ R.slots) (hdg : decode cc pc = .ok (.newarray atype, 2))
    (kk : ∀ (q : Nat) (w1 : fw_W) (H1 : Heap), w q = none → w1 = va_up w q (some (.inl (cA, a0))) → fw_P D cl A w1 H1 → va_S A H0 H1 locs →
      W p l e R s m args below meth c H1 locs (cells + 1) (slots + N') Q (F0 m (pc + 2) ls (.ref q :: rest))) : W p l e R s m args below meth c H locs cells slots Q (F0 m pc ls (.int n :: rest)) := by
  obtain ⟨ws, hPw, hDw, hw⟩ := fw_open hP
  refine va_newa hexec hb harr hty hK hPw hDw hS hA ha hn hN hbytes hcells hslots hdg (fun q cB H1 h0 h1 h2 h3 => ?_)
  have e1 : cB = cA := fw_cls (h0.2 tys.length (cB, ty) (by simp)).2 (hK.2 t0 _ ht).2
  subst e1
  obtain ⟨g1, g2⟩ := fw_push hw h1 h2
  exact kk q _ H1 g1 rfl g2 h3
theorem fw_newq (hexec : p.tables.exec = Jvm.exec) (hb : c.code = cc) {own C : String} {index : Nat} (hown : s.vm.findClass own = some m.cls) (hclink : (Cond.classLink own index C).before args s = true) (hover : va_AO C s) (hK : va_K D cl tys s) (hP : fw_P D cl A w H) (hS : va_S A H0 H locs) (hA : ∀ q, H0.size ≤ q → A q) {cA : ClassId} (t0 : Nat) (ht : tys[t0]? = some (cA, .object C))
    {n : Int32} {N' : Nat} (hn : ¬ n < 0) (hN : n.toNatClampNeg = N') (hbytes : N' * 4 ≤ 536870912) (hcells : cells + 1 ≤ R.cells) (hslots : slots + N' ≤ R.slots) (hdg : decode cc pc = .ok (.anewarray index, 3))
    (kk : ∀ (q : Nat) (w1 : fw_W) (H1 : Heap), w q = none → w1 = va_up w q (some (.inl (cA, N', .inr (.inr (.inr (.inr (fun _ => none))))))) → fw_P D cl A w1 H1 → va_S A H0 H1 locs →
      W p l e R s m args below meth c H1 locs (cells + 1) (slots + N') Q (F0 m (pc + 3) ls (.ref q :: rest))) : W p l e R s m args below meth c H locs cells slots Q (F0 m pc ls (.int n :: rest)) := by
  obtain ⟨ws, hPw, hDw, hw⟩ := fw_open hP
  refine va_newq hexec hb hown hclink hover hK hPw hDw hS hA hn hN hbytes hcells hslots hdg (fun q cB H1 h0 h1 h2 h3 => ?_)
  have e1 : cB = cA := fw_cls (h0.2 tys.length (cB, .object C) (by simp)).2 (hK.2 t0 _ ht).2
  subst e1
  obtain ⟨g1, g2⟩ := fw_push hw h1 h2
  exact kk q _ H1 g1 rfl g2 h3
end FWR
end
section
/-! names, printed by wip/whole/names.py -/
def R_M : String := "TraceBuilder$Memory"
def R_P : String := "TraceBuilder$Plan"
def R_S : String := "TraceBuilder$Session"
def R_T : String := "TraceBuilder$Trace"
def R_B : String := "TraceBuilder"
def R_D : String := "TraceBuilderModel"
def R_L : String := "TraceBuilderLaw"
def F_M : u_T := fun k => match k with
  | 0 => ("TraceBuilder$Memory", "traces", "[LTraceBuilder$Trace;", true)
  | 1 => ("TraceBuilder$Memory", "cache", "[LTraceBuilder$Trace;", true)
  | 2 => ("TraceBuilder$Memory", "cacheSize", "I", false)
  | _ => ("TraceBuilder$Memory", "tallies", "[I", true)
def ft_M : Nat → FieldType := fun k => match k with
  | 0 => .array (.object "TraceBuilder$Trace")
  | 1 => .array (.object "TraceBuilder$Trace")
  | 2 => .int
  | _ => .array .int
theorem n_M : ∀ a, a < 4 → ∀ b, b < 4 → a ≠ b → (F_M a).2.1 ≠ (F_M b).2.1 := by decide +kernel
theorem ft_M_ok : ∀ k, k < 4 → parseFieldDescriptor (F_M k).2.2.1 = some (ft_M k) := by decide +kernel
def F_P : u_T := fun k => match k with
  | 0 => ("TraceBuilder$Plan", "kinds", "[I", true)
  | 1 => ("TraceBuilder$Plan", "values", "[J", true)
  | 2 => ("TraceBuilder$Plan", "rules", "[I", true)
  | 3 => ("TraceBuilder$Plan", "parts", "[[I", true)
  | _ => ("TraceBuilder$Plan", "partCounts", "[I", true)
def ft_P : Nat → FieldType := fun k => match k with
  | 0 => .array .int
  | 1 => .array .long
  | 2 => .array .int
  | 3 => .array (.array .int)
  | _ => .array .int
theorem n_P : ∀ a, a < 5 → ∀ b, b < 5 → a ≠ b → (F_P a).2.1 ≠ (F_P b).2.1 := by decide +kernel
theorem ft_P_ok : ∀ k, k < 5 → parseFieldDescriptor (F_P k).2.2.1 = some (ft_P k) := by decide +kernel
def F_S : u_T := fun k => match k with
  | 0 => ("TraceBuilder$Session", "plan", "LTraceBuilder$Plan;", true)
  | 1 => ("TraceBuilder$Session", "memory", "LTraceBuilder$Memory;", false)
  | 2 => ("TraceBuilder$Session", "worker", "I", false)
  | 3 => ("TraceBuilder$Session", "finished", "[Z", true)
  | 4 => ("TraceBuilder$Session", "open", "[Z", true)
  | 5 => ("TraceBuilder$Session", "values", "[J", true)
  | 6 => ("TraceBuilder$Session", "entryRows", "[LTraceBuilder$Trace;", true)
  | 7 => ("TraceBuilder$Session", "hasRun", "Z", false)
  | _ => ("TraceBuilder$Session", "failure", "I", false)
def ft_S : Nat → FieldType := fun k => match k with
  | 0 => .object "TraceBuilder$Plan"
  | 1 => .object "TraceBuilder$Memory"
  | 2 => .int
  | 3 => .array .boolean
  | 4 => .array .boolean
  | 5 => .array .long
  | 6 => .array (.object "TraceBuilder$Trace")
  | 7 => .boolean
  | _ => .int
theorem n_S : ∀ a, a < 9 → ∀ b, b < 9 → a ≠ b → (F_S a).2.1 ≠ (F_S b).2.1 := by decide +kernel
theorem ft_S_ok : ∀ k, k < 9 → parseFieldDescriptor (F_S k).2.2.1 = some (ft_S k) := by decide +kernel
def F_T : u_T := fun k => match k with
  | 0 => ("TraceBuilder$Trace", "owner", "I", true)
  | 1 => ("TraceBuilder$Trace", "keys", "[I", true)
  | 2 => ("TraceBuilder$Trace", "values", "[J", true)
  | 3 => ("TraceBuilder$Trace", "size", "I", false)
  | _ => ("TraceBuilder$Trace", "result", "J", false)
def ft_T : Nat → FieldType := fun k => match k with
  | 0 => .int
  | 1 => .array .int
  | 2 => .array .long
  | 3 => .int
  | _ => .long
theorem n_T : ∀ a, a < 5 → ∀ b, b < 5 → a ≠ b → (F_T a).2.1 ≠ (F_T b).2.1 := by decide +kernel
theorem ft_T_ok : ∀ k, k < 5 → parseFieldDescriptor (F_T k).2.2.1 = some (ft_T k) := by decide +kernel
def F_B : u_T := fun k => match k with
  | 0 => ("TraceBuilder", "plan", "LTraceBuilder$Plan;", true)
  | 1 => ("TraceBuilder", "memory", "LTraceBuilder$Memory;", true)
  | 2 => ("TraceBuilder", "scratch", "LTraceBuilder$Memory;", true)
  | _ => ("TraceBuilder", "session", "LTraceBuilder$Session;", true)
def ft_B : Nat → FieldType := fun k => match k with
  | 0 => .object "TraceBuilder$Plan"
  | 1 => .object "TraceBuilder$Memory"
  | 2 => .object "TraceBuilder$Memory"
  | _ => .object "TraceBuilder$Session"
theorem n_B : ∀ a, a < 4 → ∀ b, b < 4 → a ≠ b → (F_B a).2.1 ≠ (F_B b).2.1 := by decide +kernel
theorem ft_B_ok : ∀ k, k < 4 → parseFieldDescriptor (F_B k).2.2.1 = some (ft_B k) := by decide +kernel
def F_D : u_T := fun k => match k with
  | 0 => ("TraceBuilderModel", "sort", "[I", true)
  | 1 => ("TraceBuilderModel", "rule", "[I", true)
  | 2 => ("TraceBuilderModel", "parts", "[I", true)
  | 3 => ("TraceBuilderModel", "input", "[J", true)
  | 4 => ("TraceBuilderModel", "size", "[I", true)
  | 5 => ("TraceBuilderModel", "keys", "[I", true)
  | 6 => ("TraceBuilderModel", "owner", "[I", true)
  | 7 => ("TraceBuilderModel", "got", "[J", true)
  | 8 => ("TraceBuilderModel", "came", "[J", true)
  | 9 => ("TraceBuilderModel", "used", "[Z", true)
  | 10 => ("TraceBuilderModel", "trace", "[I", true)
  | 11 => ("TraceBuilderModel", "oldTrace", "[I", true)
  | 12 => ("TraceBuilderModel", "cache", "[I", true)
  | 13 => ("TraceBuilderModel", "oldCache", "[I", true)
  | 14 => ("TraceBuilderModel", "counts", "[I", true)
  | 15 => ("TraceBuilderModel", "oldCounts", "[I", true)
  | 16 => ("TraceBuilderModel", "cached", "I", false)
  | 17 => ("TraceBuilderModel", "oldCached", "I", false)
  | 18 => ("TraceBuilderModel", "circles", "I", false)
  | 19 => ("TraceBuilderModel", "oldCircles", "I", false)
  | 20 => ("TraceBuilderModel", "thrown", "I", false)
  | 21 => ("TraceBuilderModel", "worker", "I", false)
  | 22 => ("TraceBuilderModel", "ran", "Z", false)
  | 23 => ("TraceBuilderModel", "state", "[I", true)
  | 24 => ("TraceBuilderModel", "value", "[J", true)
  | 25 => ("TraceBuilderModel", "key", "[I", true)
  | 26 => ("TraceBuilderModel", "phase", "[I", true)
  | 27 => ("TraceBuilderModel", "checked", "[I", true)
  | 28 => ("TraceBuilderModel", "at", "[I", true)
  | 29 => ("TraceBuilderModel", "candidates", "[I", true)
  | 30 => ("TraceBuilderModel", "candidateCount", "[I", true)
  | 31 => ("TraceBuilderModel", "making", "[I", true)
  | 32 => ("TraceBuilderModel", "asked", "[I", true)
  | 33 => ("TraceBuilderModel", "first", "[J", true)
  | 34 => ("TraceBuilderModel", "sum", "[J", true)
  | _ => ("TraceBuilderModel", "height", "I", false)
def ft_D : Nat → FieldType := fun k => match k with
  | 0 => .array .int
  | 1 => .array .int
  | 2 => .array .int
  | 3 => .array .long
  | 4 => .array .int
  | 5 => .array .int
  | 6 => .array .int
  | 7 => .array .long
  | 8 => .array .long
  | 9 => .array .boolean
  | 10 => .array .int
  | 11 => .array .int
  | 12 => .array .int
  | 13 => .array .int
  | 14 => .array .int
  | 15 => .array .int
  | 16 => .int
  | 17 => .int
  | 18 => .int
  | 19 => .int
  | 20 => .int
  | 21 => .int
  | 22 => .boolean
  | 23 => .array .int
  | 24 => .array .long
  | 25 => .array .int
  | 26 => .array .int
  | 27 => .array .int
  | 28 => .array .int
  | 29 => .array .int
  | 30 => .array .int
  | 31 => .array .int
  | 32 => .array .int
  | 33 => .array .long
  | 34 => .array .long
  | _ => .int
theorem n_D : ∀ a, a < 36 → ∀ b, b < 36 → a ≠ b → (F_D a).2.1 ≠ (F_D b).2.1 := by decide +kernel
theorem ft_D_ok : ∀ k, k < 36 → parseFieldDescriptor (F_D k).2.2.1 = some (ft_D k) := by decide +kernel
abbrev cls_ : List vw_C := [(R_M, F_M, 4), (R_P, F_P, 5), (R_S, F_S, 9), (R_T, F_T, 5), (R_B, F_B, 4), (R_D, F_D, 36)]
abbrev b_M_init : ByteArray := prog_2_method_1_code
def y_M_init : MethodName := ⟨R_M, "<init>", "()V"⟩
abbrev b_M_becomeCopyOf : ByteArray := prog_2_method_2_code
def y_M_becomeCopyOf : MethodName := ⟨R_M, "becomeCopyOf", "(LTraceBuilder$Memory;)V"⟩
abbrev b_M_traceOf : ByteArray := prog_2_method_3_code
def y_M_traceOf : MethodName := ⟨R_M, "traceOf", "(II)LTraceBuilder$Trace;"⟩
abbrev b_M_give : ByteArray := prog_2_method_4_code
def y_M_give : MethodName := ⟨R_M, "give", "(ILTraceBuilder$Trace;)V"⟩
abbrev b_M_tracesOf : ByteArray := prog_2_method_5_code
def y_M_tracesOf : MethodName := ⟨R_M, "tracesOf", "(I)I"⟩
abbrev b_M_dropTracesOf : ByteArray := prog_2_method_6_code
def y_M_dropTracesOf : MethodName := ⟨R_M, "dropTracesOf", "(I)I"⟩
abbrev b_M_entryAt : ByteArray := prog_2_method_7_code
def y_M_entryAt : MethodName := ⟨R_M, "entryAt", "(I)LTraceBuilder$Trace;"⟩
abbrev b_M_append : ByteArray := prog_2_method_8_code
def y_M_append : MethodName := ⟨R_M, "append", "(LTraceBuilder$Trace;)V"⟩
abbrev b_M_cutCacheTo : ByteArray := prog_2_method_9_code
def y_M_cutCacheTo : MethodName := ⟨R_M, "cutCacheTo", "(I)I"⟩
abbrev b_M_dropKey : ByteArray := prog_2_method_10_code
def y_M_dropKey : MethodName := ⟨R_M, "dropKey", "(I)V"⟩
abbrev b_M_clearCacheFrom : ByteArray := prog_2_method_11_code
def y_M_clearCacheFrom : MethodName := ⟨R_M, "clearCacheFrom", "(I)V"⟩
abbrev b_M_copyEntriesOf : ByteArray := prog_2_method_12_code
def y_M_copyEntriesOf : MethodName := ⟨R_M, "copyEntriesOf", "(I[LTraceBuilder$Trace;I)I"⟩
abbrev b_P_init : ByteArray := prog_3_method_1_code
def y_P_init : MethodName := ⟨R_P, "<init>", "()V"⟩
abbrev b_P_isInput : ByteArray := prog_3_method_2_code
def y_P_isInput : MethodName := ⟨R_P, "isInput", "(IJ)Z"⟩
abbrev b_P_setInput : ByteArray := prog_3_method_3_code
def y_P_setInput : MethodName := ⟨R_P, "setInput", "(IJ)V"⟩
abbrev b_P_isTask : ByteArray := prog_3_method_4_code
def y_P_isTask : MethodName := ⟨R_P, "isTask", "(IIIII)Z"⟩
abbrev b_P_setTask : ByteArray := prog_3_method_5_code
def y_P_setTask : MethodName := ⟨R_P, "setTask", "(IIIII)V"⟩
abbrev b_S_init : ByteArray := prog_4_method_1_code
def y_S_init : MethodName := ⟨R_S, "<init>", "(LTraceBuilder$Plan;LTraceBuilder$Memory;)V"⟩
abbrev b_S_result : ByteArray := prog_4_method_2_code
def y_S_result : MethodName := ⟨R_S, "result", "(LTraceBuilder$Memory;II)J"⟩
abbrev b_S_hasFailed : ByteArray := prog_4_method_3_code
def y_S_hasFailed : MethodName := ⟨R_S, "hasFailed", "()Z"⟩
abbrev b_S_fail : ByteArray := prog_4_method_4_code
def y_S_fail : MethodName := ⟨R_S, "fail", "(I)J"⟩
abbrev b_S_valueOf : ByteArray := prog_4_method_5_code
def y_S_valueOf : MethodName := ⟨R_S, "valueOf", "(I)J"⟩
abbrev b_S_finish : ByteArray := prog_4_method_6_code
def y_S_finish : MethodName := ⟨R_S, "finish", "(IJ)J"⟩
abbrev b_S_taskValue : ByteArray := prog_4_method_7_code
def y_S_taskValue : MethodName := ⟨R_S, "taskValue", "(I)J"⟩
abbrev b_S_agrees : ByteArray := prog_4_method_8_code
def y_S_agrees : MethodName := ⟨R_S, "agrees", "(LTraceBuilder$Trace;)Z"⟩
abbrev b_S_agreeingEntry : ByteArray := prog_4_method_9_code
def y_S_agreeingEntry : MethodName := ⟨R_S, "agreeingEntry", "(I)LTraceBuilder$Trace;"⟩
abbrev b_S_runTask : ByteArray := prog_4_method_10_code
def y_S_runTask : MethodName := ⟨R_S, "runTask", "(I)J"⟩
abbrev b_S_ruleValue : ByteArray := prog_4_method_11_code
def y_S_ruleValue : MethodName := ⟨R_S, "ruleValue", "(LTraceBuilder$Trace;)J"⟩
abbrev b_S_askPart : ByteArray := prog_4_method_12_code
def y_S_askPart : MethodName := ⟨R_S, "askPart", "(LTraceBuilder$Trace;I)J"⟩
abbrev b_S_ask : ByteArray := prog_4_method_13_code
def y_S_ask : MethodName := ⟨R_S, "ask", "(LTraceBuilder$Trace;I)J"⟩
abbrev b_S_sum : ByteArray := prog_4_method_14_code
def y_S_sum : MethodName := ⟨R_S, "sum", "(LTraceBuilder$Trace;)J"⟩
abbrev b_S_product : ByteArray := prog_4_method_15_code
def y_S_product : MethodName := ⟨R_S, "product", "(LTraceBuilder$Trace;)J"⟩
abbrev b_S_quotient : ByteArray := prog_4_method_16_code
def y_S_quotient : MethodName := ⟨R_S, "quotient", "(LTraceBuilder$Trace;)J"⟩
abbrev b_S_rest : ByteArray := prog_4_method_17_code
def y_S_rest : MethodName := ⟨R_S, "rest", "(LTraceBuilder$Trace;)J"⟩
abbrev b_S_greatest : ByteArray := prog_4_method_18_code
def y_S_greatest : MethodName := ⟨R_S, "greatest", "(LTraceBuilder$Trace;)J"⟩
abbrev b_S_until : ByteArray := prog_4_method_19_code
def y_S_until : MethodName := ⟨R_S, "until", "(LTraceBuilder$Trace;)J"⟩
abbrev b_S_limit : ByteArray := prog_4_method_20_code
def y_S_limit : MethodName := ⟨R_S, "limit", "(LTraceBuilder$Trace;)J"⟩
abbrev b_T_init : ByteArray := prog_5_method_1_code
def y_T_init : MethodName := ⟨R_T, "<init>", "(I)V"⟩
abbrev b_T_note : ByteArray := prog_5_method_2_code
def y_T_note : MethodName := ⟨R_T, "note", "(IJ)V"⟩
abbrev b_T_has : ByteArray := prog_5_method_3_code
def y_T_has : MethodName := ⟨R_T, "has", "(I)Z"⟩
abbrev b_B_init : ByteArray := prog_1_method_1_code
def y_B_init : MethodName := ⟨R_B, "<init>", "()V"⟩
abbrev b_B_input : ByteArray := prog_1_method_2_code
def y_B_input : MethodName := ⟨R_B, "input", "(IJ)V"⟩
abbrev b_B_task : ByteArray := prog_1_method_3_code
def y_B_task : MethodName := ⟨R_B, "task", "(IIIII)V"⟩
abbrev b_B_remove : ByteArray := prog_1_method_4_code
def y_B_remove : MethodName := ⟨R_B, "remove", "(I)V"⟩
abbrev b_B_build : ByteArray := prog_1_method_5_code
def y_B_build : MethodName := ⟨R_B, "build", "(II)J"⟩
abbrev b_B_forget : ByteArray := prog_1_method_6_code
def y_B_forget : MethodName := ⟨R_B, "forget", "(I)I"⟩
abbrev b_B_shrink : ByteArray := prog_1_method_7_code
def y_B_shrink : MethodName := ⟨R_B, "shrink", "(I)I"⟩
abbrev b_B_trace : ByteArray := prog_1_method_8_code
def y_B_trace : MethodName := ⟨R_B, "trace", "(III)I"⟩
abbrev b_B_traced : ByteArray := prog_1_method_9_code
def y_B_traced : MethodName := ⟨R_B, "traced", "(III)J"⟩
abbrev b_B_stale : ByteArray := prog_1_method_10_code
def y_B_stale : MethodName := ⟨R_B, "stale", "(II)Z"⟩
abbrev b_B_cached : ByteArray := prog_1_method_11_code
def y_B_cached : MethodName := ⟨R_B, "cached", "(I)I"⟩
abbrev b_B_count : ByteArray := prog_1_method_12_code
def y_B_count : MethodName := ⟨R_B, "count", "(I)I"⟩
abbrev b_B_traceWith : ByteArray := prog_1_method_13_code
def y_B_traceWith : MethodName := ⟨R_B, "traceWith", "(III)LTraceBuilder$Trace;"⟩
abbrev b_B_refuseBadKey : ByteArray := prog_1_method_14_code
def y_B_refuseBadKey : MethodName := ⟨R_B, "refuseBadKey", "(I)V"⟩
abbrev b_B_refuseBadWorker : ByteArray := prog_1_method_15_code
def y_B_refuseBadWorker : MethodName := ⟨R_B, "refuseBadWorker", "(I)V"⟩
abbrev b_B_refuseBadTask : ByteArray := prog_1_method_16_code
def y_B_refuseBadTask : MethodName := ⟨R_B, "refuseBadTask", "(IIII)V"⟩
abbrev b_B_isPart : ByteArray := prog_1_method_17_code
def y_B_isPart : MethodName := ⟨R_B, "isPart", "(I)Z"⟩
abbrev b_B_partsAmong : ByteArray := prog_1_method_18_code
def y_B_partsAmong : MethodName := ⟨R_B, "partsAmong", "(III)I"⟩
abbrev b_B_throwFailure : ByteArray := prog_1_method_19_code
def y_B_throwFailure : MethodName := ⟨R_B, "throwFailure", "(I)V"⟩
abbrev b_D_init : ByteArray := prog_7_method_1_code
def y_D_init : MethodName := ⟨R_D, "<init>", "()V"⟩
abbrev b_D_thrown : ByteArray := prog_7_method_2_code
def y_D_thrown : MethodName := ⟨R_D, "thrown", "()I"⟩
abbrev b_D_in : ByteArray := prog_7_method_3_code
def y_D_in : MethodName := ⟨R_D, "in", "(III)Z"⟩
abbrev b_D_bad : ByteArray := prog_7_method_4_code
def y_D_bad : MethodName := ⟨R_D, "bad", "(Z)Z"⟩
abbrev b_D_forgetKey : ByteArray := prog_7_method_5_code
def y_D_forgetKey : MethodName := ⟨R_D, "forgetKey", "(I)V"⟩
abbrev b_D_input : ByteArray := prog_7_method_6_code
def y_D_input : MethodName := ⟨R_D, "input", "(IJ)V"⟩
abbrev b_D_task : ByteArray := prog_7_method_7_code
def y_D_task : MethodName := ⟨R_D, "task", "(IIIII)V"⟩
abbrev b_D_remove : ByteArray := prog_7_method_8_code
def y_D_remove : MethodName := ⟨R_D, "remove", "(I)V"⟩
abbrev b_D_freeTrace : ByteArray := prog_7_method_9_code
def y_D_freeTrace : MethodName := ⟨R_D, "freeTrace", "()I"⟩
abbrev b_D_ask : ByteArray := prog_7_method_10_code
def y_D_ask : MethodName := ⟨R_D, "ask", "(I)Z"⟩
abbrev b_D_finish : ByteArray := prog_7_method_11_code
def y_D_finish : MethodName := ⟨R_D, "finish", "(IJ)V"⟩
abbrev b_D_nextCandidate : ByteArray := prog_7_method_12_code
def y_D_nextCandidate : MethodName := ⟨R_D, "nextCandidate", "(I)V"⟩
abbrev b_D_check : ByteArray := prog_7_method_13_code
def y_D_check : MethodName := ⟨R_D, "check", "(I)V"⟩
abbrev b_D_modulo : ByteArray := prog_7_method_14_code
def y_D_modulo : MethodName := ⟨R_D, "modulo", "(JI)J"⟩
abbrev b_D_wanted : ByteArray := prog_7_method_15_code
def y_D_wanted : MethodName := ⟨R_D, "wanted", "(I)I"⟩
abbrev b_D_take : ByteArray := prog_7_method_16_code
def y_D_take : MethodName := ⟨R_D, "take", "(IJ)V"⟩
abbrev b_D_end : ByteArray := prog_7_method_17_code
def y_D_end : MethodName := ⟨R_D, "end", "(I)V"⟩
abbrev b_D_goOn : ByteArray := prog_7_method_18_code
def y_D_goOn : MethodName := ⟨R_D, "goOn", "(I)V"⟩
abbrev b_D_session : ByteArray := prog_7_method_19_code
def y_D_session : MethodName := ⟨R_D, "session", "(II)J"⟩
abbrev b_D_build : ByteArray := prog_7_method_20_code
def y_D_build : MethodName := ⟨R_D, "build", "(II)J"⟩
abbrev b_D_keep : ByteArray := prog_7_method_21_code
def y_D_keep : MethodName := ⟨R_D, "keep", "([I[II)V"⟩
abbrev b_D_stale : ByteArray := prog_7_method_22_code
def y_D_stale : MethodName := ⟨R_D, "stale", "(II)Z"⟩
abbrev b_D_forget : ByteArray := prog_7_method_23_code
def y_D_forget : MethodName := ⟨R_D, "forget", "(I)I"⟩
abbrev b_D_tracesOf : ByteArray := prog_7_method_24_code
def y_D_tracesOf : MethodName := ⟨R_D, "tracesOf", "(I)I"⟩
abbrev b_D_cut : ByteArray := prog_7_method_25_code
def y_D_cut : MethodName := ⟨R_D, "cut", "(I)I"⟩
abbrev b_D_shrink : ByteArray := prog_7_method_26_code
def y_D_shrink : MethodName := ⟨R_D, "shrink", "(I)I"⟩
abbrev b_D_traceWith : ByteArray := prog_7_method_27_code
def y_D_traceWith : MethodName := ⟨R_D, "traceWith", "(III)I"⟩
abbrev b_D_trace : ByteArray := prog_7_method_28_code
def y_D_trace : MethodName := ⟨R_D, "trace", "(III)I"⟩
abbrev b_D_traced : ByteArray := prog_7_method_29_code
def y_D_traced : MethodName := ⟨R_D, "traced", "(III)J"⟩
abbrev b_D_cached : ByteArray := prog_7_method_30_code
def y_D_cached : MethodName := ⟨R_D, "cached", "(I)I"⟩
abbrev b_D_count : ByteArray := prog_7_method_31_code
def y_D_count : MethodName := ⟨R_D, "count", "(I)I"⟩
abbrev b_L_input : ByteArray := method_3_code
def y_L_input : MethodName := ⟨R_L, "input", "(LTraceBuilder;IJ)I"⟩
abbrev b_L_task : ByteArray := method_4_code
def y_L_task : MethodName := ⟨R_L, "task", "(LTraceBuilder;IIIII)I"⟩
abbrev b_L_remove : ByteArray := method_5_code
def y_L_remove : MethodName := ⟨R_L, "remove", "(LTraceBuilder;I)I"⟩
abbrev b_L_build : ByteArray := method_6_code
def y_L_build : MethodName := ⟨R_L, "build", "(LTraceBuilder;II[J)I"⟩
abbrev b_L_forget : ByteArray := method_7_code
def y_L_forget : MethodName := ⟨R_L, "forget", "(LTraceBuilder;I[J)I"⟩
abbrev b_L_shrink : ByteArray := method_8_code
def y_L_shrink : MethodName := ⟨R_L, "shrink", "(LTraceBuilder;I[J)I"⟩
abbrev b_L_trace : ByteArray := method_9_code
def y_L_trace : MethodName := ⟨R_L, "trace", "(LTraceBuilder;III[J)I"⟩
abbrev b_L_traced : ByteArray := method_10_code
def y_L_traced : MethodName := ⟨R_L, "traced", "(LTraceBuilder;III[J)I"⟩
abbrev b_L_stale : ByteArray := method_11_code
def y_L_stale : MethodName := ⟨R_L, "stale", "(LTraceBuilder;II[J)I"⟩
abbrev b_L_cached : ByteArray := method_12_code
def y_L_cached : MethodName := ⟨R_L, "cached", "(LTraceBuilder;I[J)I"⟩
abbrev b_L_law : ByteArray := code
def y_L_law : MethodName := ⟨R_L, "law", "([I)Z"⟩
def gw : List Cond := lw_tbl.filter goodWord
theorem gw_mem {i : Nat} {w : Cond} (h : lw_tbl[i]? = some w) (g : goodWord w = true) : w ∈ gw := List.mem_filter.mpr ⟨List.mem_of_getElem? h, g⟩
theorem gw_tbl {w : Cond} (h : w ∈ gw) : w ∈ lw_tbl := (List.mem_filter.mp h).1
theorem gw_good {w : Cond} (h : w ∈ gw) : (w.onTables && w.keeps) = true ∨ ∃ ty, w = .arrayClass ty := good_of_word (List.mem_filter.mp h).2
theorem gw_in {c1 c2 : Cond} (h : c1 ∈ gw) : GoodIn (c2 :: gw) (c1 :: gw) := fun w hw => (List.mem_cons.mp hw).elim (fun e => by rw [e]; exact ⟨List.mem_cons_of_mem _ h, gw_good h⟩) (fun k => ⟨List.mem_cons_of_mem _ k, gw_good k⟩)
theorem gw_law {c1 : Cond} (h : c1 ∈ gw) : GoodIn lw_tbl (c1 :: gw) := fun w hw => (List.mem_cons.mp hw).elim (fun e => by rw [e]; exact ⟨gw_tbl h, gw_good h⟩) (fun k => ⟨gw_tbl k, gw_good k⟩)
end
section
theorem k_0 : (Jvm.Cond.selects "TraceBuilder$Memory" y_M_tracesOf y_M_tracesOf) ∈ gw := gw_mem (i := 0) (by decide +kernel) (by decide +kernel)
theorem k_1 : (Jvm.Cond.selects "TraceBuilder$Memory" y_M_traceOf y_M_traceOf) ∈ gw := gw_mem (i := 1) (by decide +kernel) (by decide +kernel)
theorem k_2 : (Jvm.Cond.selects "java/lang/Throwable" (⟨"java/lang/Throwable", "fillInStackTrace", "(I)Ljava/lang/Throwable;"⟩ : MethodName) (⟨"java/lang/Throwable", "fillInStackTrace", "(I)Ljava/lang/Throwable;"⟩ : MethodName)) ∈ gw := gw_mem (i := 2) (by decide +kernel) (by decide +kernel)
theorem k_3 : (Jvm.Cond.selects "TraceBuilder$Plan" y_P_isInput y_P_isInput) ∈ gw := gw_mem (i := 3) (by decide +kernel) (by decide +kernel)
theorem k_4 : (Jvm.Cond.selects "TraceBuilder$Plan" y_P_setInput y_P_setInput) ∈ gw := gw_mem (i := 4) (by decide +kernel) (by decide +kernel)
theorem k_5 : (Jvm.Cond.selects "TraceBuilder$Memory" y_M_dropKey y_M_dropKey) ∈ gw := gw_mem (i := 5) (by decide +kernel) (by decide +kernel)
theorem k_6 : (Jvm.Cond.selects "TraceBuilder$Memory" y_M_entryAt y_M_entryAt) ∈ gw := gw_mem (i := 6) (by decide +kernel) (by decide +kernel)
theorem k_7 : (Jvm.Cond.selects "TraceBuilder$Memory" y_M_clearCacheFrom y_M_clearCacheFrom) ∈ gw := gw_mem (i := 7) (by decide +kernel) (by decide +kernel)
theorem k_8 : (Jvm.Cond.selects "TraceBuilder$Plan" y_P_isTask y_P_isTask) ∈ gw := gw_mem (i := 8) (by decide +kernel) (by decide +kernel)
theorem k_9 : (Jvm.Cond.selects "TraceBuilder$Plan" y_P_setTask y_P_setTask) ∈ gw := gw_mem (i := 9) (by decide +kernel) (by decide +kernel)
theorem k_10 : (Jvm.Cond.selects "TraceBuilder$Session" y_S_result y_S_result) ∈ gw := gw_mem (i := 10) (by decide +kernel) (by decide +kernel)
theorem k_11 : (Jvm.Cond.selects "TraceBuilder$Session" y_S_valueOf y_S_valueOf) ∈ gw := gw_mem (i := 11) (by decide +kernel) (by decide +kernel)
theorem k_12 : (Jvm.Cond.selects "TraceBuilder$Session" y_S_fail y_S_fail) ∈ gw := gw_mem (i := 12) (by decide +kernel) (by decide +kernel)
theorem k_13 : (Jvm.Cond.selects "TraceBuilder$Session" y_S_finish y_S_finish) ∈ gw := gw_mem (i := 13) (by decide +kernel) (by decide +kernel)
theorem k_14 : (Jvm.Cond.selects "TraceBuilder$Session" y_S_taskValue y_S_taskValue) ∈ gw := gw_mem (i := 14) (by decide +kernel) (by decide +kernel)
theorem k_15 : (Jvm.Cond.selects "TraceBuilder$Session" y_S_agrees y_S_agrees) ∈ gw := gw_mem (i := 15) (by decide +kernel) (by decide +kernel)
theorem k_16 : (Jvm.Cond.selects "TraceBuilder$Session" y_S_hasFailed y_S_hasFailed) ∈ gw := gw_mem (i := 16) (by decide +kernel) (by decide +kernel)
theorem k_17 : (Jvm.Cond.selects "TraceBuilder$Session" y_S_agreeingEntry y_S_agreeingEntry) ∈ gw := gw_mem (i := 17) (by decide +kernel) (by decide +kernel)
theorem k_18 : (Jvm.Cond.selects "TraceBuilder$Memory" y_M_copyEntriesOf y_M_copyEntriesOf) ∈ gw := gw_mem (i := 18) (by decide +kernel) (by decide +kernel)
theorem k_19 : (Jvm.Cond.selects "TraceBuilder$Memory" y_M_give y_M_give) ∈ gw := gw_mem (i := 19) (by decide +kernel) (by decide +kernel)
theorem k_20 : (Jvm.Cond.selects "TraceBuilder$Session" y_S_runTask y_S_runTask) ∈ gw := gw_mem (i := 20) (by decide +kernel) (by decide +kernel)
theorem k_21 : (Jvm.Cond.selects "TraceBuilder$Session" y_S_ruleValue y_S_ruleValue) ∈ gw := gw_mem (i := 21) (by decide +kernel) (by decide +kernel)
theorem k_22 : (Jvm.Cond.selects "TraceBuilder$Session" y_S_sum y_S_sum) ∈ gw := gw_mem (i := 22) (by decide +kernel) (by decide +kernel)
theorem k_23 : (Jvm.Cond.selects "TraceBuilder$Session" y_S_askPart y_S_askPart) ∈ gw := gw_mem (i := 23) (by decide +kernel) (by decide +kernel)
theorem k_24 : (Jvm.Cond.selects "TraceBuilder$Session" y_S_ask y_S_ask) ∈ gw := gw_mem (i := 24) (by decide +kernel) (by decide +kernel)
theorem k_25 : (Jvm.Cond.selects "TraceBuilder$Trace" y_T_note y_T_note) ∈ gw := gw_mem (i := 25) (by decide +kernel) (by decide +kernel)
theorem k_26 : (Jvm.Cond.selects "TraceBuilder$Trace" y_T_has y_T_has) ∈ gw := gw_mem (i := 26) (by decide +kernel) (by decide +kernel)
theorem k_27 : (Jvm.Cond.selects "TraceBuilder$Session" y_S_product y_S_product) ∈ gw := gw_mem (i := 27) (by decide +kernel) (by decide +kernel)
theorem k_28 : (Jvm.Cond.selects "TraceBuilder$Session" y_S_quotient y_S_quotient) ∈ gw := gw_mem (i := 28) (by decide +kernel) (by decide +kernel)
theorem k_29 : (Jvm.Cond.selects "TraceBuilder$Session" y_S_rest y_S_rest) ∈ gw := gw_mem (i := 29) (by decide +kernel) (by decide +kernel)
theorem k_30 : (Jvm.Cond.selects "TraceBuilder$Session" y_S_greatest y_S_greatest) ∈ gw := gw_mem (i := 30) (by decide +kernel) (by decide +kernel)
theorem k_31 : (Jvm.Cond.selects "TraceBuilder$Session" y_S_until y_S_until) ∈ gw := gw_mem (i := 31) (by decide +kernel) (by decide +kernel)
theorem k_32 : (Jvm.Cond.selects "TraceBuilder$Session" y_S_limit y_S_limit) ∈ gw := gw_mem (i := 32) (by decide +kernel) (by decide +kernel)
theorem k_33 : (Jvm.Cond.selects "TraceBuilder$Memory" y_M_append y_M_append) ∈ gw := gw_mem (i := 33) (by decide +kernel) (by decide +kernel)
theorem k_34 : (Jvm.Cond.selects "TraceBuilder$Memory" y_M_cutCacheTo y_M_cutCacheTo) ∈ gw := gw_mem (i := 34) (by decide +kernel) (by decide +kernel)
theorem k_35 : (Jvm.Cond.selects "TraceBuilder$Memory" y_M_dropTracesOf y_M_dropTracesOf) ∈ gw := gw_mem (i := 35) (by decide +kernel) (by decide +kernel)
theorem k_36 : (Jvm.Cond.selects "TraceBuilder" y_B_traceWith y_B_traceWith) ∈ gw := gw_mem (i := 36) (by decide +kernel) (by decide +kernel)
theorem k_37 : (Jvm.Cond.selects "TraceBuilder$Memory" y_M_becomeCopyOf y_M_becomeCopyOf) ∈ gw := gw_mem (i := 37) (by decide +kernel) (by decide +kernel)
theorem k_38 : (Jvm.Cond.selects "TraceBuilderModel" y_D_bad y_D_bad) ∈ gw := gw_mem (i := 38) (by decide +kernel) (by decide +kernel)
theorem k_39 : (Jvm.Cond.selects "TraceBuilderModel" y_D_forgetKey y_D_forgetKey) ∈ gw := gw_mem (i := 39) (by decide +kernel) (by decide +kernel)
theorem k_40 : (Jvm.Cond.selects "TraceBuilderModel" y_D_session y_D_session) ∈ gw := gw_mem (i := 40) (by decide +kernel) (by decide +kernel)
theorem k_41 : (Jvm.Cond.selects "TraceBuilderModel" y_D_ask y_D_ask) ∈ gw := gw_mem (i := 41) (by decide +kernel) (by decide +kernel)
theorem k_42 : (Jvm.Cond.selects "TraceBuilderModel" y_D_goOn y_D_goOn) ∈ gw := gw_mem (i := 42) (by decide +kernel) (by decide +kernel)
theorem k_43 : (Jvm.Cond.selects "TraceBuilderModel" y_D_wanted y_D_wanted) ∈ gw := gw_mem (i := 43) (by decide +kernel) (by decide +kernel)
theorem k_44 : (Jvm.Cond.selects "TraceBuilderModel" y_D_end y_D_end) ∈ gw := gw_mem (i := 44) (by decide +kernel) (by decide +kernel)
theorem k_45 : (Jvm.Cond.selects "TraceBuilderModel" y_D_cut y_D_cut) ∈ gw := gw_mem (i := 45) (by decide +kernel) (by decide +kernel)
theorem k_46 : (Jvm.Cond.selects "TraceBuilderModel" y_D_finish y_D_finish) ∈ gw := gw_mem (i := 46) (by decide +kernel) (by decide +kernel)
theorem k_47 : (Jvm.Cond.selects "TraceBuilderModel" y_D_take y_D_take) ∈ gw := gw_mem (i := 47) (by decide +kernel) (by decide +kernel)
theorem k_48 : (Jvm.Cond.selects "TraceBuilderModel" y_D_check y_D_check) ∈ gw := gw_mem (i := 48) (by decide +kernel) (by decide +kernel)
theorem k_49 : (Jvm.Cond.selects "TraceBuilderModel" y_D_nextCandidate y_D_nextCandidate) ∈ gw := gw_mem (i := 49) (by decide +kernel) (by decide +kernel)
theorem k_50 : (Jvm.Cond.selects "TraceBuilderModel" y_D_freeTrace y_D_freeTrace) ∈ gw := gw_mem (i := 50) (by decide +kernel) (by decide +kernel)
theorem k_51 : (Jvm.Cond.selects "TraceBuilderModel" y_D_tracesOf y_D_tracesOf) ∈ gw := gw_mem (i := 51) (by decide +kernel) (by decide +kernel)
theorem k_52 : (Jvm.Cond.selects "TraceBuilderModel" y_D_traceWith y_D_traceWith) ∈ gw := gw_mem (i := 52) (by decide +kernel) (by decide +kernel)
theorem k_53 : (Jvm.Cond.initialized "TraceBuilderLaw") ∈ gw := gw_mem (i := 53) (by decide +kernel) (by decide +kernel)
theorem k_54 : (Jvm.Cond.initialized "TraceBuilder") ∈ gw := gw_mem (i := 54) (by decide +kernel) (by decide +kernel)
theorem k_55 : (Jvm.Cond.initialized "TraceBuilder$Plan") ∈ gw := gw_mem (i := 55) (by decide +kernel) (by decide +kernel)
theorem k_56 : (Jvm.Cond.initialized "TraceBuilder$Memory") ∈ gw := gw_mem (i := 56) (by decide +kernel) (by decide +kernel)
theorem k_57 : (Jvm.Cond.initialized "TraceBuilder$Session") ∈ gw := gw_mem (i := 57) (by decide +kernel) (by decide +kernel)
theorem k_58 : (Jvm.Cond.initialized "TraceBuilderModel") ∈ gw := gw_mem (i := 58) (by decide +kernel) (by decide +kernel)
theorem k_59 : (Jvm.Cond.initialized "java/lang/Throwable") ∈ gw := gw_mem (i := 59) (by decide +kernel) (by decide +kernel)
theorem k_60 : (Jvm.Cond.initialized "java/lang/Exception") ∈ gw := gw_mem (i := 60) (by decide +kernel) (by decide +kernel)
theorem k_61 : (Jvm.Cond.initialized "java/lang/RuntimeException") ∈ gw := gw_mem (i := 61) (by decide +kernel) (by decide +kernel)
theorem k_62 : (Jvm.Cond.initialized "java/lang/IllegalArgumentException") ∈ gw := gw_mem (i := 62) (by decide +kernel) (by decide +kernel)
theorem k_63 : (Jvm.Cond.initialized "java/util/NoSuchElementException") ∈ gw := gw_mem (i := 63) (by decide +kernel) (by decide +kernel)
theorem k_64 : (Jvm.Cond.initialized "TraceBuilder$Trace") ∈ gw := gw_mem (i := 64) (by decide +kernel) (by decide +kernel)
theorem k_65 : (Jvm.Cond.initialized "java/lang/Math") ∈ gw := gw_mem (i := 65) (by decide +kernel) (by decide +kernel)
theorem k_66 : (Jvm.Cond.initialized "java/lang/ArithmeticException") ∈ gw := gw_mem (i := 66) (by decide +kernel) (by decide +kernel)
theorem k_67 : (Jvm.Cond.initialized "java/lang/IllegalStateException") ∈ gw := gw_mem (i := 67) (by decide +kernel) (by decide +kernel)
theorem k_68 : (Jvm.Cond.classLink "TraceBuilderLaw" 8 "TraceBuilder") ∈ gw := gw_mem (i := 68) (by decide +kernel) (by decide +kernel)
theorem k_69 : (Jvm.Cond.instantiable "TraceBuilder" 4) ∈ gw := gw_mem (i := 69) (by decide +kernel) (by decide +kernel)
theorem k_70 : (Jvm.Cond.methodLink "TraceBuilderLaw" 55 y_B_init) ∈ gw := gw_mem (i := 70) (by decide +kernel) (by decide +kernel)
theorem k_71 : (Jvm.Cond.instanceMethod y_B_init) ∈ gw := gw_mem (i := 71) (by decide +kernel) (by decide +kernel)
theorem k_72 : (Jvm.Cond.code y_B_init prog_1_method_1_code 1 (Option.none : Option Jvm.ClassFile.FieldType)) ∈ gw := gw_mem (i := 72) (by decide +kernel) (by decide +kernel)
theorem k_73 : (Jvm.Cond.methodLink "TraceBuilder" 1 objectInit) ∈ gw := gw_mem (i := 73) (by decide +kernel) (by decide +kernel)
theorem k_74 : (Jvm.Cond.instanceMethod objectInit) ∈ gw := gw_mem (i := 74) (by decide +kernel) (by decide +kernel)
theorem k_75 : (Jvm.Cond.code objectInit object_method_1_code 1 (Option.none : Option Jvm.ClassFile.FieldType)) ∈ gw := gw_mem (i := 75) (by decide +kernel) (by decide +kernel)
theorem k_76 : (Jvm.Cond.classLink "TraceBuilder" 7 "TraceBuilder$Plan") ∈ gw := gw_mem (i := 76) (by decide +kernel) (by decide +kernel)
theorem k_77 : (Jvm.Cond.instantiable "TraceBuilder$Plan" 5) ∈ gw := gw_mem (i := 77) (by decide +kernel) (by decide +kernel)
theorem k_79 : (Jvm.Cond.instanceMethod y_P_init) ∈ gw := gw_mem (i := 79) (by decide +kernel) (by decide +kernel)
theorem k_80 : (Jvm.Cond.code y_P_init prog_3_method_1_code 1 (Option.none : Option Jvm.ClassFile.FieldType)) ∈ gw := gw_mem (i := 80) (by decide +kernel) (by decide +kernel)
theorem k_81 : (Jvm.Cond.methodLink "TraceBuilder$Plan" 3 objectInit) ∈ gw := gw_mem (i := 81) (by decide +kernel) (by decide +kernel)
theorem k_82 : (Jvm.Cond.classLink "TraceBuilder$Plan" 22 "[[I") ∈ gw := gw_mem (i := 82) (by decide +kernel) (by decide +kernel)
theorem k_84 : (Jvm.Cond.fieldLink "TraceBuilder$Plan" 9 "TraceBuilder$Plan" "kinds" "[I") ∈ gw := gw_mem (i := 84) (by decide +kernel) (by decide +kernel)
theorem k_87 : (Jvm.Cond.fieldLink "TraceBuilder$Plan" 15 "TraceBuilder$Plan" "values" "[J") ∈ gw := gw_mem (i := 87) (by decide +kernel) (by decide +kernel)
theorem k_89 : (Jvm.Cond.fieldLink "TraceBuilder$Plan" 19 "TraceBuilder$Plan" "rules" "[I") ∈ gw := gw_mem (i := 89) (by decide +kernel) (by decide +kernel)
theorem k_91 : (Jvm.Cond.fieldLink "TraceBuilder$Plan" 24 "TraceBuilder$Plan" "parts" "[[I") ∈ gw := gw_mem (i := 91) (by decide +kernel) (by decide +kernel)
theorem k_93 : (Jvm.Cond.fieldLink "TraceBuilder$Plan" 27 "TraceBuilder$Plan" "partCounts" "[I") ∈ gw := gw_mem (i := 93) (by decide +kernel) (by decide +kernel)
theorem k_95 : (Jvm.Cond.laysFinal "TraceBuilder$Plan" "TraceBuilder$Plan" "kinds" "[I") ∈ gw := gw_mem (i := 95) (by decide +kernel) (by decide +kernel)
theorem k_97 : (Jvm.Cond.laysFinal "TraceBuilder$Plan" "TraceBuilder$Plan" "values" "[J") ∈ gw := gw_mem (i := 97) (by decide +kernel) (by decide +kernel)
theorem k_99 : (Jvm.Cond.laysFinal "TraceBuilder$Plan" "TraceBuilder$Plan" "rules" "[I") ∈ gw := gw_mem (i := 99) (by decide +kernel) (by decide +kernel)
theorem k_101 : (Jvm.Cond.laysFinal "TraceBuilder$Plan" "TraceBuilder$Plan" "parts" "[[I") ∈ gw := gw_mem (i := 101) (by decide +kernel) (by decide +kernel)
theorem k_103 : (Jvm.Cond.laysFinal "TraceBuilder$Plan" "TraceBuilder$Plan" "partCounts" "[I") ∈ gw := gw_mem (i := 103) (by decide +kernel) (by decide +kernel)
theorem k_106 : (Jvm.Cond.arrayClass Jvm.ClassFile.FieldType.int) ∈ gw := gw_mem (i := 106) (by decide +kernel) (by decide +kernel)
theorem k_107 : (Jvm.Cond.arrayClass Jvm.ClassFile.FieldType.long) ∈ gw := gw_mem (i := 107) (by decide +kernel) (by decide +kernel)
theorem k_108 : (Jvm.Cond.classLink "TraceBuilder" 16 "TraceBuilder$Memory") ∈ gw := gw_mem (i := 108) (by decide +kernel) (by decide +kernel)
theorem k_109 : (Jvm.Cond.instantiable "TraceBuilder$Memory" 4) ∈ gw := gw_mem (i := 109) (by decide +kernel) (by decide +kernel)
theorem k_111 : (Jvm.Cond.instanceMethod y_M_init) ∈ gw := gw_mem (i := 111) (by decide +kernel) (by decide +kernel)
theorem k_112 : (Jvm.Cond.code y_M_init prog_2_method_1_code 1 (Option.none : Option Jvm.ClassFile.FieldType)) ∈ gw := gw_mem (i := 112) (by decide +kernel) (by decide +kernel)
theorem k_113 : (Jvm.Cond.methodLink "TraceBuilder$Memory" 3 objectInit) ∈ gw := gw_mem (i := 113) (by decide +kernel) (by decide +kernel)
theorem k_114 : (Jvm.Cond.classLink "TraceBuilder$Memory" 9 "TraceBuilder$Trace") ∈ gw := gw_mem (i := 114) (by decide +kernel) (by decide +kernel)
theorem k_116 : (Jvm.Cond.fieldLink "TraceBuilder$Memory" 11 "TraceBuilder$Memory" "traces" "[LTraceBuilder$Trace;") ∈ gw := gw_mem (i := 116) (by decide +kernel) (by decide +kernel)
theorem k_117 : (Jvm.Cond.fieldLink "TraceBuilder$Memory" 17 "TraceBuilder$Memory" "cache" "[LTraceBuilder$Trace;") ∈ gw := gw_mem (i := 117) (by decide +kernel) (by decide +kernel)
theorem k_118 : (Jvm.Cond.fieldLink "TraceBuilder$Memory" 24 "TraceBuilder$Memory" "cacheSize" "I") ∈ gw := gw_mem (i := 118) (by decide +kernel) (by decide +kernel)
theorem k_120 : (Jvm.Cond.fieldLink "TraceBuilder$Memory" 20 "TraceBuilder$Memory" "tallies" "[I") ∈ gw := gw_mem (i := 120) (by decide +kernel) (by decide +kernel)
theorem k_123 : (Jvm.Cond.laysFinal "TraceBuilder$Memory" "TraceBuilder$Memory" "traces" "[LTraceBuilder$Trace;") ∈ gw := gw_mem (i := 123) (by decide +kernel) (by decide +kernel)
theorem k_125 : (Jvm.Cond.laysFinal "TraceBuilder$Memory" "TraceBuilder$Memory" "cache" "[LTraceBuilder$Trace;") ∈ gw := gw_mem (i := 125) (by decide +kernel) (by decide +kernel)
theorem k_127 : (Jvm.Cond.lays "TraceBuilder$Memory" "TraceBuilder$Memory" "cacheSize" "I") ∈ gw := gw_mem (i := 127) (by decide +kernel) (by decide +kernel)
theorem k_129 : (Jvm.Cond.laysFinal "TraceBuilder$Memory" "TraceBuilder$Memory" "tallies" "[I") ∈ gw := gw_mem (i := 129) (by decide +kernel) (by decide +kernel)
theorem k_132 : (Jvm.Cond.classLink "TraceBuilder" 26 "TraceBuilder$Session") ∈ gw := gw_mem (i := 132) (by decide +kernel) (by decide +kernel)
theorem k_133 : (Jvm.Cond.instantiable "TraceBuilder$Session" 9) ∈ gw := gw_mem (i := 133) (by decide +kernel) (by decide +kernel)
theorem k_135 : (Jvm.Cond.instanceMethod y_S_init) ∈ gw := gw_mem (i := 135) (by decide +kernel) (by decide +kernel)
theorem k_136 : (Jvm.Cond.code y_S_init prog_4_method_1_code 3 (Option.none : Option Jvm.ClassFile.FieldType)) ∈ gw := gw_mem (i := 136) (by decide +kernel) (by decide +kernel)
theorem k_137 : (Jvm.Cond.methodLink "TraceBuilder$Session" 3 objectInit) ∈ gw := gw_mem (i := 137) (by decide +kernel) (by decide +kernel)
theorem k_138 : (Jvm.Cond.classLink "TraceBuilder$Session" 22 "TraceBuilder$Trace") ∈ gw := gw_mem (i := 138) (by decide +kernel) (by decide +kernel)
theorem k_139 : (Jvm.Cond.fieldLink "TraceBuilder$Session" 28 "TraceBuilder$Session" "plan" "LTraceBuilder$Plan;") ∈ gw := gw_mem (i := 139) (by decide +kernel) (by decide +kernel)
theorem k_140 : (Jvm.Cond.fieldLink "TraceBuilder$Session" 32 "TraceBuilder$Session" "memory" "LTraceBuilder$Memory;") ∈ gw := gw_mem (i := 140) (by decide +kernel) (by decide +kernel)
theorem k_141 : (Jvm.Cond.fieldLink "TraceBuilder$Session" 36 "TraceBuilder$Session" "worker" "I") ∈ gw := gw_mem (i := 141) (by decide +kernel) (by decide +kernel)
theorem k_142 : (Jvm.Cond.fieldLink "TraceBuilder$Session" 9 "TraceBuilder$Session" "finished" "[Z") ∈ gw := gw_mem (i := 142) (by decide +kernel) (by decide +kernel)
theorem k_143 : (Jvm.Cond.fieldLink "TraceBuilder$Session" 15 "TraceBuilder$Session" "open" "[Z") ∈ gw := gw_mem (i := 143) (by decide +kernel) (by decide +kernel)
theorem k_144 : (Jvm.Cond.fieldLink "TraceBuilder$Session" 18 "TraceBuilder$Session" "values" "[J") ∈ gw := gw_mem (i := 144) (by decide +kernel) (by decide +kernel)
theorem k_145 : (Jvm.Cond.fieldLink "TraceBuilder$Session" 24 "TraceBuilder$Session" "entryRows" "[LTraceBuilder$Trace;") ∈ gw := gw_mem (i := 145) (by decide +kernel) (by decide +kernel)
theorem k_146 : (Jvm.Cond.fieldLink "TraceBuilder$Session" 40 "TraceBuilder$Session" "hasRun" "Z") ∈ gw := gw_mem (i := 146) (by decide +kernel) (by decide +kernel)
theorem k_148 : (Jvm.Cond.fieldLink "TraceBuilder$Session" 44 "TraceBuilder$Session" "failure" "I") ∈ gw := gw_mem (i := 148) (by decide +kernel) (by decide +kernel)
theorem k_150 : (Jvm.Cond.laysFinal "TraceBuilder$Session" "TraceBuilder$Session" "plan" "LTraceBuilder$Plan;") ∈ gw := gw_mem (i := 150) (by decide +kernel) (by decide +kernel)
theorem k_152 : (Jvm.Cond.lays "TraceBuilder$Session" "TraceBuilder$Session" "memory" "LTraceBuilder$Memory;") ∈ gw := gw_mem (i := 152) (by decide +kernel) (by decide +kernel)
theorem k_154 : (Jvm.Cond.lays "TraceBuilder$Session" "TraceBuilder$Session" "worker" "I") ∈ gw := gw_mem (i := 154) (by decide +kernel) (by decide +kernel)
theorem k_156 : (Jvm.Cond.laysFinal "TraceBuilder$Session" "TraceBuilder$Session" "finished" "[Z") ∈ gw := gw_mem (i := 156) (by decide +kernel) (by decide +kernel)
theorem k_158 : (Jvm.Cond.laysFinal "TraceBuilder$Session" "TraceBuilder$Session" "open" "[Z") ∈ gw := gw_mem (i := 158) (by decide +kernel) (by decide +kernel)
theorem k_160 : (Jvm.Cond.laysFinal "TraceBuilder$Session" "TraceBuilder$Session" "values" "[J") ∈ gw := gw_mem (i := 160) (by decide +kernel) (by decide +kernel)
theorem k_162 : (Jvm.Cond.laysFinal "TraceBuilder$Session" "TraceBuilder$Session" "entryRows" "[LTraceBuilder$Trace;") ∈ gw := gw_mem (i := 162) (by decide +kernel) (by decide +kernel)
theorem k_164 : (Jvm.Cond.lays "TraceBuilder$Session" "TraceBuilder$Session" "hasRun" "Z") ∈ gw := gw_mem (i := 164) (by decide +kernel) (by decide +kernel)
theorem k_166 : (Jvm.Cond.lays "TraceBuilder$Session" "TraceBuilder$Session" "failure" "I") ∈ gw := gw_mem (i := 166) (by decide +kernel) (by decide +kernel)
theorem k_169 : (Jvm.Cond.arrayClass Jvm.ClassFile.FieldType.boolean) ∈ gw := gw_mem (i := 169) (by decide +kernel) (by decide +kernel)
theorem k_170 : (Jvm.Cond.fieldLink "TraceBuilder" 10 "TraceBuilder" "plan" "LTraceBuilder$Plan;") ∈ gw := gw_mem (i := 170) (by decide +kernel) (by decide +kernel)
theorem k_171 : (Jvm.Cond.fieldLink "TraceBuilder" 19 "TraceBuilder" "memory" "LTraceBuilder$Memory;") ∈ gw := gw_mem (i := 171) (by decide +kernel) (by decide +kernel)
theorem k_172 : (Jvm.Cond.fieldLink "TraceBuilder" 23 "TraceBuilder" "scratch" "LTraceBuilder$Memory;") ∈ gw := gw_mem (i := 172) (by decide +kernel) (by decide +kernel)
theorem k_173 : (Jvm.Cond.fieldLink "TraceBuilder" 31 "TraceBuilder" "session" "LTraceBuilder$Session;") ∈ gw := gw_mem (i := 173) (by decide +kernel) (by decide +kernel)
theorem k_174 : (Jvm.Cond.laysFinal "TraceBuilder" "TraceBuilder" "plan" "LTraceBuilder$Plan;") ∈ gw := gw_mem (i := 174) (by decide +kernel) (by decide +kernel)
theorem k_176 : (Jvm.Cond.laysFinal "TraceBuilder" "TraceBuilder" "memory" "LTraceBuilder$Memory;") ∈ gw := gw_mem (i := 176) (by decide +kernel) (by decide +kernel)
theorem k_178 : (Jvm.Cond.laysFinal "TraceBuilder" "TraceBuilder" "scratch" "LTraceBuilder$Memory;") ∈ gw := gw_mem (i := 178) (by decide +kernel) (by decide +kernel)
theorem k_180 : (Jvm.Cond.laysFinal "TraceBuilder" "TraceBuilder" "session" "LTraceBuilder$Session;") ∈ gw := gw_mem (i := 180) (by decide +kernel) (by decide +kernel)
theorem k_183 : (Jvm.Cond.methodLink "TraceBuilderLaw" 103 y_B_count) ∈ gw := gw_mem (i := 183) (by decide +kernel) (by decide +kernel)
theorem k_184 : (Jvm.Cond.instanceMethod y_B_count) ∈ gw := gw_mem (i := 184) (by decide +kernel) (by decide +kernel)
theorem k_185 : (Jvm.Cond.selects "TraceBuilder" y_B_count y_B_count) ∈ gw := gw_mem (i := 185) (by decide +kernel) (by decide +kernel)
theorem k_186 : (Jvm.Cond.code y_B_count prog_1_method_12_code 2 (Option.some Jvm.ClassFile.FieldType.int)) ∈ gw := gw_mem (i := 186) (by decide +kernel) (by decide +kernel)
theorem k_189 : (Jvm.Cond.instanceMethod y_M_tracesOf) ∈ gw := gw_mem (i := 189) (by decide +kernel) (by decide +kernel)
theorem k_190 : (Jvm.Cond.code y_M_tracesOf prog_2_method_5_code 4 (Option.some Jvm.ClassFile.FieldType.int)) ∈ gw := gw_mem (i := 190) (by decide +kernel) (by decide +kernel)
theorem k_191 : (Jvm.Cond.methodLink "TraceBuilder$Memory" 31 y_M_traceOf) ∈ gw := gw_mem (i := 191) (by decide +kernel) (by decide +kernel)
theorem k_193 : (Jvm.Cond.instanceMethod y_M_traceOf) ∈ gw := gw_mem (i := 193) (by decide +kernel) (by decide +kernel)
theorem k_194 : (Jvm.Cond.code y_M_traceOf prog_2_method_3_code 3 (Option.some (Jvm.ClassFile.FieldType.object "TraceBuilder$Trace"))) ∈ gw := gw_mem (i := 194) (by decide +kernel) (by decide +kernel)
theorem k_195 : (Jvm.Cond.methodLink "TraceBuilderLaw" 61 y_L_input) ∈ gw := gw_mem (i := 195) (by decide +kernel) (by decide +kernel)
theorem k_196 : (Jvm.Cond.static y_L_input) ∈ gw := gw_mem (i := 196) (by decide +kernel) (by decide +kernel)
theorem k_197 : (Jvm.Cond.codeWith y_L_input method_3_code 5 (Option.some Jvm.ClassFile.FieldType.int) [(0, 6, 9, 13)]) ∈ gw := gw_mem (i := 197) (by decide +kernel) (by decide +kernel)
theorem k_198 : (Jvm.Cond.classLink "TraceBuilderLaw" 13 "java/lang/IllegalArgumentException") ∈ gw := gw_mem (i := 198) (by decide +kernel) (by decide +kernel)
theorem k_199 : (Jvm.Cond.methodLink "TraceBuilderLaw" 7 y_B_input) ∈ gw := gw_mem (i := 199) (by decide +kernel) (by decide +kernel)
theorem k_200 : (Jvm.Cond.instanceMethod y_B_input) ∈ gw := gw_mem (i := 200) (by decide +kernel) (by decide +kernel)
theorem k_201 : (Jvm.Cond.selects "TraceBuilder" y_B_input y_B_input) ∈ gw := gw_mem (i := 201) (by decide +kernel) (by decide +kernel)
theorem k_202 : (Jvm.Cond.code y_B_input prog_1_method_2_code 4 (Option.none : Option Jvm.ClassFile.FieldType)) ∈ gw := gw_mem (i := 202) (by decide +kernel) (by decide +kernel)
theorem k_203 : (Jvm.Cond.methodLink "TraceBuilder" 35 y_B_refuseBadKey) ∈ gw := gw_mem (i := 203) (by decide +kernel) (by decide +kernel)
theorem k_204 : (Jvm.Cond.static y_B_refuseBadKey) ∈ gw := gw_mem (i := 204) (by decide +kernel) (by decide +kernel)
theorem k_205 : (Jvm.Cond.code y_B_refuseBadKey prog_1_method_14_code 1 (Option.none : Option Jvm.ClassFile.FieldType)) ∈ gw := gw_mem (i := 205) (by decide +kernel) (by decide +kernel)
theorem k_206 : (Jvm.Cond.classLink "TraceBuilder" 94 "java/lang/IllegalArgumentException") ∈ gw := gw_mem (i := 206) (by decide +kernel) (by decide +kernel)
theorem k_207 : (Jvm.Cond.instantiable "java/lang/IllegalArgumentException" 6) ∈ gw := gw_mem (i := 207) (by decide +kernel) (by decide +kernel)
theorem k_215 : (Jvm.Cond.selects "java/lang/IllegalArgumentException" (⟨"java/lang/Throwable", "fillInStackTrace", "(I)Ljava/lang/Throwable;"⟩ : MethodName) (⟨"java/lang/Throwable", "fillInStackTrace", "(I)Ljava/lang/Throwable;"⟩ : MethodName)) ∈ gw := gw_mem (i := 215) (by decide +kernel) (by decide +kernel)
theorem k_216 : (Jvm.Cond.selects "java/lang/IllegalArgumentException" (⟨"java/lang/Throwable", "fillInStackTrace", "()Ljava/lang/Throwable;"⟩ : MethodName) (⟨"java/lang/Throwable", "fillInStackTrace", "()Ljava/lang/Throwable;"⟩ : MethodName)) ∈ gw := gw_mem (i := 216) (by decide +kernel) (by decide +kernel)
theorem k_217 : (Jvm.Cond.lays "java/lang/IllegalArgumentException" "java/lang/Throwable" "cause" "Ljava/lang/Throwable;") ∈ gw := gw_mem (i := 217) (by decide +kernel) (by decide +kernel)
theorem k_218 : (Jvm.Cond.lays "java/lang/Throwable" "java/lang/Throwable" "cause" "Ljava/lang/Throwable;") ∈ gw := gw_mem (i := 218) (by decide +kernel) (by decide +kernel)
theorem k_219 : (Jvm.Cond.lays "java/lang/IllegalArgumentException" "java/lang/Throwable" "stackTrace" "[Ljava/lang/StackTraceElement;") ∈ gw := gw_mem (i := 219) (by decide +kernel) (by decide +kernel)
theorem k_220 : (Jvm.Cond.lays "java/lang/Throwable" "java/lang/Throwable" "stackTrace" "[Ljava/lang/StackTraceElement;") ∈ gw := gw_mem (i := 220) (by decide +kernel) (by decide +kernel)
theorem k_221 : (Jvm.Cond.lays "java/lang/IllegalArgumentException" "java/lang/Throwable" "suppressedExceptions" "Ljava/util/List;") ∈ gw := gw_mem (i := 221) (by decide +kernel) (by decide +kernel)
theorem k_222 : (Jvm.Cond.lays "java/lang/Throwable" "java/lang/Throwable" "suppressedExceptions" "Ljava/util/List;") ∈ gw := gw_mem (i := 222) (by decide +kernel) (by decide +kernel)
theorem k_223 : (Jvm.Cond.lays "java/lang/IllegalArgumentException" "java/lang/Throwable" "detailMessage" "Ljava/lang/String;") ∈ gw := gw_mem (i := 223) (by decide +kernel) (by decide +kernel)
theorem k_224 : (Jvm.Cond.lays "java/lang/Throwable" "java/lang/Throwable" "detailMessage" "Ljava/lang/String;") ∈ gw := gw_mem (i := 224) (by decide +kernel) (by decide +kernel)
theorem k_225 : (Jvm.Cond.lays "java/lang/IllegalArgumentException" "java/lang/Throwable" "backtrace" "Ljava/lang/Object;") ∈ gw := gw_mem (i := 225) (by decide +kernel) (by decide +kernel)
theorem k_226 : (Jvm.Cond.lays "java/lang/Throwable" "java/lang/Throwable" "backtrace" "Ljava/lang/Object;") ∈ gw := gw_mem (i := 226) (by decide +kernel) (by decide +kernel)
theorem k_227 : (Jvm.Cond.fieldLink "java/lang/Throwable" 198 "java/lang/Throwable" "backtrace" "Ljava/lang/Object;") ∈ gw := gw_mem (i := 227) (by decide +kernel) (by decide +kernel)
theorem k_229 : (Jvm.Cond.instanceMethod (⟨"java/lang/Throwable", "<init>", "()V"⟩ : MethodName)) ∈ gw := gw_mem (i := 229) (by decide +kernel) (by decide +kernel)
theorem k_230 : (Jvm.Cond.code (⟨"java/lang/Throwable", "<init>", "()V"⟩ : MethodName) prog_14_method_1_code 1 (Option.none : Option Jvm.ClassFile.FieldType)) ∈ gw := gw_mem (i := 230) (by decide +kernel) (by decide +kernel)
theorem k_231 : (Jvm.Cond.methodLink "java/lang/Throwable" 1 objectInit) ∈ gw := gw_mem (i := 231) (by decide +kernel) (by decide +kernel)
theorem k_232 : (Jvm.Cond.fieldLink "java/lang/Throwable" 13 "java/lang/Throwable" "UNASSIGNED_STACK" "[Ljava/lang/StackTraceElement;") ∈ gw := gw_mem (i := 232) (by decide +kernel) (by decide +kernel)
theorem k_234 : (Jvm.Cond.fieldLink "java/lang/Throwable" 20 "java/lang/Throwable" "SUPPRESSED_SENTINEL" "Ljava/util/List;") ∈ gw := gw_mem (i := 234) (by decide +kernel) (by decide +kernel)
theorem k_236 : (Jvm.Cond.methodLink "java/lang/Throwable" 27 (⟨"java/lang/Throwable", "fillInStackTrace", "()Ljava/lang/Throwable;"⟩ : MethodName)) ∈ gw := gw_mem (i := 236) (by decide +kernel) (by decide +kernel)
theorem k_237 : (Jvm.Cond.instanceMethod (⟨"java/lang/Throwable", "fillInStackTrace", "()Ljava/lang/Throwable;"⟩ : MethodName)) ∈ gw := gw_mem (i := 237) (by decide +kernel) (by decide +kernel)
theorem k_239 : (Jvm.Cond.selects "java/lang/ArithmeticException" (⟨"java/lang/Throwable", "fillInStackTrace", "()Ljava/lang/Throwable;"⟩ : MethodName) (⟨"java/lang/Throwable", "fillInStackTrace", "()Ljava/lang/Throwable;"⟩ : MethodName)) ∈ gw := gw_mem (i := 239) (by decide +kernel) (by decide +kernel)
theorem k_240 : (Jvm.Cond.selects "java/lang/IllegalStateException" (⟨"java/lang/Throwable", "fillInStackTrace", "()Ljava/lang/Throwable;"⟩ : MethodName) (⟨"java/lang/Throwable", "fillInStackTrace", "()Ljava/lang/Throwable;"⟩ : MethodName)) ∈ gw := gw_mem (i := 240) (by decide +kernel) (by decide +kernel)
theorem k_241 : (Jvm.Cond.selects "java/util/NoSuchElementException" (⟨"java/lang/Throwable", "fillInStackTrace", "()Ljava/lang/Throwable;"⟩ : MethodName) (⟨"java/lang/Throwable", "fillInStackTrace", "()Ljava/lang/Throwable;"⟩ : MethodName)) ∈ gw := gw_mem (i := 241) (by decide +kernel) (by decide +kernel)
theorem k_243 : (Jvm.Cond.methodLink "java/lang/Throwable" 202 (⟨"java/lang/Throwable", "fillInStackTrace", "(I)Ljava/lang/Throwable;"⟩ : MethodName)) ∈ gw := gw_mem (i := 243) (by decide +kernel) (by decide +kernel)
theorem k_245 : (Jvm.Cond.instanceMethod (⟨"java/lang/Throwable", "fillInStackTrace", "(I)Ljava/lang/Throwable;"⟩ : MethodName)) ∈ gw := gw_mem (i := 245) (by decide +kernel) (by decide +kernel)
theorem k_246 : (Jvm.Cond.instantiable "java/lang/Throwable" 6) ∈ gw := gw_mem (i := 246) (by decide +kernel) (by decide +kernel)
theorem k_248 : (Jvm.Cond.methodLink "TraceBuilder" 96 (⟨"java/lang/IllegalArgumentException", "<init>", "()V"⟩ : MethodName)) ∈ gw := gw_mem (i := 248) (by decide +kernel) (by decide +kernel)
theorem k_249 : (Jvm.Cond.instanceMethod (⟨"java/lang/IllegalArgumentException", "<init>", "()V"⟩ : MethodName)) ∈ gw := gw_mem (i := 249) (by decide +kernel) (by decide +kernel)
theorem k_250 : (Jvm.Cond.code (⟨"java/lang/IllegalArgumentException", "<init>", "()V"⟩ : MethodName) prog_10_method_1_code 1 (Option.none : Option Jvm.ClassFile.FieldType)) ∈ gw := gw_mem (i := 250) (by decide +kernel) (by decide +kernel)
theorem k_251 : (Jvm.Cond.methodLink "java/lang/IllegalArgumentException" 1 (⟨"java/lang/RuntimeException", "<init>", "()V"⟩ : MethodName)) ∈ gw := gw_mem (i := 251) (by decide +kernel) (by decide +kernel)
theorem k_252 : (Jvm.Cond.instanceMethod (⟨"java/lang/RuntimeException", "<init>", "()V"⟩ : MethodName)) ∈ gw := gw_mem (i := 252) (by decide +kernel) (by decide +kernel)
theorem k_253 : (Jvm.Cond.code (⟨"java/lang/RuntimeException", "<init>", "()V"⟩ : MethodName) prog_13_method_1_code 1 (Option.none : Option Jvm.ClassFile.FieldType)) ∈ gw := gw_mem (i := 253) (by decide +kernel) (by decide +kernel)
theorem k_254 : (Jvm.Cond.methodLink "java/lang/RuntimeException" 1 (⟨"java/lang/Exception", "<init>", "()V"⟩ : MethodName)) ∈ gw := gw_mem (i := 254) (by decide +kernel) (by decide +kernel)
theorem k_255 : (Jvm.Cond.instanceMethod (⟨"java/lang/Exception", "<init>", "()V"⟩ : MethodName)) ∈ gw := gw_mem (i := 255) (by decide +kernel) (by decide +kernel)
theorem k_256 : (Jvm.Cond.code (⟨"java/lang/Exception", "<init>", "()V"⟩ : MethodName) prog_9_method_1_code 1 (Option.none : Option Jvm.ClassFile.FieldType)) ∈ gw := gw_mem (i := 256) (by decide +kernel) (by decide +kernel)
theorem k_257 : (Jvm.Cond.methodLink "java/lang/Exception" 1 (⟨"java/lang/Throwable", "<init>", "()V"⟩ : MethodName)) ∈ gw := gw_mem (i := 257) (by decide +kernel) (by decide +kernel)
theorem k_258 : (Jvm.Cond.fieldLink "java/lang/Throwable" 198 "java/lang/Throwable" "backtrace" "Ljava/lang/Object;") ∈ gw := gw_mem (i := 258) (by decide +kernel) (by decide +kernel)
theorem k_259 : (Jvm.Cond.fieldLink "java/lang/Throwable" 7 "java/lang/Throwable" "cause" "Ljava/lang/Throwable;") ∈ gw := gw_mem (i := 259) (by decide +kernel) (by decide +kernel)
theorem k_260 : (Jvm.Cond.fieldLink "java/lang/Throwable" 17 "java/lang/Throwable" "stackTrace" "[Ljava/lang/StackTraceElement;") ∈ gw := gw_mem (i := 260) (by decide +kernel) (by decide +kernel)
theorem k_261 : (Jvm.Cond.fieldLink "java/lang/Throwable" 24 "java/lang/Throwable" "suppressedExceptions" "Ljava/util/List;") ∈ gw := gw_mem (i := 261) (by decide +kernel) (by decide +kernel)
theorem k_266 : (Jvm.Cond.lays "java/lang/IllegalArgumentException" "java/lang/Throwable" "depth" "I") ∈ gw := gw_mem (i := 266) (by decide +kernel) (by decide +kernel)
theorem k_272 : (Jvm.Cond.instanceMethod y_P_isInput) ∈ gw := gw_mem (i := 272) (by decide +kernel) (by decide +kernel)
theorem k_273 : (Jvm.Cond.code y_P_isInput prog_3_method_2_code 4 (Option.some Jvm.ClassFile.FieldType.boolean)) ∈ gw := gw_mem (i := 273) (by decide +kernel) (by decide +kernel)
theorem k_276 : (Jvm.Cond.instanceMethod y_P_setInput) ∈ gw := gw_mem (i := 276) (by decide +kernel) (by decide +kernel)
theorem k_277 : (Jvm.Cond.code y_P_setInput prog_3_method_3_code 4 (Option.none : Option Jvm.ClassFile.FieldType)) ∈ gw := gw_mem (i := 277) (by decide +kernel) (by decide +kernel)
theorem k_280 : (Jvm.Cond.instanceMethod y_M_dropKey) ∈ gw := gw_mem (i := 280) (by decide +kernel) (by decide +kernel)
theorem k_281 : (Jvm.Cond.code y_M_dropKey prog_2_method_10_code 5 (Option.none : Option Jvm.ClassFile.FieldType)) ∈ gw := gw_mem (i := 281) (by decide +kernel) (by decide +kernel)
theorem k_282 : (Jvm.Cond.methodLink "TraceBuilder$Memory" 46 y_M_entryAt) ∈ gw := gw_mem (i := 282) (by decide +kernel) (by decide +kernel)
theorem k_284 : (Jvm.Cond.instanceMethod y_M_entryAt) ∈ gw := gw_mem (i := 284) (by decide +kernel) (by decide +kernel)
theorem k_285 : (Jvm.Cond.code y_M_entryAt prog_2_method_7_code 2 (Option.some (Jvm.ClassFile.FieldType.object "TraceBuilder$Trace"))) ∈ gw := gw_mem (i := 285) (by decide +kernel) (by decide +kernel)
theorem k_286 : (Jvm.Cond.methodLink "TraceBuilder$Memory" 42 y_M_clearCacheFrom) ∈ gw := gw_mem (i := 286) (by decide +kernel) (by decide +kernel)
theorem k_288 : (Jvm.Cond.instanceMethod y_M_clearCacheFrom) ∈ gw := gw_mem (i := 288) (by decide +kernel) (by decide +kernel)
theorem k_289 : (Jvm.Cond.code y_M_clearCacheFrom prog_2_method_11_code 3 (Option.none : Option Jvm.ClassFile.FieldType)) ∈ gw := gw_mem (i := 289) (by decide +kernel) (by decide +kernel)
theorem k_290 : (Jvm.Cond.methodLink "TraceBuilderLaw" 71 y_L_task) ∈ gw := gw_mem (i := 290) (by decide +kernel) (by decide +kernel)
theorem k_291 : (Jvm.Cond.static y_L_task) ∈ gw := gw_mem (i := 291) (by decide +kernel) (by decide +kernel)
theorem k_292 : (Jvm.Cond.codeWith y_L_task method_4_code 7 (Option.some Jvm.ClassFile.FieldType.int) [(0, 11, 14, 13)]) ∈ gw := gw_mem (i := 292) (by decide +kernel) (by decide +kernel)
theorem k_293 : (Jvm.Cond.methodLink "TraceBuilderLaw" 15 y_B_task) ∈ gw := gw_mem (i := 293) (by decide +kernel) (by decide +kernel)
theorem k_294 : (Jvm.Cond.instanceMethod y_B_task) ∈ gw := gw_mem (i := 294) (by decide +kernel) (by decide +kernel)
theorem k_295 : (Jvm.Cond.selects "TraceBuilder" y_B_task y_B_task) ∈ gw := gw_mem (i := 295) (by decide +kernel) (by decide +kernel)
theorem k_296 : (Jvm.Cond.code y_B_task prog_1_method_3_code 6 (Option.none : Option Jvm.ClassFile.FieldType)) ∈ gw := gw_mem (i := 296) (by decide +kernel) (by decide +kernel)
theorem k_297 : (Jvm.Cond.methodLink "TraceBuilder" 50 y_B_refuseBadTask) ∈ gw := gw_mem (i := 297) (by decide +kernel) (by decide +kernel)
theorem k_298 : (Jvm.Cond.static y_B_refuseBadTask) ∈ gw := gw_mem (i := 298) (by decide +kernel) (by decide +kernel)
theorem k_299 : (Jvm.Cond.code y_B_refuseBadTask prog_1_method_16_code 5 (Option.none : Option Jvm.ClassFile.FieldType)) ∈ gw := gw_mem (i := 299) (by decide +kernel) (by decide +kernel)
theorem k_300 : (Jvm.Cond.methodLink "TraceBuilder" 144 y_B_isPart) ∈ gw := gw_mem (i := 300) (by decide +kernel) (by decide +kernel)
theorem k_301 : (Jvm.Cond.static y_B_isPart) ∈ gw := gw_mem (i := 301) (by decide +kernel) (by decide +kernel)
theorem k_302 : (Jvm.Cond.code y_B_isPart prog_1_method_17_code 1 (Option.some Jvm.ClassFile.FieldType.boolean)) ∈ gw := gw_mem (i := 302) (by decide +kernel) (by decide +kernel)
theorem k_303 : (Jvm.Cond.methodLink "TraceBuilder" 148 y_B_partsAmong) ∈ gw := gw_mem (i := 303) (by decide +kernel) (by decide +kernel)
theorem k_304 : (Jvm.Cond.static y_B_partsAmong) ∈ gw := gw_mem (i := 304) (by decide +kernel) (by decide +kernel)
theorem k_305 : (Jvm.Cond.code y_B_partsAmong prog_1_method_18_code 3 (Option.some Jvm.ClassFile.FieldType.int)) ∈ gw := gw_mem (i := 305) (by decide +kernel) (by decide +kernel)
theorem k_306 : (Jvm.Cond.fieldLink "TraceBuilder" 152 "TraceBuilder" "PARTS_NEEDED" "[I") ∈ gw := gw_mem (i := 306) (by decide +kernel) (by decide +kernel)
theorem k_310 : (Jvm.Cond.instanceMethod y_P_isTask) ∈ gw := gw_mem (i := 310) (by decide +kernel) (by decide +kernel)
theorem k_311 : (Jvm.Cond.code y_P_isTask prog_3_method_4_code 7 (Option.some Jvm.ClassFile.FieldType.boolean)) ∈ gw := gw_mem (i := 311) (by decide +kernel) (by decide +kernel)
theorem k_314 : (Jvm.Cond.instanceMethod y_P_setTask) ∈ gw := gw_mem (i := 314) (by decide +kernel) (by decide +kernel)
theorem k_315 : (Jvm.Cond.code y_P_setTask prog_3_method_5_code 6 (Option.none : Option Jvm.ClassFile.FieldType)) ∈ gw := gw_mem (i := 315) (by decide +kernel) (by decide +kernel)
theorem k_317 : (Jvm.Cond.methodLink "TraceBuilderLaw" 75 y_L_remove) ∈ gw := gw_mem (i := 317) (by decide +kernel) (by decide +kernel)
theorem k_318 : (Jvm.Cond.static y_L_remove) ∈ gw := gw_mem (i := 318) (by decide +kernel) (by decide +kernel)
theorem k_319 : (Jvm.Cond.codeWith y_L_remove method_5_code 3 (Option.some Jvm.ClassFile.FieldType.int) [(0, 5, 8, 13), (0, 5, 11, 23)]) ∈ gw := gw_mem (i := 319) (by decide +kernel) (by decide +kernel)
theorem k_320 : (Jvm.Cond.classLink "TraceBuilderLaw" 23 "java/util/NoSuchElementException") ∈ gw := gw_mem (i := 320) (by decide +kernel) (by decide +kernel)
theorem k_321 : (Jvm.Cond.methodLink "TraceBuilderLaw" 19 y_B_remove) ∈ gw := gw_mem (i := 321) (by decide +kernel) (by decide +kernel)
theorem k_322 : (Jvm.Cond.instanceMethod y_B_remove) ∈ gw := gw_mem (i := 322) (by decide +kernel) (by decide +kernel)
theorem k_323 : (Jvm.Cond.selects "TraceBuilder" y_B_remove y_B_remove) ∈ gw := gw_mem (i := 323) (by decide +kernel) (by decide +kernel)
theorem k_324 : (Jvm.Cond.code y_B_remove prog_1_method_4_code 2 (Option.none : Option Jvm.ClassFile.FieldType)) ∈ gw := gw_mem (i := 324) (by decide +kernel) (by decide +kernel)
theorem k_325 : (Jvm.Cond.classLink "TraceBuilder" 66 "java/util/NoSuchElementException") ∈ gw := gw_mem (i := 325) (by decide +kernel) (by decide +kernel)
theorem k_326 : (Jvm.Cond.instantiable "java/util/NoSuchElementException" 6) ∈ gw := gw_mem (i := 326) (by decide +kernel) (by decide +kernel)
theorem k_328 : (Jvm.Cond.selects "java/util/NoSuchElementException" (⟨"java/lang/Throwable", "fillInStackTrace", "(I)Ljava/lang/Throwable;"⟩ : MethodName) (⟨"java/lang/Throwable", "fillInStackTrace", "(I)Ljava/lang/Throwable;"⟩ : MethodName)) ∈ gw := gw_mem (i := 328) (by decide +kernel) (by decide +kernel)
theorem k_329 : (Jvm.Cond.lays "java/util/NoSuchElementException" "java/lang/Throwable" "cause" "Ljava/lang/Throwable;") ∈ gw := gw_mem (i := 329) (by decide +kernel) (by decide +kernel)
theorem k_330 : (Jvm.Cond.lays "java/util/NoSuchElementException" "java/lang/Throwable" "stackTrace" "[Ljava/lang/StackTraceElement;") ∈ gw := gw_mem (i := 330) (by decide +kernel) (by decide +kernel)
theorem k_331 : (Jvm.Cond.lays "java/util/NoSuchElementException" "java/lang/Throwable" "suppressedExceptions" "Ljava/util/List;") ∈ gw := gw_mem (i := 331) (by decide +kernel) (by decide +kernel)
theorem k_332 : (Jvm.Cond.lays "java/util/NoSuchElementException" "java/lang/Throwable" "detailMessage" "Ljava/lang/String;") ∈ gw := gw_mem (i := 332) (by decide +kernel) (by decide +kernel)
theorem k_333 : (Jvm.Cond.lays "java/util/NoSuchElementException" "java/lang/Throwable" "backtrace" "Ljava/lang/Object;") ∈ gw := gw_mem (i := 333) (by decide +kernel) (by decide +kernel)
theorem k_334 : (Jvm.Cond.methodLink "TraceBuilder" 68 (⟨"java/util/NoSuchElementException", "<init>", "()V"⟩ : MethodName)) ∈ gw := gw_mem (i := 334) (by decide +kernel) (by decide +kernel)
theorem k_335 : (Jvm.Cond.instanceMethod (⟨"java/util/NoSuchElementException", "<init>", "()V"⟩ : MethodName)) ∈ gw := gw_mem (i := 335) (by decide +kernel) (by decide +kernel)
theorem k_336 : (Jvm.Cond.code (⟨"java/util/NoSuchElementException", "<init>", "()V"⟩ : MethodName) prog_15_method_1_code 1 (Option.none : Option Jvm.ClassFile.FieldType)) ∈ gw := gw_mem (i := 336) (by decide +kernel) (by decide +kernel)
theorem k_337 : (Jvm.Cond.methodLink "java/util/NoSuchElementException" 1 (⟨"java/lang/RuntimeException", "<init>", "()V"⟩ : MethodName)) ∈ gw := gw_mem (i := 337) (by decide +kernel) (by decide +kernel)
theorem k_338 : (Jvm.Cond.lays "java/util/NoSuchElementException" "java/lang/Throwable" "depth" "I") ∈ gw := gw_mem (i := 338) (by decide +kernel) (by decide +kernel)
theorem k_340 : (Jvm.Cond.methodLink "TraceBuilderLaw" 79 y_L_build) ∈ gw := gw_mem (i := 340) (by decide +kernel) (by decide +kernel)
theorem k_341 : (Jvm.Cond.static y_L_build) ∈ gw := gw_mem (i := 341) (by decide +kernel) (by decide +kernel)
theorem k_342 : (Jvm.Cond.codeWith y_L_build method_6_code 5 (Option.some Jvm.ClassFile.FieldType.int) [(0, 9, 12, 13), (0, 9, 16, 23), (0, 9, 20, 29), (0, 9, 24, 31)]) ∈ gw := gw_mem (i := 342) (by decide +kernel) (by decide +kernel)
theorem k_343 : (Jvm.Cond.classLink "TraceBuilderLaw" 29 "java/lang/ArithmeticException") ∈ gw := gw_mem (i := 343) (by decide +kernel) (by decide +kernel)
theorem k_344 : (Jvm.Cond.classLink "TraceBuilderLaw" 31 "java/lang/IllegalStateException") ∈ gw := gw_mem (i := 344) (by decide +kernel) (by decide +kernel)
theorem k_345 : (Jvm.Cond.methodLink "TraceBuilderLaw" 25 y_B_build) ∈ gw := gw_mem (i := 345) (by decide +kernel) (by decide +kernel)
theorem k_346 : (Jvm.Cond.instanceMethod y_B_build) ∈ gw := gw_mem (i := 346) (by decide +kernel) (by decide +kernel)
theorem k_347 : (Jvm.Cond.selects "TraceBuilder" y_B_build y_B_build) ∈ gw := gw_mem (i := 347) (by decide +kernel) (by decide +kernel)
theorem k_348 : (Jvm.Cond.code y_B_build prog_1_method_5_code 5 (Option.some Jvm.ClassFile.FieldType.long)) ∈ gw := gw_mem (i := 348) (by decide +kernel) (by decide +kernel)
theorem k_349 : (Jvm.Cond.methodLink "TraceBuilder" 69 y_B_refuseBadWorker) ∈ gw := gw_mem (i := 349) (by decide +kernel) (by decide +kernel)
theorem k_350 : (Jvm.Cond.static y_B_refuseBadWorker) ∈ gw := gw_mem (i := 350) (by decide +kernel) (by decide +kernel)
theorem k_351 : (Jvm.Cond.code y_B_refuseBadWorker prog_1_method_15_code 1 (Option.none : Option Jvm.ClassFile.FieldType)) ∈ gw := gw_mem (i := 351) (by decide +kernel) (by decide +kernel)
theorem k_354 : (Jvm.Cond.instanceMethod y_S_result) ∈ gw := gw_mem (i := 354) (by decide +kernel) (by decide +kernel)
theorem k_355 : (Jvm.Cond.code y_S_result prog_4_method_2_code 5 (Option.some Jvm.ClassFile.FieldType.long)) ∈ gw := gw_mem (i := 355) (by decide +kernel) (by decide +kernel)
theorem k_356 : (Jvm.Cond.methodLink "TraceBuilder$Session" 47 y_S_valueOf) ∈ gw := gw_mem (i := 356) (by decide +kernel) (by decide +kernel)
theorem k_358 : (Jvm.Cond.instanceMethod y_S_valueOf) ∈ gw := gw_mem (i := 358) (by decide +kernel) (by decide +kernel)
theorem k_359 : (Jvm.Cond.code y_S_valueOf prog_4_method_5_code 2 (Option.some Jvm.ClassFile.FieldType.long)) ∈ gw := gw_mem (i := 359) (by decide +kernel) (by decide +kernel)
theorem k_360 : (Jvm.Cond.methodLink "TraceBuilder$Session" 57 y_S_fail) ∈ gw := gw_mem (i := 360) (by decide +kernel) (by decide +kernel)
theorem k_362 : (Jvm.Cond.instanceMethod y_S_fail) ∈ gw := gw_mem (i := 362) (by decide +kernel) (by decide +kernel)
theorem k_363 : (Jvm.Cond.code y_S_fail prog_4_method_4_code 2 (Option.some Jvm.ClassFile.FieldType.long)) ∈ gw := gw_mem (i := 363) (by decide +kernel) (by decide +kernel)
theorem k_364 : (Jvm.Cond.methodLink "TraceBuilder$Session" 66 y_S_finish) ∈ gw := gw_mem (i := 364) (by decide +kernel) (by decide +kernel)
theorem k_366 : (Jvm.Cond.instanceMethod y_S_finish) ∈ gw := gw_mem (i := 366) (by decide +kernel) (by decide +kernel)
theorem k_367 : (Jvm.Cond.code y_S_finish prog_4_method_6_code 4 (Option.some Jvm.ClassFile.FieldType.long)) ∈ gw := gw_mem (i := 367) (by decide +kernel) (by decide +kernel)
theorem k_368 : (Jvm.Cond.methodLink "TraceBuilder$Session" 70 y_S_taskValue) ∈ gw := gw_mem (i := 368) (by decide +kernel) (by decide +kernel)
theorem k_370 : (Jvm.Cond.instanceMethod y_S_taskValue) ∈ gw := gw_mem (i := 370) (by decide +kernel) (by decide +kernel)
theorem k_371 : (Jvm.Cond.code y_S_taskValue prog_4_method_7_code 4 (Option.some Jvm.ClassFile.FieldType.long)) ∈ gw := gw_mem (i := 371) (by decide +kernel) (by decide +kernel)
theorem k_373 : (Jvm.Cond.methodLink "TraceBuilder$Session" 77 y_S_agrees) ∈ gw := gw_mem (i := 373) (by decide +kernel) (by decide +kernel)
theorem k_375 : (Jvm.Cond.instanceMethod y_S_agrees) ∈ gw := gw_mem (i := 375) (by decide +kernel) (by decide +kernel)
theorem k_376 : (Jvm.Cond.code y_S_agrees prog_4_method_8_code 3 (Option.some Jvm.ClassFile.FieldType.boolean)) ∈ gw := gw_mem (i := 376) (by decide +kernel) (by decide +kernel)
theorem k_377 : (Jvm.Cond.methodLink "TraceBuilder$Session" 93 y_S_hasFailed) ∈ gw := gw_mem (i := 377) (by decide +kernel) (by decide +kernel)
theorem k_379 : (Jvm.Cond.instanceMethod y_S_hasFailed) ∈ gw := gw_mem (i := 379) (by decide +kernel) (by decide +kernel)
theorem k_380 : (Jvm.Cond.code y_S_hasFailed prog_4_method_3_code 1 (Option.some Jvm.ClassFile.FieldType.boolean)) ∈ gw := gw_mem (i := 380) (by decide +kernel) (by decide +kernel)
theorem k_381 : (Jvm.Cond.methodLink "TraceBuilder$Session" 85 y_S_agreeingEntry) ∈ gw := gw_mem (i := 381) (by decide +kernel) (by decide +kernel)
theorem k_383 : (Jvm.Cond.instanceMethod y_S_agreeingEntry) ∈ gw := gw_mem (i := 383) (by decide +kernel) (by decide +kernel)
theorem k_384 : (Jvm.Cond.code y_S_agreeingEntry prog_4_method_9_code 6 (Option.some (Jvm.ClassFile.FieldType.object "TraceBuilder$Trace"))) ∈ gw := gw_mem (i := 384) (by decide +kernel) (by decide +kernel)
theorem k_387 : (Jvm.Cond.instanceMethod y_M_copyEntriesOf) ∈ gw := gw_mem (i := 387) (by decide +kernel) (by decide +kernel)
theorem k_388 : (Jvm.Cond.code y_M_copyEntriesOf prog_2_method_12_code 7 (Option.some Jvm.ClassFile.FieldType.int)) ∈ gw := gw_mem (i := 388) (by decide +kernel) (by decide +kernel)
theorem k_391 : (Jvm.Cond.instanceMethod y_M_give) ∈ gw := gw_mem (i := 391) (by decide +kernel) (by decide +kernel)
theorem k_392 : (Jvm.Cond.code y_M_give prog_2_method_4_code 3 (Option.none : Option Jvm.ClassFile.FieldType)) ∈ gw := gw_mem (i := 392) (by decide +kernel) (by decide +kernel)
theorem k_393 : (Jvm.Cond.methodLink "TraceBuilder$Session" 97 y_S_runTask) ∈ gw := gw_mem (i := 393) (by decide +kernel) (by decide +kernel)
theorem k_395 : (Jvm.Cond.instanceMethod y_S_runTask) ∈ gw := gw_mem (i := 395) (by decide +kernel) (by decide +kernel)
theorem k_396 : (Jvm.Cond.code y_S_runTask prog_4_method_10_code 3 (Option.some Jvm.ClassFile.FieldType.long)) ∈ gw := gw_mem (i := 396) (by decide +kernel) (by decide +kernel)
theorem k_397 : (Jvm.Cond.instantiable "TraceBuilder$Trace" 5) ∈ gw := gw_mem (i := 397) (by decide +kernel) (by decide +kernel)
theorem k_399 : (Jvm.Cond.instanceMethod y_T_init) ∈ gw := gw_mem (i := 399) (by decide +kernel) (by decide +kernel)
theorem k_400 : (Jvm.Cond.code y_T_init prog_5_method_1_code 2 (Option.none : Option Jvm.ClassFile.FieldType)) ∈ gw := gw_mem (i := 400) (by decide +kernel) (by decide +kernel)
theorem k_401 : (Jvm.Cond.methodLink "TraceBuilder$Trace" 3 objectInit) ∈ gw := gw_mem (i := 401) (by decide +kernel) (by decide +kernel)
theorem k_402 : (Jvm.Cond.fieldLink "TraceBuilder$Trace" 19 "TraceBuilder$Trace" "owner" "I") ∈ gw := gw_mem (i := 402) (by decide +kernel) (by decide +kernel)
theorem k_406 : (Jvm.Cond.fieldLink "TraceBuilder$Trace" 9 "TraceBuilder$Trace" "keys" "[I") ∈ gw := gw_mem (i := 406) (by decide +kernel) (by decide +kernel)
theorem k_409 : (Jvm.Cond.fieldLink "TraceBuilder$Trace" 15 "TraceBuilder$Trace" "values" "[J") ∈ gw := gw_mem (i := 409) (by decide +kernel) (by decide +kernel)
theorem k_412 : (Jvm.Cond.fieldLink "TraceBuilder$Trace" 23 "TraceBuilder$Trace" "size" "I") ∈ gw := gw_mem (i := 412) (by decide +kernel) (by decide +kernel)
theorem k_417 : (Jvm.Cond.laysFinal "TraceBuilder$Trace" "TraceBuilder$Trace" "owner" "I") ∈ gw := gw_mem (i := 417) (by decide +kernel) (by decide +kernel)
theorem k_419 : (Jvm.Cond.laysFinal "TraceBuilder$Trace" "TraceBuilder$Trace" "keys" "[I") ∈ gw := gw_mem (i := 419) (by decide +kernel) (by decide +kernel)
theorem k_421 : (Jvm.Cond.laysFinal "TraceBuilder$Trace" "TraceBuilder$Trace" "values" "[J") ∈ gw := gw_mem (i := 421) (by decide +kernel) (by decide +kernel)
theorem k_423 : (Jvm.Cond.lays "TraceBuilder$Trace" "TraceBuilder$Trace" "size" "I") ∈ gw := gw_mem (i := 423) (by decide +kernel) (by decide +kernel)
end
section
theorem k_425 : (Jvm.Cond.lays "TraceBuilder$Trace" "TraceBuilder$Trace" "result" "J") ∈ gw := gw_mem (i := 425) (by decide +kernel) (by decide +kernel)
theorem k_428 : (Jvm.Cond.methodLink "TraceBuilder$Session" 114 y_S_ruleValue) ∈ gw := gw_mem (i := 428) (by decide +kernel) (by decide +kernel)
theorem k_430 : (Jvm.Cond.instanceMethod y_S_ruleValue) ∈ gw := gw_mem (i := 430) (by decide +kernel) (by decide +kernel)
theorem k_431 : (Jvm.Cond.code y_S_ruleValue prog_4_method_11_code 2 (Option.some Jvm.ClassFile.FieldType.long)) ∈ gw := gw_mem (i := 431) (by decide +kernel) (by decide +kernel)
theorem k_432 : (Jvm.Cond.methodLink "TraceBuilder$Session" 128 y_S_sum) ∈ gw := gw_mem (i := 432) (by decide +kernel) (by decide +kernel)
theorem k_434 : (Jvm.Cond.instanceMethod y_S_sum) ∈ gw := gw_mem (i := 434) (by decide +kernel) (by decide +kernel)
theorem k_435 : (Jvm.Cond.code y_S_sum prog_4_method_14_code 5 (Option.some Jvm.ClassFile.FieldType.long)) ∈ gw := gw_mem (i := 435) (by decide +kernel) (by decide +kernel)
theorem k_436 : (Jvm.Cond.methodLink "TraceBuilder$Session" 134 y_S_askPart) ∈ gw := gw_mem (i := 436) (by decide +kernel) (by decide +kernel)
theorem k_438 : (Jvm.Cond.instanceMethod y_S_askPart) ∈ gw := gw_mem (i := 438) (by decide +kernel) (by decide +kernel)
theorem k_439 : (Jvm.Cond.code y_S_askPart prog_4_method_12_code 3 (Option.some Jvm.ClassFile.FieldType.long)) ∈ gw := gw_mem (i := 439) (by decide +kernel) (by decide +kernel)
theorem k_440 : (Jvm.Cond.methodLink "TraceBuilder$Session" 149 y_S_ask) ∈ gw := gw_mem (i := 440) (by decide +kernel) (by decide +kernel)
theorem k_442 : (Jvm.Cond.instanceMethod y_S_ask) ∈ gw := gw_mem (i := 442) (by decide +kernel) (by decide +kernel)
theorem k_443 : (Jvm.Cond.code y_S_ask prog_4_method_13_code 5 (Option.some Jvm.ClassFile.FieldType.long)) ∈ gw := gw_mem (i := 443) (by decide +kernel) (by decide +kernel)
theorem k_446 : (Jvm.Cond.instanceMethod y_T_note) ∈ gw := gw_mem (i := 446) (by decide +kernel) (by decide +kernel)
theorem k_447 : (Jvm.Cond.code y_T_note prog_5_method_2_code 4 (Option.none : Option Jvm.ClassFile.FieldType)) ∈ gw := gw_mem (i := 447) (by decide +kernel) (by decide +kernel)
theorem k_448 : (Jvm.Cond.methodLink "TraceBuilder$Trace" 26 y_T_has) ∈ gw := gw_mem (i := 448) (by decide +kernel) (by decide +kernel)
theorem k_450 : (Jvm.Cond.instanceMethod y_T_has) ∈ gw := gw_mem (i := 450) (by decide +kernel) (by decide +kernel)
theorem k_451 : (Jvm.Cond.code y_T_has prog_5_method_3_code 3 (Option.some Jvm.ClassFile.FieldType.boolean)) ∈ gw := gw_mem (i := 451) (by decide +kernel) (by decide +kernel)
theorem k_452 : (Jvm.Cond.methodLink "TraceBuilder$Session" 131 y_S_product) ∈ gw := gw_mem (i := 452) (by decide +kernel) (by decide +kernel)
theorem k_454 : (Jvm.Cond.instanceMethod y_S_product) ∈ gw := gw_mem (i := 454) (by decide +kernel) (by decide +kernel)
theorem k_455 : (Jvm.Cond.code y_S_product prog_4_method_15_code 5 (Option.some Jvm.ClassFile.FieldType.long)) ∈ gw := gw_mem (i := 455) (by decide +kernel) (by decide +kernel)
theorem k_456 : (Jvm.Cond.methodLink "TraceBuilder$Session" 138 y_S_quotient) ∈ gw := gw_mem (i := 456) (by decide +kernel) (by decide +kernel)
theorem k_458 : (Jvm.Cond.instanceMethod y_S_quotient) ∈ gw := gw_mem (i := 458) (by decide +kernel) (by decide +kernel)
theorem k_459 : (Jvm.Cond.code y_S_quotient prog_4_method_16_code 6 (Option.some Jvm.ClassFile.FieldType.long)) ∈ gw := gw_mem (i := 459) (by decide +kernel) (by decide +kernel)
theorem k_460 : (Jvm.Cond.constantLong "TraceBuilder$Session" 141 (12 : Int64)) ∈ gw := gw_mem (i := 460) (by decide +kernel) (by decide +kernel)
theorem k_461 : (Jvm.Cond.methodLink "TraceBuilder$Session" 143 (⟨"java/lang/Math", "floorMod", "(JJ)J"⟩ : MethodName)) ∈ gw := gw_mem (i := 461) (by decide +kernel) (by decide +kernel)
theorem k_462 : (Jvm.Cond.static (⟨"java/lang/Math", "floorMod", "(JJ)J"⟩ : MethodName)) ∈ gw := gw_mem (i := 462) (by decide +kernel) (by decide +kernel)
theorem k_463 : (Jvm.Cond.code (⟨"java/lang/Math", "floorMod", "(JJ)J"⟩ : MethodName) prog_12_method_52_code 6 (Option.some Jvm.ClassFile.FieldType.long)) ∈ gw := gw_mem (i := 463) (by decide +kernel) (by decide +kernel)
theorem k_464 : (Jvm.Cond.methodLink "TraceBuilder$Session" 152 y_S_rest) ∈ gw := gw_mem (i := 464) (by decide +kernel) (by decide +kernel)
theorem k_466 : (Jvm.Cond.instanceMethod y_S_rest) ∈ gw := gw_mem (i := 466) (by decide +kernel) (by decide +kernel)
theorem k_467 : (Jvm.Cond.code y_S_rest prog_4_method_17_code 6 (Option.some Jvm.ClassFile.FieldType.long)) ∈ gw := gw_mem (i := 467) (by decide +kernel) (by decide +kernel)
theorem k_468 : (Jvm.Cond.methodLink "TraceBuilder$Session" 155 y_S_greatest) ∈ gw := gw_mem (i := 468) (by decide +kernel) (by decide +kernel)
theorem k_470 : (Jvm.Cond.instanceMethod y_S_greatest) ∈ gw := gw_mem (i := 470) (by decide +kernel) (by decide +kernel)
theorem k_471 : (Jvm.Cond.code y_S_greatest prog_4_method_18_code 5 (Option.some Jvm.ClassFile.FieldType.long)) ∈ gw := gw_mem (i := 471) (by decide +kernel) (by decide +kernel)
theorem k_472 : (Jvm.Cond.methodLink "TraceBuilder$Session" 177 (⟨"java/lang/Math", "max", "(JJ)J"⟩ : MethodName)) ∈ gw := gw_mem (i := 472) (by decide +kernel) (by decide +kernel)
theorem k_473 : (Jvm.Cond.static (⟨"java/lang/Math", "max", "(JJ)J"⟩ : MethodName)) ∈ gw := gw_mem (i := 473) (by decide +kernel) (by decide +kernel)
theorem k_474 : (Jvm.Cond.code (⟨"java/lang/Math", "max", "(JJ)J"⟩ : MethodName) prog_12_method_66_code 4 (Option.some Jvm.ClassFile.FieldType.long)) ∈ gw := gw_mem (i := 474) (by decide +kernel) (by decide +kernel)
theorem k_475 : (Jvm.Cond.methodLink "TraceBuilder$Session" 158 y_S_until) ∈ gw := gw_mem (i := 475) (by decide +kernel) (by decide +kernel)
theorem k_477 : (Jvm.Cond.instanceMethod y_S_until) ∈ gw := gw_mem (i := 477) (by decide +kernel) (by decide +kernel)
theorem k_478 : (Jvm.Cond.code y_S_until prog_4_method_19_code 6 (Option.some Jvm.ClassFile.FieldType.long)) ∈ gw := gw_mem (i := 478) (by decide +kernel) (by decide +kernel)
theorem k_479 : (Jvm.Cond.constantLong "TraceBuilder$Session" 180 (4 : Int64)) ∈ gw := gw_mem (i := 479) (by decide +kernel) (by decide +kernel)
theorem k_480 : (Jvm.Cond.constantLong "TraceBuilder$Session" 161 (7 : Int64)) ∈ gw := gw_mem (i := 480) (by decide +kernel) (by decide +kernel)
theorem k_481 : (Jvm.Cond.methodLink "TraceBuilder$Session" 163 y_S_limit) ∈ gw := gw_mem (i := 481) (by decide +kernel) (by decide +kernel)
theorem k_483 : (Jvm.Cond.instanceMethod y_S_limit) ∈ gw := gw_mem (i := 483) (by decide +kernel) (by decide +kernel)
theorem k_484 : (Jvm.Cond.code y_S_limit prog_4_method_20_code 6 (Option.some Jvm.ClassFile.FieldType.long)) ∈ gw := gw_mem (i := 484) (by decide +kernel) (by decide +kernel)
theorem k_487 : (Jvm.Cond.instanceMethod y_M_append) ∈ gw := gw_mem (i := 487) (by decide +kernel) (by decide +kernel)
theorem k_488 : (Jvm.Cond.code y_M_append prog_2_method_8_code 2 (Option.none : Option Jvm.ClassFile.FieldType)) ∈ gw := gw_mem (i := 488) (by decide +kernel) (by decide +kernel)
theorem k_489 : (Jvm.Cond.methodLink "TraceBuilder$Memory" 39 y_M_cutCacheTo) ∈ gw := gw_mem (i := 489) (by decide +kernel) (by decide +kernel)
theorem k_491 : (Jvm.Cond.instanceMethod y_M_cutCacheTo) ∈ gw := gw_mem (i := 491) (by decide +kernel) (by decide +kernel)
theorem k_492 : (Jvm.Cond.code y_M_cutCacheTo prog_2_method_9_code 4 (Option.some Jvm.ClassFile.FieldType.int)) ∈ gw := gw_mem (i := 492) (by decide +kernel) (by decide +kernel)
theorem k_494 : (Jvm.Cond.methodLink "TraceBuilder" 87 y_B_throwFailure) ∈ gw := gw_mem (i := 494) (by decide +kernel) (by decide +kernel)
theorem k_495 : (Jvm.Cond.static y_B_throwFailure) ∈ gw := gw_mem (i := 495) (by decide +kernel) (by decide +kernel)
theorem k_496 : (Jvm.Cond.code y_B_throwFailure prog_1_method_19_code 1 (Option.none : Option Jvm.ClassFile.FieldType)) ∈ gw := gw_mem (i := 496) (by decide +kernel) (by decide +kernel)
theorem k_497 : (Jvm.Cond.classLink "TraceBuilder" 155 "java/lang/ArithmeticException") ∈ gw := gw_mem (i := 497) (by decide +kernel) (by decide +kernel)
theorem k_498 : (Jvm.Cond.instantiable "java/lang/ArithmeticException" 6) ∈ gw := gw_mem (i := 498) (by decide +kernel) (by decide +kernel)
theorem k_500 : (Jvm.Cond.selects "java/lang/ArithmeticException" (⟨"java/lang/Throwable", "fillInStackTrace", "(I)Ljava/lang/Throwable;"⟩ : MethodName) (⟨"java/lang/Throwable", "fillInStackTrace", "(I)Ljava/lang/Throwable;"⟩ : MethodName)) ∈ gw := gw_mem (i := 500) (by decide +kernel) (by decide +kernel)
theorem k_501 : (Jvm.Cond.lays "java/lang/ArithmeticException" "java/lang/Throwable" "cause" "Ljava/lang/Throwable;") ∈ gw := gw_mem (i := 501) (by decide +kernel) (by decide +kernel)
theorem k_502 : (Jvm.Cond.lays "java/lang/ArithmeticException" "java/lang/Throwable" "stackTrace" "[Ljava/lang/StackTraceElement;") ∈ gw := gw_mem (i := 502) (by decide +kernel) (by decide +kernel)
theorem k_503 : (Jvm.Cond.lays "java/lang/ArithmeticException" "java/lang/Throwable" "suppressedExceptions" "Ljava/util/List;") ∈ gw := gw_mem (i := 503) (by decide +kernel) (by decide +kernel)
theorem k_504 : (Jvm.Cond.lays "java/lang/ArithmeticException" "java/lang/Throwable" "detailMessage" "Ljava/lang/String;") ∈ gw := gw_mem (i := 504) (by decide +kernel) (by decide +kernel)
theorem k_505 : (Jvm.Cond.lays "java/lang/ArithmeticException" "java/lang/Throwable" "backtrace" "Ljava/lang/Object;") ∈ gw := gw_mem (i := 505) (by decide +kernel) (by decide +kernel)
theorem k_506 : (Jvm.Cond.methodLink "TraceBuilder" 157 (⟨"java/lang/ArithmeticException", "<init>", "()V"⟩ : MethodName)) ∈ gw := gw_mem (i := 506) (by decide +kernel) (by decide +kernel)
theorem k_507 : (Jvm.Cond.instanceMethod (⟨"java/lang/ArithmeticException", "<init>", "()V"⟩ : MethodName)) ∈ gw := gw_mem (i := 507) (by decide +kernel) (by decide +kernel)
theorem k_508 : (Jvm.Cond.code (⟨"java/lang/ArithmeticException", "<init>", "()V"⟩ : MethodName) prog_8_method_1_code 1 (Option.none : Option Jvm.ClassFile.FieldType)) ∈ gw := gw_mem (i := 508) (by decide +kernel) (by decide +kernel)
theorem k_509 : (Jvm.Cond.methodLink "java/lang/ArithmeticException" 1 (⟨"java/lang/RuntimeException", "<init>", "()V"⟩ : MethodName)) ∈ gw := gw_mem (i := 509) (by decide +kernel) (by decide +kernel)
theorem k_510 : (Jvm.Cond.lays "java/lang/ArithmeticException" "java/lang/Throwable" "depth" "I") ∈ gw := gw_mem (i := 510) (by decide +kernel) (by decide +kernel)
theorem k_512 : (Jvm.Cond.classLink "TraceBuilder" 158 "java/lang/IllegalStateException") ∈ gw := gw_mem (i := 512) (by decide +kernel) (by decide +kernel)
theorem k_513 : (Jvm.Cond.instantiable "java/lang/IllegalStateException" 6) ∈ gw := gw_mem (i := 513) (by decide +kernel) (by decide +kernel)
theorem k_515 : (Jvm.Cond.selects "java/lang/IllegalStateException" (⟨"java/lang/Throwable", "fillInStackTrace", "(I)Ljava/lang/Throwable;"⟩ : MethodName) (⟨"java/lang/Throwable", "fillInStackTrace", "(I)Ljava/lang/Throwable;"⟩ : MethodName)) ∈ gw := gw_mem (i := 515) (by decide +kernel) (by decide +kernel)
theorem k_516 : (Jvm.Cond.lays "java/lang/IllegalStateException" "java/lang/Throwable" "cause" "Ljava/lang/Throwable;") ∈ gw := gw_mem (i := 516) (by decide +kernel) (by decide +kernel)
theorem k_517 : (Jvm.Cond.lays "java/lang/IllegalStateException" "java/lang/Throwable" "stackTrace" "[Ljava/lang/StackTraceElement;") ∈ gw := gw_mem (i := 517) (by decide +kernel) (by decide +kernel)
theorem k_518 : (Jvm.Cond.lays "java/lang/IllegalStateException" "java/lang/Throwable" "suppressedExceptions" "Ljava/util/List;") ∈ gw := gw_mem (i := 518) (by decide +kernel) (by decide +kernel)
theorem k_519 : (Jvm.Cond.lays "java/lang/IllegalStateException" "java/lang/Throwable" "detailMessage" "Ljava/lang/String;") ∈ gw := gw_mem (i := 519) (by decide +kernel) (by decide +kernel)
theorem k_520 : (Jvm.Cond.lays "java/lang/IllegalStateException" "java/lang/Throwable" "backtrace" "Ljava/lang/Object;") ∈ gw := gw_mem (i := 520) (by decide +kernel) (by decide +kernel)
theorem k_521 : (Jvm.Cond.methodLink "TraceBuilder" 160 (⟨"java/lang/IllegalStateException", "<init>", "()V"⟩ : MethodName)) ∈ gw := gw_mem (i := 521) (by decide +kernel) (by decide +kernel)
theorem k_522 : (Jvm.Cond.instanceMethod (⟨"java/lang/IllegalStateException", "<init>", "()V"⟩ : MethodName)) ∈ gw := gw_mem (i := 522) (by decide +kernel) (by decide +kernel)
theorem k_523 : (Jvm.Cond.code (⟨"java/lang/IllegalStateException", "<init>", "()V"⟩ : MethodName) prog_11_method_1_code 1 (Option.none : Option Jvm.ClassFile.FieldType)) ∈ gw := gw_mem (i := 523) (by decide +kernel) (by decide +kernel)
theorem k_524 : (Jvm.Cond.methodLink "java/lang/IllegalStateException" 1 (⟨"java/lang/RuntimeException", "<init>", "()V"⟩ : MethodName)) ∈ gw := gw_mem (i := 524) (by decide +kernel) (by decide +kernel)
theorem k_525 : (Jvm.Cond.lays "java/lang/IllegalStateException" "java/lang/Throwable" "depth" "I") ∈ gw := gw_mem (i := 525) (by decide +kernel) (by decide +kernel)
theorem k_527 : (Jvm.Cond.methodLink "TraceBuilderLaw" 83 y_L_forget) ∈ gw := gw_mem (i := 527) (by decide +kernel) (by decide +kernel)
theorem k_528 : (Jvm.Cond.static y_L_forget) ∈ gw := gw_mem (i := 528) (by decide +kernel) (by decide +kernel)
theorem k_529 : (Jvm.Cond.codeWith y_L_forget method_7_code 4 (Option.some Jvm.ClassFile.FieldType.int) [(0, 9, 12, 13)]) ∈ gw := gw_mem (i := 529) (by decide +kernel) (by decide +kernel)
theorem k_530 : (Jvm.Cond.methodLink "TraceBuilderLaw" 33 y_B_forget) ∈ gw := gw_mem (i := 530) (by decide +kernel) (by decide +kernel)
theorem k_531 : (Jvm.Cond.instanceMethod y_B_forget) ∈ gw := gw_mem (i := 531) (by decide +kernel) (by decide +kernel)
theorem k_532 : (Jvm.Cond.selects "TraceBuilder" y_B_forget y_B_forget) ∈ gw := gw_mem (i := 532) (by decide +kernel) (by decide +kernel)
theorem k_533 : (Jvm.Cond.code y_B_forget prog_1_method_6_code 2 (Option.some Jvm.ClassFile.FieldType.int)) ∈ gw := gw_mem (i := 533) (by decide +kernel) (by decide +kernel)
theorem k_536 : (Jvm.Cond.instanceMethod y_M_dropTracesOf) ∈ gw := gw_mem (i := 536) (by decide +kernel) (by decide +kernel)
theorem k_537 : (Jvm.Cond.code y_M_dropTracesOf prog_2_method_6_code 4 (Option.some Jvm.ClassFile.FieldType.int)) ∈ gw := gw_mem (i := 537) (by decide +kernel) (by decide +kernel)
theorem k_538 : (Jvm.Cond.methodLink "TraceBuilder$Memory" 35 y_M_tracesOf) ∈ gw := gw_mem (i := 538) (by decide +kernel) (by decide +kernel)
theorem k_539 : (Jvm.Cond.methodLink "TraceBuilderLaw" 87 y_L_shrink) ∈ gw := gw_mem (i := 539) (by decide +kernel) (by decide +kernel)
theorem k_540 : (Jvm.Cond.static y_L_shrink) ∈ gw := gw_mem (i := 540) (by decide +kernel) (by decide +kernel)
theorem k_541 : (Jvm.Cond.codeWith y_L_shrink method_8_code 4 (Option.some Jvm.ClassFile.FieldType.int) [(0, 9, 12, 13)]) ∈ gw := gw_mem (i := 541) (by decide +kernel) (by decide +kernel)
theorem k_542 : (Jvm.Cond.methodLink "TraceBuilderLaw" 37 y_B_shrink) ∈ gw := gw_mem (i := 542) (by decide +kernel) (by decide +kernel)
theorem k_543 : (Jvm.Cond.instanceMethod y_B_shrink) ∈ gw := gw_mem (i := 543) (by decide +kernel) (by decide +kernel)
theorem k_544 : (Jvm.Cond.selects "TraceBuilder" y_B_shrink y_B_shrink) ∈ gw := gw_mem (i := 544) (by decide +kernel) (by decide +kernel)
theorem k_545 : (Jvm.Cond.code y_B_shrink prog_1_method_7_code 2 (Option.some Jvm.ClassFile.FieldType.int)) ∈ gw := gw_mem (i := 545) (by decide +kernel) (by decide +kernel)
theorem k_547 : (Jvm.Cond.methodLink "TraceBuilderLaw" 90 y_L_trace) ∈ gw := gw_mem (i := 547) (by decide +kernel) (by decide +kernel)
theorem k_548 : (Jvm.Cond.static y_L_trace) ∈ gw := gw_mem (i := 548) (by decide +kernel) (by decide +kernel)
theorem k_549 : (Jvm.Cond.codeWith y_L_trace method_9_code 6 (Option.some Jvm.ClassFile.FieldType.int) [(0, 12, 15, 13), (0, 12, 19, 23)]) ∈ gw := gw_mem (i := 549) (by decide +kernel) (by decide +kernel)
theorem k_550 : (Jvm.Cond.methodLink "TraceBuilderLaw" 40 y_B_trace) ∈ gw := gw_mem (i := 550) (by decide +kernel) (by decide +kernel)
theorem k_551 : (Jvm.Cond.instanceMethod y_B_trace) ∈ gw := gw_mem (i := 551) (by decide +kernel) (by decide +kernel)
theorem k_552 : (Jvm.Cond.selects "TraceBuilder" y_B_trace y_B_trace) ∈ gw := gw_mem (i := 552) (by decide +kernel) (by decide +kernel)
theorem k_553 : (Jvm.Cond.code y_B_trace prog_1_method_8_code 5 (Option.some Jvm.ClassFile.FieldType.int)) ∈ gw := gw_mem (i := 553) (by decide +kernel) (by decide +kernel)
theorem k_554 : (Jvm.Cond.methodLink "TraceBuilder" 100 y_B_traceWith) ∈ gw := gw_mem (i := 554) (by decide +kernel) (by decide +kernel)
theorem k_556 : (Jvm.Cond.instanceMethod y_B_traceWith) ∈ gw := gw_mem (i := 556) (by decide +kernel) (by decide +kernel)
theorem k_557 : (Jvm.Cond.code y_B_traceWith prog_1_method_13_code 5 (Option.some (Jvm.ClassFile.FieldType.object "TraceBuilder$Trace"))) ∈ gw := gw_mem (i := 557) (by decide +kernel) (by decide +kernel)
theorem k_559 : (Jvm.Cond.methodLink "TraceBuilderLaw" 94 y_L_traced) ∈ gw := gw_mem (i := 559) (by decide +kernel) (by decide +kernel)
theorem k_560 : (Jvm.Cond.static y_L_traced) ∈ gw := gw_mem (i := 560) (by decide +kernel) (by decide +kernel)
theorem k_561 : (Jvm.Cond.codeWith y_L_traced method_10_code 6 (Option.some Jvm.ClassFile.FieldType.int) [(0, 11, 14, 13), (0, 11, 18, 23)]) ∈ gw := gw_mem (i := 561) (by decide +kernel) (by decide +kernel)
theorem k_562 : (Jvm.Cond.methodLink "TraceBuilderLaw" 44 y_B_traced) ∈ gw := gw_mem (i := 562) (by decide +kernel) (by decide +kernel)
theorem k_563 : (Jvm.Cond.instanceMethod y_B_traced) ∈ gw := gw_mem (i := 563) (by decide +kernel) (by decide +kernel)
theorem k_564 : (Jvm.Cond.selects "TraceBuilder" y_B_traced y_B_traced) ∈ gw := gw_mem (i := 564) (by decide +kernel) (by decide +kernel)
theorem k_565 : (Jvm.Cond.code y_B_traced prog_1_method_9_code 5 (Option.some Jvm.ClassFile.FieldType.long)) ∈ gw := gw_mem (i := 565) (by decide +kernel) (by decide +kernel)
theorem k_566 : (Jvm.Cond.methodLink "TraceBuilderLaw" 97 y_L_stale) ∈ gw := gw_mem (i := 566) (by decide +kernel) (by decide +kernel)
theorem k_567 : (Jvm.Cond.static y_L_stale) ∈ gw := gw_mem (i := 567) (by decide +kernel) (by decide +kernel)
theorem k_568 : (Jvm.Cond.codeWith y_L_stale method_11_code 5 (Option.some Jvm.ClassFile.FieldType.int) [(0, 17, 20, 13), (0, 17, 24, 23), (0, 17, 28, 29), (0, 17, 32, 31)]) ∈ gw := gw_mem (i := 568) (by decide +kernel) (by decide +kernel)
theorem k_569 : (Jvm.Cond.methodLink "TraceBuilderLaw" 48 y_B_stale) ∈ gw := gw_mem (i := 569) (by decide +kernel) (by decide +kernel)
theorem k_570 : (Jvm.Cond.instanceMethod y_B_stale) ∈ gw := gw_mem (i := 570) (by decide +kernel) (by decide +kernel)
theorem k_571 : (Jvm.Cond.selects "TraceBuilder" y_B_stale y_B_stale) ∈ gw := gw_mem (i := 571) (by decide +kernel) (by decide +kernel)
theorem k_572 : (Jvm.Cond.code y_B_stale prog_1_method_10_code 3 (Option.some Jvm.ClassFile.FieldType.boolean)) ∈ gw := gw_mem (i := 572) (by decide +kernel) (by decide +kernel)
theorem k_575 : (Jvm.Cond.instanceMethod y_M_becomeCopyOf) ∈ gw := gw_mem (i := 575) (by decide +kernel) (by decide +kernel)
theorem k_576 : (Jvm.Cond.code y_M_becomeCopyOf prog_2_method_2_code 3 (Option.none : Option Jvm.ClassFile.FieldType)) ∈ gw := gw_mem (i := 576) (by decide +kernel) (by decide +kernel)
theorem k_577 : (Jvm.Cond.methodLink "TraceBuilderLaw" 100 y_L_cached) ∈ gw := gw_mem (i := 577) (by decide +kernel) (by decide +kernel)
theorem k_578 : (Jvm.Cond.static y_L_cached) ∈ gw := gw_mem (i := 578) (by decide +kernel) (by decide +kernel)
theorem k_579 : (Jvm.Cond.codeWith y_L_cached method_12_code 4 (Option.some Jvm.ClassFile.FieldType.int) [(0, 9, 12, 23)]) ∈ gw := gw_mem (i := 579) (by decide +kernel) (by decide +kernel)
theorem k_580 : (Jvm.Cond.methodLink "TraceBuilderLaw" 52 y_B_cached) ∈ gw := gw_mem (i := 580) (by decide +kernel) (by decide +kernel)
theorem k_581 : (Jvm.Cond.instanceMethod y_B_cached) ∈ gw := gw_mem (i := 581) (by decide +kernel) (by decide +kernel)
theorem k_582 : (Jvm.Cond.selects "TraceBuilder" y_B_cached y_B_cached) ∈ gw := gw_mem (i := 582) (by decide +kernel) (by decide +kernel)
theorem k_583 : (Jvm.Cond.code y_B_cached prog_1_method_11_code 3 (Option.some Jvm.ClassFile.FieldType.int)) ∈ gw := gw_mem (i := 583) (by decide +kernel) (by decide +kernel)
theorem k_585 : (Jvm.Cond.classLink "TraceBuilderLaw" 56 "TraceBuilderModel") ∈ gw := gw_mem (i := 585) (by decide +kernel) (by decide +kernel)
theorem k_586 : (Jvm.Cond.instantiable "TraceBuilderModel" 36) ∈ gw := gw_mem (i := 586) (by decide +kernel) (by decide +kernel)
theorem k_587 : (Jvm.Cond.methodLink "TraceBuilderLaw" 58 y_D_init) ∈ gw := gw_mem (i := 587) (by decide +kernel) (by decide +kernel)
theorem k_588 : (Jvm.Cond.instanceMethod y_D_init) ∈ gw := gw_mem (i := 588) (by decide +kernel) (by decide +kernel)
theorem k_589 : (Jvm.Cond.code y_D_init prog_7_method_1_code 2 (Option.none : Option Jvm.ClassFile.FieldType)) ∈ gw := gw_mem (i := 589) (by decide +kernel) (by decide +kernel)
theorem k_590 : (Jvm.Cond.methodLink "TraceBuilderModel" 1 objectInit) ∈ gw := gw_mem (i := 590) (by decide +kernel) (by decide +kernel)
theorem k_591 : (Jvm.Cond.fieldLink "TraceBuilderModel" 7 "TraceBuilderModel" "sort" "[I") ∈ gw := gw_mem (i := 591) (by decide +kernel) (by decide +kernel)
theorem k_592 : (Jvm.Cond.fieldLink "TraceBuilderModel" 13 "TraceBuilderModel" "rule" "[I") ∈ gw := gw_mem (i := 592) (by decide +kernel) (by decide +kernel)
theorem k_593 : (Jvm.Cond.fieldLink "TraceBuilderModel" 16 "TraceBuilderModel" "parts" "[I") ∈ gw := gw_mem (i := 593) (by decide +kernel) (by decide +kernel)
theorem k_594 : (Jvm.Cond.fieldLink "TraceBuilderModel" 19 "TraceBuilderModel" "input" "[J") ∈ gw := gw_mem (i := 594) (by decide +kernel) (by decide +kernel)
theorem k_595 : (Jvm.Cond.fieldLink "TraceBuilderModel" 23 "TraceBuilderModel" "size" "[I") ∈ gw := gw_mem (i := 595) (by decide +kernel) (by decide +kernel)
theorem k_596 : (Jvm.Cond.fieldLink "TraceBuilderModel" 26 "TraceBuilderModel" "keys" "[I") ∈ gw := gw_mem (i := 596) (by decide +kernel) (by decide +kernel)
theorem k_597 : (Jvm.Cond.fieldLink "TraceBuilderModel" 29 "TraceBuilderModel" "owner" "[I") ∈ gw := gw_mem (i := 597) (by decide +kernel) (by decide +kernel)
theorem k_598 : (Jvm.Cond.fieldLink "TraceBuilderModel" 32 "TraceBuilderModel" "got" "[J") ∈ gw := gw_mem (i := 598) (by decide +kernel) (by decide +kernel)
theorem k_599 : (Jvm.Cond.fieldLink "TraceBuilderModel" 35 "TraceBuilderModel" "came" "[J") ∈ gw := gw_mem (i := 599) (by decide +kernel) (by decide +kernel)
theorem k_600 : (Jvm.Cond.fieldLink "TraceBuilderModel" 38 "TraceBuilderModel" "used" "[Z") ∈ gw := gw_mem (i := 600) (by decide +kernel) (by decide +kernel)
theorem k_601 : (Jvm.Cond.fieldLink "TraceBuilderModel" 42 "TraceBuilderModel" "trace" "[I") ∈ gw := gw_mem (i := 601) (by decide +kernel) (by decide +kernel)
theorem k_602 : (Jvm.Cond.fieldLink "TraceBuilderModel" 45 "TraceBuilderModel" "oldTrace" "[I") ∈ gw := gw_mem (i := 602) (by decide +kernel) (by decide +kernel)
theorem k_603 : (Jvm.Cond.fieldLink "TraceBuilderModel" 48 "TraceBuilderModel" "cache" "[I") ∈ gw := gw_mem (i := 603) (by decide +kernel) (by decide +kernel)
theorem k_604 : (Jvm.Cond.fieldLink "TraceBuilderModel" 51 "TraceBuilderModel" "oldCache" "[I") ∈ gw := gw_mem (i := 604) (by decide +kernel) (by decide +kernel)
theorem k_605 : (Jvm.Cond.fieldLink "TraceBuilderModel" 54 "TraceBuilderModel" "counts" "[I") ∈ gw := gw_mem (i := 605) (by decide +kernel) (by decide +kernel)
theorem k_606 : (Jvm.Cond.fieldLink "TraceBuilderModel" 57 "TraceBuilderModel" "oldCounts" "[I") ∈ gw := gw_mem (i := 606) (by decide +kernel) (by decide +kernel)
theorem k_607 : (Jvm.Cond.fieldLink "TraceBuilderModel" 100 "TraceBuilderModel" "cached" "I") ∈ gw := gw_mem (i := 607) (by decide +kernel) (by decide +kernel)
theorem k_608 : (Jvm.Cond.fieldLink "TraceBuilderModel" 115 "TraceBuilderModel" "oldCached" "I") ∈ gw := gw_mem (i := 608) (by decide +kernel) (by decide +kernel)
theorem k_609 : (Jvm.Cond.fieldLink "TraceBuilderModel" 121 "TraceBuilderModel" "circles" "I") ∈ gw := gw_mem (i := 609) (by decide +kernel) (by decide +kernel)
theorem k_610 : (Jvm.Cond.fieldLink "TraceBuilderModel" 179 "TraceBuilderModel" "oldCircles" "I") ∈ gw := gw_mem (i := 610) (by decide +kernel) (by decide +kernel)
theorem k_611 : (Jvm.Cond.fieldLink "TraceBuilderModel" 96 "TraceBuilderModel" "thrown" "I") ∈ gw := gw_mem (i := 611) (by decide +kernel) (by decide +kernel)
theorem k_612 : (Jvm.Cond.fieldLink "TraceBuilderModel" 124 "TraceBuilderModel" "worker" "I") ∈ gw := gw_mem (i := 612) (by decide +kernel) (by decide +kernel)
theorem k_613 : (Jvm.Cond.fieldLink "TraceBuilderModel" 131 "TraceBuilderModel" "ran" "Z") ∈ gw := gw_mem (i := 613) (by decide +kernel) (by decide +kernel)
theorem k_614 : (Jvm.Cond.fieldLink "TraceBuilderModel" 60 "TraceBuilderModel" "state" "[I") ∈ gw := gw_mem (i := 614) (by decide +kernel) (by decide +kernel)
theorem k_615 : (Jvm.Cond.fieldLink "TraceBuilderModel" 63 "TraceBuilderModel" "value" "[J") ∈ gw := gw_mem (i := 615) (by decide +kernel) (by decide +kernel)
theorem k_616 : (Jvm.Cond.fieldLink "TraceBuilderModel" 66 "TraceBuilderModel" "key" "[I") ∈ gw := gw_mem (i := 616) (by decide +kernel) (by decide +kernel)
theorem k_617 : (Jvm.Cond.fieldLink "TraceBuilderModel" 69 "TraceBuilderModel" "phase" "[I") ∈ gw := gw_mem (i := 617) (by decide +kernel) (by decide +kernel)
theorem k_618 : (Jvm.Cond.fieldLink "TraceBuilderModel" 72 "TraceBuilderModel" "checked" "[I") ∈ gw := gw_mem (i := 618) (by decide +kernel) (by decide +kernel)
theorem k_619 : (Jvm.Cond.fieldLink "TraceBuilderModel" 75 "TraceBuilderModel" "at" "[I") ∈ gw := gw_mem (i := 619) (by decide +kernel) (by decide +kernel)
theorem k_620 : (Jvm.Cond.fieldLink "TraceBuilderModel" 78 "TraceBuilderModel" "candidates" "[I") ∈ gw := gw_mem (i := 620) (by decide +kernel) (by decide +kernel)
theorem k_621 : (Jvm.Cond.fieldLink "TraceBuilderModel" 81 "TraceBuilderModel" "candidateCount" "[I") ∈ gw := gw_mem (i := 621) (by decide +kernel) (by decide +kernel)
theorem k_622 : (Jvm.Cond.fieldLink "TraceBuilderModel" 84 "TraceBuilderModel" "making" "[I") ∈ gw := gw_mem (i := 622) (by decide +kernel) (by decide +kernel)
theorem k_623 : (Jvm.Cond.fieldLink "TraceBuilderModel" 87 "TraceBuilderModel" "asked" "[I") ∈ gw := gw_mem (i := 623) (by decide +kernel) (by decide +kernel)
theorem k_624 : (Jvm.Cond.fieldLink "TraceBuilderModel" 90 "TraceBuilderModel" "first" "[J") ∈ gw := gw_mem (i := 624) (by decide +kernel) (by decide +kernel)
theorem k_625 : (Jvm.Cond.fieldLink "TraceBuilderModel" 93 "TraceBuilderModel" "sum" "[J") ∈ gw := gw_mem (i := 625) (by decide +kernel) (by decide +kernel)
theorem k_626 : (Jvm.Cond.fieldLink "TraceBuilderModel" 118 "TraceBuilderModel" "height" "I") ∈ gw := gw_mem (i := 626) (by decide +kernel) (by decide +kernel)
theorem k_627 : (Jvm.Cond.laysFinal "TraceBuilderModel" "TraceBuilderModel" "sort" "[I") ∈ gw := gw_mem (i := 627) (by decide +kernel) (by decide +kernel)
theorem k_629 : (Jvm.Cond.laysFinal "TraceBuilderModel" "TraceBuilderModel" "rule" "[I") ∈ gw := gw_mem (i := 629) (by decide +kernel) (by decide +kernel)
theorem k_631 : (Jvm.Cond.laysFinal "TraceBuilderModel" "TraceBuilderModel" "parts" "[I") ∈ gw := gw_mem (i := 631) (by decide +kernel) (by decide +kernel)
theorem k_633 : (Jvm.Cond.laysFinal "TraceBuilderModel" "TraceBuilderModel" "input" "[J") ∈ gw := gw_mem (i := 633) (by decide +kernel) (by decide +kernel)
theorem k_635 : (Jvm.Cond.laysFinal "TraceBuilderModel" "TraceBuilderModel" "size" "[I") ∈ gw := gw_mem (i := 635) (by decide +kernel) (by decide +kernel)
theorem k_637 : (Jvm.Cond.laysFinal "TraceBuilderModel" "TraceBuilderModel" "keys" "[I") ∈ gw := gw_mem (i := 637) (by decide +kernel) (by decide +kernel)
theorem k_639 : (Jvm.Cond.laysFinal "TraceBuilderModel" "TraceBuilderModel" "owner" "[I") ∈ gw := gw_mem (i := 639) (by decide +kernel) (by decide +kernel)
theorem k_641 : (Jvm.Cond.laysFinal "TraceBuilderModel" "TraceBuilderModel" "got" "[J") ∈ gw := gw_mem (i := 641) (by decide +kernel) (by decide +kernel)
theorem k_643 : (Jvm.Cond.laysFinal "TraceBuilderModel" "TraceBuilderModel" "came" "[J") ∈ gw := gw_mem (i := 643) (by decide +kernel) (by decide +kernel)
theorem k_645 : (Jvm.Cond.laysFinal "TraceBuilderModel" "TraceBuilderModel" "used" "[Z") ∈ gw := gw_mem (i := 645) (by decide +kernel) (by decide +kernel)
theorem k_647 : (Jvm.Cond.laysFinal "TraceBuilderModel" "TraceBuilderModel" "trace" "[I") ∈ gw := gw_mem (i := 647) (by decide +kernel) (by decide +kernel)
theorem k_649 : (Jvm.Cond.laysFinal "TraceBuilderModel" "TraceBuilderModel" "oldTrace" "[I") ∈ gw := gw_mem (i := 649) (by decide +kernel) (by decide +kernel)
theorem k_651 : (Jvm.Cond.laysFinal "TraceBuilderModel" "TraceBuilderModel" "cache" "[I") ∈ gw := gw_mem (i := 651) (by decide +kernel) (by decide +kernel)
theorem k_653 : (Jvm.Cond.laysFinal "TraceBuilderModel" "TraceBuilderModel" "oldCache" "[I") ∈ gw := gw_mem (i := 653) (by decide +kernel) (by decide +kernel)
theorem k_655 : (Jvm.Cond.laysFinal "TraceBuilderModel" "TraceBuilderModel" "counts" "[I") ∈ gw := gw_mem (i := 655) (by decide +kernel) (by decide +kernel)
theorem k_657 : (Jvm.Cond.laysFinal "TraceBuilderModel" "TraceBuilderModel" "oldCounts" "[I") ∈ gw := gw_mem (i := 657) (by decide +kernel) (by decide +kernel)
theorem k_659 : (Jvm.Cond.lays "TraceBuilderModel" "TraceBuilderModel" "cached" "I") ∈ gw := gw_mem (i := 659) (by decide +kernel) (by decide +kernel)
theorem k_661 : (Jvm.Cond.lays "TraceBuilderModel" "TraceBuilderModel" "oldCached" "I") ∈ gw := gw_mem (i := 661) (by decide +kernel) (by decide +kernel)
theorem k_663 : (Jvm.Cond.lays "TraceBuilderModel" "TraceBuilderModel" "circles" "I") ∈ gw := gw_mem (i := 663) (by decide +kernel) (by decide +kernel)
theorem k_665 : (Jvm.Cond.lays "TraceBuilderModel" "TraceBuilderModel" "oldCircles" "I") ∈ gw := gw_mem (i := 665) (by decide +kernel) (by decide +kernel)
theorem k_667 : (Jvm.Cond.lays "TraceBuilderModel" "TraceBuilderModel" "thrown" "I") ∈ gw := gw_mem (i := 667) (by decide +kernel) (by decide +kernel)
theorem k_669 : (Jvm.Cond.lays "TraceBuilderModel" "TraceBuilderModel" "worker" "I") ∈ gw := gw_mem (i := 669) (by decide +kernel) (by decide +kernel)
theorem k_671 : (Jvm.Cond.lays "TraceBuilderModel" "TraceBuilderModel" "ran" "Z") ∈ gw := gw_mem (i := 671) (by decide +kernel) (by decide +kernel)
theorem k_673 : (Jvm.Cond.laysFinal "TraceBuilderModel" "TraceBuilderModel" "state" "[I") ∈ gw := gw_mem (i := 673) (by decide +kernel) (by decide +kernel)
theorem k_675 : (Jvm.Cond.laysFinal "TraceBuilderModel" "TraceBuilderModel" "value" "[J") ∈ gw := gw_mem (i := 675) (by decide +kernel) (by decide +kernel)
theorem k_677 : (Jvm.Cond.laysFinal "TraceBuilderModel" "TraceBuilderModel" "key" "[I") ∈ gw := gw_mem (i := 677) (by decide +kernel) (by decide +kernel)
theorem k_679 : (Jvm.Cond.laysFinal "TraceBuilderModel" "TraceBuilderModel" "phase" "[I") ∈ gw := gw_mem (i := 679) (by decide +kernel) (by decide +kernel)
theorem k_681 : (Jvm.Cond.laysFinal "TraceBuilderModel" "TraceBuilderModel" "checked" "[I") ∈ gw := gw_mem (i := 681) (by decide +kernel) (by decide +kernel)
theorem k_683 : (Jvm.Cond.laysFinal "TraceBuilderModel" "TraceBuilderModel" "at" "[I") ∈ gw := gw_mem (i := 683) (by decide +kernel) (by decide +kernel)
theorem k_685 : (Jvm.Cond.laysFinal "TraceBuilderModel" "TraceBuilderModel" "candidates" "[I") ∈ gw := gw_mem (i := 685) (by decide +kernel) (by decide +kernel)
theorem k_687 : (Jvm.Cond.laysFinal "TraceBuilderModel" "TraceBuilderModel" "candidateCount" "[I") ∈ gw := gw_mem (i := 687) (by decide +kernel) (by decide +kernel)
theorem k_689 : (Jvm.Cond.laysFinal "TraceBuilderModel" "TraceBuilderModel" "making" "[I") ∈ gw := gw_mem (i := 689) (by decide +kernel) (by decide +kernel)
theorem k_691 : (Jvm.Cond.laysFinal "TraceBuilderModel" "TraceBuilderModel" "asked" "[I") ∈ gw := gw_mem (i := 691) (by decide +kernel) (by decide +kernel)
theorem k_693 : (Jvm.Cond.laysFinal "TraceBuilderModel" "TraceBuilderModel" "first" "[J") ∈ gw := gw_mem (i := 693) (by decide +kernel) (by decide +kernel)
theorem k_695 : (Jvm.Cond.laysFinal "TraceBuilderModel" "TraceBuilderModel" "sum" "[J") ∈ gw := gw_mem (i := 695) (by decide +kernel) (by decide +kernel)
theorem k_697 : (Jvm.Cond.lays "TraceBuilderModel" "TraceBuilderModel" "height" "I") ∈ gw := gw_mem (i := 697) (by decide +kernel) (by decide +kernel)
theorem k_700 : (Jvm.Cond.methodLink "TraceBuilderLaw" 67 y_D_thrown) ∈ gw := gw_mem (i := 700) (by decide +kernel) (by decide +kernel)
theorem k_701 : (Jvm.Cond.instanceMethod y_D_thrown) ∈ gw := gw_mem (i := 701) (by decide +kernel) (by decide +kernel)
theorem k_702 : (Jvm.Cond.selects "TraceBuilderModel" y_D_thrown y_D_thrown) ∈ gw := gw_mem (i := 702) (by decide +kernel) (by decide +kernel)
theorem k_703 : (Jvm.Cond.code y_D_thrown prog_7_method_2_code 1 (Option.some Jvm.ClassFile.FieldType.int)) ∈ gw := gw_mem (i := 703) (by decide +kernel) (by decide +kernel)
theorem k_704 : (Jvm.Cond.methodLink "TraceBuilderLaw" 66 y_D_input) ∈ gw := gw_mem (i := 704) (by decide +kernel) (by decide +kernel)
theorem k_705 : (Jvm.Cond.instanceMethod y_D_input) ∈ gw := gw_mem (i := 705) (by decide +kernel) (by decide +kernel)
theorem k_706 : (Jvm.Cond.selects "TraceBuilderModel" y_D_input y_D_input) ∈ gw := gw_mem (i := 706) (by decide +kernel) (by decide +kernel)
theorem k_707 : (Jvm.Cond.code y_D_input prog_7_method_6_code 4 (Option.none : Option Jvm.ClassFile.FieldType)) ∈ gw := gw_mem (i := 707) (by decide +kernel) (by decide +kernel)
theorem k_708 : (Jvm.Cond.methodLink "TraceBuilderModel" 103 y_D_in) ∈ gw := gw_mem (i := 708) (by decide +kernel) (by decide +kernel)
theorem k_709 : (Jvm.Cond.static y_D_in) ∈ gw := gw_mem (i := 709) (by decide +kernel) (by decide +kernel)
theorem k_710 : (Jvm.Cond.code y_D_in prog_7_method_3_code 3 (Option.some Jvm.ClassFile.FieldType.boolean)) ∈ gw := gw_mem (i := 710) (by decide +kernel) (by decide +kernel)
theorem k_711 : (Jvm.Cond.methodLink "TraceBuilderModel" 107 y_D_bad) ∈ gw := gw_mem (i := 711) (by decide +kernel) (by decide +kernel)
theorem k_713 : (Jvm.Cond.instanceMethod y_D_bad) ∈ gw := gw_mem (i := 713) (by decide +kernel) (by decide +kernel)
theorem k_714 : (Jvm.Cond.code y_D_bad prog_7_method_4_code 2 (Option.some Jvm.ClassFile.FieldType.boolean)) ∈ gw := gw_mem (i := 714) (by decide +kernel) (by decide +kernel)
theorem k_715 : (Jvm.Cond.methodLink "TraceBuilderModel" 111 y_D_forgetKey) ∈ gw := gw_mem (i := 715) (by decide +kernel) (by decide +kernel)
theorem k_717 : (Jvm.Cond.instanceMethod y_D_forgetKey) ∈ gw := gw_mem (i := 717) (by decide +kernel) (by decide +kernel)
theorem k_718 : (Jvm.Cond.code y_D_forgetKey prog_7_method_5_code 4 (Option.none : Option Jvm.ClassFile.FieldType)) ∈ gw := gw_mem (i := 718) (by decide +kernel) (by decide +kernel)
theorem k_719 : (Jvm.Cond.methodLink "TraceBuilderLaw" 74 y_D_task) ∈ gw := gw_mem (i := 719) (by decide +kernel) (by decide +kernel)
theorem k_720 : (Jvm.Cond.instanceMethod y_D_task) ∈ gw := gw_mem (i := 720) (by decide +kernel) (by decide +kernel)
theorem k_721 : (Jvm.Cond.selects "TraceBuilderModel" y_D_task y_D_task) ∈ gw := gw_mem (i := 721) (by decide +kernel) (by decide +kernel)
theorem k_722 : (Jvm.Cond.code y_D_task prog_7_method_7_code 9 (Option.none : Option Jvm.ClassFile.FieldType)) ∈ gw := gw_mem (i := 722) (by decide +kernel) (by decide +kernel)
theorem k_723 : (Jvm.Cond.methodLink "TraceBuilderLaw" 78 y_D_remove) ∈ gw := gw_mem (i := 723) (by decide +kernel) (by decide +kernel)
theorem k_724 : (Jvm.Cond.instanceMethod y_D_remove) ∈ gw := gw_mem (i := 724) (by decide +kernel) (by decide +kernel)
theorem k_725 : (Jvm.Cond.selects "TraceBuilderModel" y_D_remove y_D_remove) ∈ gw := gw_mem (i := 725) (by decide +kernel) (by decide +kernel)
theorem k_726 : (Jvm.Cond.code y_D_remove prog_7_method_8_code 2 (Option.none : Option Jvm.ClassFile.FieldType)) ∈ gw := gw_mem (i := 726) (by decide +kernel) (by decide +kernel)
theorem k_727 : (Jvm.Cond.methodLink "TraceBuilderLaw" 82 y_D_build) ∈ gw := gw_mem (i := 727) (by decide +kernel) (by decide +kernel)
theorem k_728 : (Jvm.Cond.instanceMethod y_D_build) ∈ gw := gw_mem (i := 728) (by decide +kernel) (by decide +kernel)
theorem k_729 : (Jvm.Cond.selects "TraceBuilderModel" y_D_build y_D_build) ∈ gw := gw_mem (i := 729) (by decide +kernel) (by decide +kernel)
theorem k_730 : (Jvm.Cond.code y_D_build prog_7_method_20_code 5 (Option.some Jvm.ClassFile.FieldType.long)) ∈ gw := gw_mem (i := 730) (by decide +kernel) (by decide +kernel)
theorem k_731 : (Jvm.Cond.methodLink "TraceBuilderModel" 171 y_D_session) ∈ gw := gw_mem (i := 731) (by decide +kernel) (by decide +kernel)
theorem k_733 : (Jvm.Cond.instanceMethod y_D_session) ∈ gw := gw_mem (i := 733) (by decide +kernel) (by decide +kernel)
theorem k_734 : (Jvm.Cond.code y_D_session prog_7_method_19_code 5 (Option.some Jvm.ClassFile.FieldType.long)) ∈ gw := gw_mem (i := 734) (by decide +kernel) (by decide +kernel)
theorem k_735 : (Jvm.Cond.methodLink "TraceBuilderModel" 142 y_D_ask) ∈ gw := gw_mem (i := 735) (by decide +kernel) (by decide +kernel)
theorem k_737 : (Jvm.Cond.instanceMethod y_D_ask) ∈ gw := gw_mem (i := 737) (by decide +kernel) (by decide +kernel)
theorem k_738 : (Jvm.Cond.code y_D_ask prog_7_method_10_code 2 (Option.some Jvm.ClassFile.FieldType.boolean)) ∈ gw := gw_mem (i := 738) (by decide +kernel) (by decide +kernel)
theorem k_739 : (Jvm.Cond.methodLink "TraceBuilderModel" 165 y_D_goOn) ∈ gw := gw_mem (i := 739) (by decide +kernel) (by decide +kernel)
theorem k_741 : (Jvm.Cond.instanceMethod y_D_goOn) ∈ gw := gw_mem (i := 741) (by decide +kernel) (by decide +kernel)
theorem k_742 : (Jvm.Cond.code y_D_goOn prog_7_method_18_code 6 (Option.none : Option Jvm.ClassFile.FieldType)) ∈ gw := gw_mem (i := 742) (by decide +kernel) (by decide +kernel)
theorem k_743 : (Jvm.Cond.methodLink "TraceBuilderModel" 156 y_D_wanted) ∈ gw := gw_mem (i := 743) (by decide +kernel) (by decide +kernel)
theorem k_745 : (Jvm.Cond.instanceMethod y_D_wanted) ∈ gw := gw_mem (i := 745) (by decide +kernel) (by decide +kernel)
theorem k_746 : (Jvm.Cond.code y_D_wanted prog_7_method_15_code 8 (Option.some Jvm.ClassFile.FieldType.int)) ∈ gw := gw_mem (i := 746) (by decide +kernel) (by decide +kernel)
theorem k_747 : (Jvm.Cond.methodLink "TraceBuilderModel" 146 y_D_modulo) ∈ gw := gw_mem (i := 747) (by decide +kernel) (by decide +kernel)
theorem k_748 : (Jvm.Cond.static y_D_modulo) ∈ gw := gw_mem (i := 748) (by decide +kernel) (by decide +kernel)
theorem k_749 : (Jvm.Cond.code y_D_modulo prog_7_method_14_code 3 (Option.some Jvm.ClassFile.FieldType.long)) ∈ gw := gw_mem (i := 749) (by decide +kernel) (by decide +kernel)
theorem k_750 : (Jvm.Cond.methodLink "TraceBuilderModel" 159 y_D_end) ∈ gw := gw_mem (i := 750) (by decide +kernel) (by decide +kernel)
theorem k_752 : (Jvm.Cond.instanceMethod y_D_end) ∈ gw := gw_mem (i := 752) (by decide +kernel) (by decide +kernel)
theorem k_753 : (Jvm.Cond.code y_D_end prog_7_method_17_code 7 (Option.none : Option Jvm.ClassFile.FieldType)) ∈ gw := gw_mem (i := 753) (by decide +kernel) (by decide +kernel)
theorem k_754 : (Jvm.Cond.constantLong "TraceBuilderModel" 150 (7 : Int64)) ∈ gw := gw_mem (i := 754) (by decide +kernel) (by decide +kernel)
theorem k_755 : (Jvm.Cond.methodLink "TraceBuilderModel" 152 y_D_cut) ∈ gw := gw_mem (i := 755) (by decide +kernel) (by decide +kernel)
theorem k_757 : (Jvm.Cond.instanceMethod y_D_cut) ∈ gw := gw_mem (i := 757) (by decide +kernel) (by decide +kernel)
theorem k_758 : (Jvm.Cond.code y_D_cut prog_7_method_25_code 4 (Option.some Jvm.ClassFile.FieldType.int)) ∈ gw := gw_mem (i := 758) (by decide +kernel) (by decide +kernel)
theorem k_759 : (Jvm.Cond.methodLink "TraceBuilderModel" 138 y_D_finish) ∈ gw := gw_mem (i := 759) (by decide +kernel) (by decide +kernel)
theorem k_761 : (Jvm.Cond.instanceMethod y_D_finish) ∈ gw := gw_mem (i := 761) (by decide +kernel) (by decide +kernel)
theorem k_762 : (Jvm.Cond.code y_D_finish prog_7_method_11_code 4 (Option.none : Option Jvm.ClassFile.FieldType)) ∈ gw := gw_mem (i := 762) (by decide +kernel) (by decide +kernel)
theorem k_763 : (Jvm.Cond.methodLink "TraceBuilderModel" 162 y_D_take) ∈ gw := gw_mem (i := 763) (by decide +kernel) (by decide +kernel)
theorem k_765 : (Jvm.Cond.instanceMethod y_D_take) ∈ gw := gw_mem (i := 765) (by decide +kernel) (by decide +kernel)
theorem k_766 : (Jvm.Cond.code y_D_take prog_7_method_16_code 5 (Option.none : Option Jvm.ClassFile.FieldType)) ∈ gw := gw_mem (i := 766) (by decide +kernel) (by decide +kernel)
theorem k_767 : (Jvm.Cond.methodLink "TraceBuilderModel" 168 y_D_check) ∈ gw := gw_mem (i := 767) (by decide +kernel) (by decide +kernel)
theorem k_769 : (Jvm.Cond.instanceMethod y_D_check) ∈ gw := gw_mem (i := 769) (by decide +kernel) (by decide +kernel)
theorem k_770 : (Jvm.Cond.code y_D_check prog_7_method_13_code 4 (Option.none : Option Jvm.ClassFile.FieldType)) ∈ gw := gw_mem (i := 770) (by decide +kernel) (by decide +kernel)
theorem k_771 : (Jvm.Cond.methodLink "TraceBuilderModel" 135 y_D_nextCandidate) ∈ gw := gw_mem (i := 771) (by decide +kernel) (by decide +kernel)
theorem k_773 : (Jvm.Cond.instanceMethod y_D_nextCandidate) ∈ gw := gw_mem (i := 773) (by decide +kernel) (by decide +kernel)
theorem k_774 : (Jvm.Cond.code y_D_nextCandidate prog_7_method_12_code 4 (Option.none : Option Jvm.ClassFile.FieldType)) ∈ gw := gw_mem (i := 774) (by decide +kernel) (by decide +kernel)
theorem k_775 : (Jvm.Cond.methodLink "TraceBuilderModel" 127 y_D_freeTrace) ∈ gw := gw_mem (i := 775) (by decide +kernel) (by decide +kernel)
theorem k_777 : (Jvm.Cond.instanceMethod y_D_freeTrace) ∈ gw := gw_mem (i := 777) (by decide +kernel) (by decide +kernel)
theorem k_778 : (Jvm.Cond.code y_D_freeTrace prog_7_method_9_code 3 (Option.some Jvm.ClassFile.FieldType.int)) ∈ gw := gw_mem (i := 778) (by decide +kernel) (by decide +kernel)
theorem k_779 : (Jvm.Cond.methodLink "TraceBuilderLaw" 99 y_D_stale) ∈ gw := gw_mem (i := 779) (by decide +kernel) (by decide +kernel)
theorem k_780 : (Jvm.Cond.instanceMethod y_D_stale) ∈ gw := gw_mem (i := 780) (by decide +kernel) (by decide +kernel)
theorem k_781 : (Jvm.Cond.selects "TraceBuilderModel" y_D_stale y_D_stale) ∈ gw := gw_mem (i := 781) (by decide +kernel) (by decide +kernel)
theorem k_782 : (Jvm.Cond.code y_D_stale prog_7_method_22_code 6 (Option.some Jvm.ClassFile.FieldType.boolean)) ∈ gw := gw_mem (i := 782) (by decide +kernel) (by decide +kernel)
theorem k_783 : (Jvm.Cond.methodLink "TraceBuilderModel" 175 y_D_keep) ∈ gw := gw_mem (i := 783) (by decide +kernel) (by decide +kernel)
theorem k_784 : (Jvm.Cond.static y_D_keep) ∈ gw := gw_mem (i := 784) (by decide +kernel) (by decide +kernel)
theorem k_785 : (Jvm.Cond.code y_D_keep prog_7_method_21_code 4 (Option.none : Option Jvm.ClassFile.FieldType)) ∈ gw := gw_mem (i := 785) (by decide +kernel) (by decide +kernel)
theorem k_786 : (Jvm.Cond.methodLink "TraceBuilderLaw" 86 y_D_forget) ∈ gw := gw_mem (i := 786) (by decide +kernel) (by decide +kernel)
theorem k_787 : (Jvm.Cond.instanceMethod y_D_forget) ∈ gw := gw_mem (i := 787) (by decide +kernel) (by decide +kernel)
theorem k_788 : (Jvm.Cond.selects "TraceBuilderModel" y_D_forget y_D_forget) ∈ gw := gw_mem (i := 788) (by decide +kernel) (by decide +kernel)
theorem k_789 : (Jvm.Cond.code y_D_forget prog_7_method_23_code 4 (Option.some Jvm.ClassFile.FieldType.int)) ∈ gw := gw_mem (i := 789) (by decide +kernel) (by decide +kernel)
theorem k_790 : (Jvm.Cond.methodLink "TraceBuilderModel" 182 y_D_tracesOf) ∈ gw := gw_mem (i := 790) (by decide +kernel) (by decide +kernel)
theorem k_792 : (Jvm.Cond.instanceMethod y_D_tracesOf) ∈ gw := gw_mem (i := 792) (by decide +kernel) (by decide +kernel)
theorem k_793 : (Jvm.Cond.code y_D_tracesOf prog_7_method_24_code 4 (Option.some Jvm.ClassFile.FieldType.int)) ∈ gw := gw_mem (i := 793) (by decide +kernel) (by decide +kernel)
theorem k_794 : (Jvm.Cond.methodLink "TraceBuilderLaw" 89 y_D_shrink) ∈ gw := gw_mem (i := 794) (by decide +kernel) (by decide +kernel)
theorem k_795 : (Jvm.Cond.instanceMethod y_D_shrink) ∈ gw := gw_mem (i := 795) (by decide +kernel) (by decide +kernel)
theorem k_796 : (Jvm.Cond.selects "TraceBuilderModel" y_D_shrink y_D_shrink) ∈ gw := gw_mem (i := 796) (by decide +kernel) (by decide +kernel)
theorem k_797 : (Jvm.Cond.code y_D_shrink prog_7_method_26_code 2 (Option.some Jvm.ClassFile.FieldType.int)) ∈ gw := gw_mem (i := 797) (by decide +kernel) (by decide +kernel)
theorem k_798 : (Jvm.Cond.methodLink "TraceBuilderLaw" 93 y_D_trace) ∈ gw := gw_mem (i := 798) (by decide +kernel) (by decide +kernel)
theorem k_799 : (Jvm.Cond.instanceMethod y_D_trace) ∈ gw := gw_mem (i := 799) (by decide +kernel) (by decide +kernel)
theorem k_800 : (Jvm.Cond.selects "TraceBuilderModel" y_D_trace y_D_trace) ∈ gw := gw_mem (i := 800) (by decide +kernel) (by decide +kernel)
theorem k_801 : (Jvm.Cond.code y_D_trace prog_7_method_28_code 5 (Option.some Jvm.ClassFile.FieldType.int)) ∈ gw := gw_mem (i := 801) (by decide +kernel) (by decide +kernel)
theorem k_802 : (Jvm.Cond.methodLink "TraceBuilderModel" 185 y_D_traceWith) ∈ gw := gw_mem (i := 802) (by decide +kernel) (by decide +kernel)
theorem k_804 : (Jvm.Cond.instanceMethod y_D_traceWith) ∈ gw := gw_mem (i := 804) (by decide +kernel) (by decide +kernel)
theorem k_805 : (Jvm.Cond.code y_D_traceWith prog_7_method_27_code 5 (Option.some Jvm.ClassFile.FieldType.int)) ∈ gw := gw_mem (i := 805) (by decide +kernel) (by decide +kernel)
theorem k_806 : (Jvm.Cond.methodLink "TraceBuilderLaw" 96 y_D_traced) ∈ gw := gw_mem (i := 806) (by decide +kernel) (by decide +kernel)
theorem k_807 : (Jvm.Cond.instanceMethod y_D_traced) ∈ gw := gw_mem (i := 807) (by decide +kernel) (by decide +kernel)
theorem k_808 : (Jvm.Cond.selects "TraceBuilderModel" y_D_traced y_D_traced) ∈ gw := gw_mem (i := 808) (by decide +kernel) (by decide +kernel)
theorem k_809 : (Jvm.Cond.code y_D_traced prog_7_method_29_code 5 (Option.some Jvm.ClassFile.FieldType.long)) ∈ gw := gw_mem (i := 809) (by decide +kernel) (by decide +kernel)
theorem k_810 : (Jvm.Cond.methodLink "TraceBuilderLaw" 102 y_D_cached) ∈ gw := gw_mem (i := 810) (by decide +kernel) (by decide +kernel)
theorem k_811 : (Jvm.Cond.instanceMethod y_D_cached) ∈ gw := gw_mem (i := 811) (by decide +kernel) (by decide +kernel)
theorem k_812 : (Jvm.Cond.selects "TraceBuilderModel" y_D_cached y_D_cached) ∈ gw := gw_mem (i := 812) (by decide +kernel) (by decide +kernel)
theorem k_813 : (Jvm.Cond.code y_D_cached prog_7_method_30_code 2 (Option.some Jvm.ClassFile.FieldType.int)) ∈ gw := gw_mem (i := 813) (by decide +kernel) (by decide +kernel)
theorem k_814 : (Jvm.Cond.methodLink "TraceBuilderLaw" 106 y_D_count) ∈ gw := gw_mem (i := 814) (by decide +kernel) (by decide +kernel)
theorem k_815 : (Jvm.Cond.instanceMethod y_D_count) ∈ gw := gw_mem (i := 815) (by decide +kernel) (by decide +kernel)
theorem k_816 : (Jvm.Cond.selects "TraceBuilderModel" y_D_count y_D_count) ∈ gw := gw_mem (i := 816) (by decide +kernel) (by decide +kernel)
theorem k_817 : (Jvm.Cond.code y_D_count prog_7_method_31_code 2 (Option.some Jvm.ClassFile.FieldType.int)) ∈ gw := gw_mem (i := 817) (by decide +kernel) (by decide +kernel)
theorem k_818 : (Jvm.Cond.constantLong "TraceBuilderLaw" 59 (4294967295 : Int64)) ∈ gw := gw_mem (i := 818) (by decide +kernel) (by decide +kernel)
end
section
def nws : List Cond := [(Jvm.Cond.methodLinkNest "TraceBuilder" 9 y_P_init "TraceBuilder"), (Jvm.Cond.fieldLinkNest "TraceBuilder" 62 "TraceBuilder$Plan" "kinds" "[I" "TraceBuilder"), (Jvm.Cond.fieldLinkNest "TraceBuilder$Session" 60 "TraceBuilder$Plan" "kinds" "[I" "TraceBuilder"), (Jvm.Cond.fieldLinkNest "TraceBuilder$Session" 65 "TraceBuilder$Plan" "values" "[J" "TraceBuilder"), (Jvm.Cond.fieldLinkNest "TraceBuilder$Session" 122 "TraceBuilder$Plan" "rules" "[I" "TraceBuilder"), (Jvm.Cond.fieldLinkNest "TraceBuilder$Session" 166 "TraceBuilder$Plan" "parts" "[[I" "TraceBuilder"), (Jvm.Cond.fieldLinkNest "TraceBuilder$Session" 174 "TraceBuilder$Plan" "partCounts" "[I" "TraceBuilder"), (Jvm.Cond.methodLinkNest "TraceBuilder" 18 y_M_init "TraceBuilder"), (Jvm.Cond.fieldLinkNest "TraceBuilder" 134 "TraceBuilder$Memory" "cacheSize" "I" "TraceBuilder"), (Jvm.Cond.fieldLinkNest "TraceBuilder" 76 "TraceBuilder$Memory" "tallies" "[I" "TraceBuilder"), (Jvm.Cond.fieldLinkNest "TraceBuilder$Session" 51 "TraceBuilder$Memory" "tallies" "[I" "TraceBuilder"), (Jvm.Cond.methodLinkNest "TraceBuilder" 28 y_S_init "TraceBuilder"), (Jvm.Cond.fieldLinkNest "TraceBuilder" 123 "TraceBuilder$Session" "hasRun" "Z" "TraceBuilder"), (Jvm.Cond.fieldLinkNest "TraceBuilder" 83 "TraceBuilder$Session" "failure" "I" "TraceBuilder"), (Jvm.Cond.methodLinkNest "TraceBuilder" 137 y_M_tracesOf "TraceBuilder"), (Jvm.Cond.methodLinkNest "TraceBuilder" 39 y_P_isInput "TraceBuilder"), (Jvm.Cond.methodLinkNest "TraceBuilder" 43 y_P_setInput "TraceBuilder"), (Jvm.Cond.methodLinkNest "TraceBuilder" 47 y_M_dropKey "TraceBuilder"), (Jvm.Cond.methodLinkNest "TraceBuilder" 54 y_P_isTask "TraceBuilder"), (Jvm.Cond.methodLinkNest "TraceBuilder" 58 y_P_setTask "TraceBuilder"), (Jvm.Cond.methodLinkNest "TraceBuilder$Plan" 30 y_B_partsAmong "TraceBuilder"), (Jvm.Cond.methodLinkNest "TraceBuilder" 72 y_S_result "TraceBuilder"), (Jvm.Cond.methodLinkNest "TraceBuilder$Session" 73 y_M_traceOf "TraceBuilder"), (Jvm.Cond.methodLinkNest "TraceBuilder$Session" 107 y_M_copyEntriesOf "TraceBuilder"), (Jvm.Cond.methodLinkNest "TraceBuilder$Session" 89 y_M_give "TraceBuilder"), (Jvm.Cond.methodLinkNest "TraceBuilder$Session" 111 y_T_init "TraceBuilder"), (Jvm.Cond.fieldLinkNest "TraceBuilder$Memory" 28 "TraceBuilder$Trace" "owner" "I" "TraceBuilder"), (Jvm.Cond.fieldLinkNest "TraceBuilder$Session" 125 "TraceBuilder$Trace" "owner" "I" "TraceBuilder"), (Jvm.Cond.fieldLinkNest "TraceBuilder" 131 "TraceBuilder$Trace" "owner" "I" "TraceBuilder"), (Jvm.Cond.fieldLinkNest "TraceBuilder$Session" 103 "TraceBuilder$Trace" "keys" "[I" "TraceBuilder"), (Jvm.Cond.fieldLinkNest "TraceBuilder" 109 "TraceBuilder$Trace" "keys" "[I" "TraceBuilder"), (Jvm.Cond.fieldLinkNest "TraceBuilder$Session" 106 "TraceBuilder$Trace" "values" "[J" "TraceBuilder"), (Jvm.Cond.fieldLinkNest "TraceBuilder" 115 "TraceBuilder$Trace" "values" "[J" "TraceBuilder"), (Jvm.Cond.fieldLinkNest "TraceBuilder$Session" 100 "TraceBuilder$Trace" "size" "I" "TraceBuilder"), (Jvm.Cond.fieldLinkNest "TraceBuilder" 104 "TraceBuilder$Trace" "size" "I" "TraceBuilder"), (Jvm.Cond.fieldLinkNest "TraceBuilder$Session" 81 "TraceBuilder$Trace" "result" "J" "TraceBuilder"), (Jvm.Cond.fieldLinkNest "TraceBuilder" 112 "TraceBuilder$Trace" "result" "J" "TraceBuilder"), (Jvm.Cond.methodLinkNest "TraceBuilder$Session" 170 y_T_note "TraceBuilder"), (Jvm.Cond.methodLinkNest "TraceBuilder$Session" 118 y_M_append "TraceBuilder"), (Jvm.Cond.methodLinkNest "TraceBuilder" 79 y_S_hasFailed "TraceBuilder"), (Jvm.Cond.methodLinkNest "TraceBuilder" 90 y_M_dropTracesOf "TraceBuilder"), (Jvm.Cond.methodLinkNest "TraceBuilder" 97 y_M_cutCacheTo "TraceBuilder"), (Jvm.Cond.methodLinkNest "TraceBuilder" 140 y_M_traceOf "TraceBuilder"), (Jvm.Cond.methodLinkNest "TraceBuilder" 119 y_M_becomeCopyOf "TraceBuilder"), (Jvm.Cond.methodLinkNest "TraceBuilder" 127 y_M_entryAt "TraceBuilder")]
theorem nws_in : ∀ w ∈ nws, w ∈ lw_tbl := by decide +kernel
theorem u_78 : (Jvm.Cond.methodLinkNest "TraceBuilder" 9 y_P_init "TraceBuilder") ∈ nws := List.mem_of_getElem? (i := 0) rfl
theorem u_85 : (Jvm.Cond.fieldLinkNest "TraceBuilder" 62 "TraceBuilder$Plan" "kinds" "[I" "TraceBuilder") ∈ nws := List.mem_of_getElem? (i := 1) rfl
theorem u_86 : (Jvm.Cond.fieldLinkNest "TraceBuilder$Session" 60 "TraceBuilder$Plan" "kinds" "[I" "TraceBuilder") ∈ nws := List.mem_of_getElem? (i := 2) rfl
theorem u_88 : (Jvm.Cond.fieldLinkNest "TraceBuilder$Session" 65 "TraceBuilder$Plan" "values" "[J" "TraceBuilder") ∈ nws := List.mem_of_getElem? (i := 3) rfl
theorem u_90 : (Jvm.Cond.fieldLinkNest "TraceBuilder$Session" 122 "TraceBuilder$Plan" "rules" "[I" "TraceBuilder") ∈ nws := List.mem_of_getElem? (i := 4) rfl
theorem u_92 : (Jvm.Cond.fieldLinkNest "TraceBuilder$Session" 166 "TraceBuilder$Plan" "parts" "[[I" "TraceBuilder") ∈ nws := List.mem_of_getElem? (i := 5) rfl
theorem u_94 : (Jvm.Cond.fieldLinkNest "TraceBuilder$Session" 174 "TraceBuilder$Plan" "partCounts" "[I" "TraceBuilder") ∈ nws := List.mem_of_getElem? (i := 6) rfl
theorem u_110 : (Jvm.Cond.methodLinkNest "TraceBuilder" 18 y_M_init "TraceBuilder") ∈ nws := List.mem_of_getElem? (i := 7) rfl
theorem u_119 : (Jvm.Cond.fieldLinkNest "TraceBuilder" 134 "TraceBuilder$Memory" "cacheSize" "I" "TraceBuilder") ∈ nws := List.mem_of_getElem? (i := 8) rfl
theorem u_121 : (Jvm.Cond.fieldLinkNest "TraceBuilder" 76 "TraceBuilder$Memory" "tallies" "[I" "TraceBuilder") ∈ nws := List.mem_of_getElem? (i := 9) rfl
theorem u_122 : (Jvm.Cond.fieldLinkNest "TraceBuilder$Session" 51 "TraceBuilder$Memory" "tallies" "[I" "TraceBuilder") ∈ nws := List.mem_of_getElem? (i := 10) rfl
theorem u_134 : (Jvm.Cond.methodLinkNest "TraceBuilder" 28 y_S_init "TraceBuilder") ∈ nws := List.mem_of_getElem? (i := 11) rfl
theorem u_147 : (Jvm.Cond.fieldLinkNest "TraceBuilder" 123 "TraceBuilder$Session" "hasRun" "Z" "TraceBuilder") ∈ nws := List.mem_of_getElem? (i := 12) rfl
theorem u_149 : (Jvm.Cond.fieldLinkNest "TraceBuilder" 83 "TraceBuilder$Session" "failure" "I" "TraceBuilder") ∈ nws := List.mem_of_getElem? (i := 13) rfl
theorem u_187 : (Jvm.Cond.methodLinkNest "TraceBuilder" 137 y_M_tracesOf "TraceBuilder") ∈ nws := List.mem_of_getElem? (i := 14) rfl
theorem u_270 : (Jvm.Cond.methodLinkNest "TraceBuilder" 39 y_P_isInput "TraceBuilder") ∈ nws := List.mem_of_getElem? (i := 15) rfl
theorem u_274 : (Jvm.Cond.methodLinkNest "TraceBuilder" 43 y_P_setInput "TraceBuilder") ∈ nws := List.mem_of_getElem? (i := 16) rfl
theorem u_278 : (Jvm.Cond.methodLinkNest "TraceBuilder" 47 y_M_dropKey "TraceBuilder") ∈ nws := List.mem_of_getElem? (i := 17) rfl
theorem u_308 : (Jvm.Cond.methodLinkNest "TraceBuilder" 54 y_P_isTask "TraceBuilder") ∈ nws := List.mem_of_getElem? (i := 18) rfl
theorem u_312 : (Jvm.Cond.methodLinkNest "TraceBuilder" 58 y_P_setTask "TraceBuilder") ∈ nws := List.mem_of_getElem? (i := 19) rfl
theorem u_316 : (Jvm.Cond.methodLinkNest "TraceBuilder$Plan" 30 y_B_partsAmong "TraceBuilder") ∈ nws := List.mem_of_getElem? (i := 20) rfl
theorem u_352 : (Jvm.Cond.methodLinkNest "TraceBuilder" 72 y_S_result "TraceBuilder") ∈ nws := List.mem_of_getElem? (i := 21) rfl
theorem u_372 : (Jvm.Cond.methodLinkNest "TraceBuilder$Session" 73 y_M_traceOf "TraceBuilder") ∈ nws := List.mem_of_getElem? (i := 22) rfl
theorem u_385 : (Jvm.Cond.methodLinkNest "TraceBuilder$Session" 107 y_M_copyEntriesOf "TraceBuilder") ∈ nws := List.mem_of_getElem? (i := 23) rfl
theorem u_389 : (Jvm.Cond.methodLinkNest "TraceBuilder$Session" 89 y_M_give "TraceBuilder") ∈ nws := List.mem_of_getElem? (i := 24) rfl
theorem u_398 : (Jvm.Cond.methodLinkNest "TraceBuilder$Session" 111 y_T_init "TraceBuilder") ∈ nws := List.mem_of_getElem? (i := 25) rfl
theorem u_403 : (Jvm.Cond.fieldLinkNest "TraceBuilder$Memory" 28 "TraceBuilder$Trace" "owner" "I" "TraceBuilder") ∈ nws := List.mem_of_getElem? (i := 26) rfl
theorem u_404 : (Jvm.Cond.fieldLinkNest "TraceBuilder$Session" 125 "TraceBuilder$Trace" "owner" "I" "TraceBuilder") ∈ nws := List.mem_of_getElem? (i := 27) rfl
theorem u_405 : (Jvm.Cond.fieldLinkNest "TraceBuilder" 131 "TraceBuilder$Trace" "owner" "I" "TraceBuilder") ∈ nws := List.mem_of_getElem? (i := 28) rfl
theorem u_407 : (Jvm.Cond.fieldLinkNest "TraceBuilder$Session" 103 "TraceBuilder$Trace" "keys" "[I" "TraceBuilder") ∈ nws := List.mem_of_getElem? (i := 29) rfl
theorem u_408 : (Jvm.Cond.fieldLinkNest "TraceBuilder" 109 "TraceBuilder$Trace" "keys" "[I" "TraceBuilder") ∈ nws := List.mem_of_getElem? (i := 30) rfl
theorem u_410 : (Jvm.Cond.fieldLinkNest "TraceBuilder$Session" 106 "TraceBuilder$Trace" "values" "[J" "TraceBuilder") ∈ nws := List.mem_of_getElem? (i := 31) rfl
theorem u_411 : (Jvm.Cond.fieldLinkNest "TraceBuilder" 115 "TraceBuilder$Trace" "values" "[J" "TraceBuilder") ∈ nws := List.mem_of_getElem? (i := 32) rfl
theorem u_413 : (Jvm.Cond.fieldLinkNest "TraceBuilder$Session" 100 "TraceBuilder$Trace" "size" "I" "TraceBuilder") ∈ nws := List.mem_of_getElem? (i := 33) rfl
theorem u_414 : (Jvm.Cond.fieldLinkNest "TraceBuilder" 104 "TraceBuilder$Trace" "size" "I" "TraceBuilder") ∈ nws := List.mem_of_getElem? (i := 34) rfl
theorem u_415 : (Jvm.Cond.fieldLinkNest "TraceBuilder$Session" 81 "TraceBuilder$Trace" "result" "J" "TraceBuilder") ∈ nws := List.mem_of_getElem? (i := 35) rfl
theorem u_416 : (Jvm.Cond.fieldLinkNest "TraceBuilder" 112 "TraceBuilder$Trace" "result" "J" "TraceBuilder") ∈ nws := List.mem_of_getElem? (i := 36) rfl
theorem u_444 : (Jvm.Cond.methodLinkNest "TraceBuilder$Session" 170 y_T_note "TraceBuilder") ∈ nws := List.mem_of_getElem? (i := 37) rfl
theorem u_485 : (Jvm.Cond.methodLinkNest "TraceBuilder$Session" 118 y_M_append "TraceBuilder") ∈ nws := List.mem_of_getElem? (i := 38) rfl
theorem u_493 : (Jvm.Cond.methodLinkNest "TraceBuilder" 79 y_S_hasFailed "TraceBuilder") ∈ nws := List.mem_of_getElem? (i := 39) rfl
theorem u_534 : (Jvm.Cond.methodLinkNest "TraceBuilder" 90 y_M_dropTracesOf "TraceBuilder") ∈ nws := List.mem_of_getElem? (i := 40) rfl
theorem u_546 : (Jvm.Cond.methodLinkNest "TraceBuilder" 97 y_M_cutCacheTo "TraceBuilder") ∈ nws := List.mem_of_getElem? (i := 41) rfl
theorem u_558 : (Jvm.Cond.methodLinkNest "TraceBuilder" 140 y_M_traceOf "TraceBuilder") ∈ nws := List.mem_of_getElem? (i := 42) rfl
theorem u_573 : (Jvm.Cond.methodLinkNest "TraceBuilder" 119 y_M_becomeCopyOf "TraceBuilder") ∈ nws := List.mem_of_getElem? (i := 43) rfl
theorem u_584 : (Jvm.Cond.methodLinkNest "TraceBuilder" 127 y_M_entryAt "TraceBuilder") ∈ nws := List.mem_of_getElem? (i := 44) rfl
theorem in_M : ∀ w ∈ u_ws R_M F_M 4, w ∈ gw := by decide +kernel
theorem in_P : ∀ w ∈ u_ws R_P F_P 5, w ∈ gw := by decide +kernel
theorem in_S : ∀ w ∈ u_ws R_S F_S 9, w ∈ gw := by decide +kernel
theorem in_T : ∀ w ∈ u_ws R_T F_T 5, w ∈ gw := by decide +kernel
theorem in_B : ∀ w ∈ u_ws R_B F_B 4, w ∈ gw := by decide +kernel
theorem in_D : ∀ w ∈ u_ws R_D F_D 36, w ∈ gw := by decide +kernel
end
section
theorem d_M_init_0 : decode b_M_init 0 = .ok (.aload_n 0, 1) := by decide +kernel
theorem d_M_init_1 : decode b_M_init 1 = .ok (.invokespecial 3, 3) := by decide +kernel
theorem d_M_init_4 : decode b_M_init 4 = .ok (.aload_n 0, 1) := by decide +kernel
theorem d_M_init_5 : decode b_M_init 5 = .ok (.bipush 24, 2) := by decide +kernel
theorem d_M_init_7 : decode b_M_init 7 = .ok (.anewarray 9, 3) := by decide +kernel
theorem d_M_init_10 : decode b_M_init 10 = .ok (.putfield 11, 3) := by decide +kernel
theorem d_M_init_13 : decode b_M_init 13 = .ok (.aload_n 0, 1) := by decide +kernel
theorem d_M_init_14 : decode b_M_init 14 = .ok (.bipush 16, 2) := by decide +kernel
theorem d_M_init_16 : decode b_M_init 16 = .ok (.anewarray 9, 3) := by decide +kernel
theorem d_M_init_19 : decode b_M_init 19 = .ok (.putfield 17, 3) := by decide +kernel
theorem d_M_init_22 : decode b_M_init 22 = .ok (.aload_n 0, 1) := by decide +kernel
theorem d_M_init_23 : decode b_M_init 23 = .ok (.bipush 11, 2) := by decide +kernel
theorem d_M_init_25 : decode b_M_init 25 = .ok (.newarray .int, 2) := by decide +kernel
theorem d_M_init_27 : decode b_M_init 27 = .ok (.putfield 20, 3) := by decide +kernel
theorem d_M_init_30 : decode b_M_init 30 = .ok (.return_, 1) := by decide +kernel
theorem d_M_becomeCopyOf_0 : decode b_M_becomeCopyOf 0 = .ok (.iconst 0, 1) := by decide +kernel
theorem d_M_becomeCopyOf_1 : decode b_M_becomeCopyOf 1 = .ok (.istore_n 2, 1) := by decide +kernel
theorem d_M_becomeCopyOf_2 : decode b_M_becomeCopyOf 2 = .ok (.iload_n 2, 1) := by decide +kernel
theorem d_M_becomeCopyOf_3 : decode b_M_becomeCopyOf 3 = .ok (.aload_n 0, 1) := by decide +kernel
theorem d_M_becomeCopyOf_4 : decode b_M_becomeCopyOf 4 = .ok (.getfield 11, 3) := by decide +kernel
theorem d_M_becomeCopyOf_7 : decode b_M_becomeCopyOf 7 = .ok (.arraylength, 1) := by decide +kernel
theorem d_M_becomeCopyOf_8 : decode b_M_becomeCopyOf 8 = .ok (.if_icmp .ge 21, 3) := by decide +kernel
theorem d_M_becomeCopyOf_11 : decode b_M_becomeCopyOf 11 = .ok (.aload_n 0, 1) := by decide +kernel
theorem d_M_becomeCopyOf_12 : decode b_M_becomeCopyOf 12 = .ok (.getfield 11, 3) := by decide +kernel
theorem d_M_becomeCopyOf_15 : decode b_M_becomeCopyOf 15 = .ok (.iload_n 2, 1) := by decide +kernel
theorem d_M_becomeCopyOf_16 : decode b_M_becomeCopyOf 16 = .ok (.aload_n 1, 1) := by decide +kernel
theorem d_M_becomeCopyOf_17 : decode b_M_becomeCopyOf 17 = .ok (.getfield 11, 3) := by decide +kernel
theorem d_M_becomeCopyOf_20 : decode b_M_becomeCopyOf 20 = .ok (.iload_n 2, 1) := by decide +kernel
theorem d_M_becomeCopyOf_21 : decode b_M_becomeCopyOf 21 = .ok (.aaload, 1) := by decide +kernel
theorem d_M_becomeCopyOf_22 : decode b_M_becomeCopyOf 22 = .ok (.aastore, 1) := by decide +kernel
theorem d_M_becomeCopyOf_23 : decode b_M_becomeCopyOf 23 = .ok (.iinc 2 1, 3) := by decide +kernel
theorem d_M_becomeCopyOf_26 : decode b_M_becomeCopyOf 26 = .ok (.goto (-24), 3) := by decide +kernel
theorem d_M_becomeCopyOf_29 : decode b_M_becomeCopyOf 29 = .ok (.iconst 0, 1) := by decide +kernel
theorem d_M_becomeCopyOf_30 : decode b_M_becomeCopyOf 30 = .ok (.istore_n 2, 1) := by decide +kernel
theorem d_M_becomeCopyOf_31 : decode b_M_becomeCopyOf 31 = .ok (.iload_n 2, 1) := by decide +kernel
theorem d_M_becomeCopyOf_32 : decode b_M_becomeCopyOf 32 = .ok (.bipush 16, 2) := by decide +kernel
theorem d_M_becomeCopyOf_34 : decode b_M_becomeCopyOf 34 = .ok (.if_icmp .ge 21, 3) := by decide +kernel
theorem d_M_becomeCopyOf_37 : decode b_M_becomeCopyOf 37 = .ok (.aload_n 0, 1) := by decide +kernel
theorem d_M_becomeCopyOf_38 : decode b_M_becomeCopyOf 38 = .ok (.getfield 17, 3) := by decide +kernel
theorem d_M_becomeCopyOf_41 : decode b_M_becomeCopyOf 41 = .ok (.iload_n 2, 1) := by decide +kernel
theorem d_M_becomeCopyOf_42 : decode b_M_becomeCopyOf 42 = .ok (.aload_n 1, 1) := by decide +kernel
theorem d_M_becomeCopyOf_43 : decode b_M_becomeCopyOf 43 = .ok (.getfield 17, 3) := by decide +kernel
theorem d_M_becomeCopyOf_46 : decode b_M_becomeCopyOf 46 = .ok (.iload_n 2, 1) := by decide +kernel
theorem d_M_becomeCopyOf_47 : decode b_M_becomeCopyOf 47 = .ok (.aaload, 1) := by decide +kernel
theorem d_M_becomeCopyOf_48 : decode b_M_becomeCopyOf 48 = .ok (.aastore, 1) := by decide +kernel
theorem d_M_becomeCopyOf_49 : decode b_M_becomeCopyOf 49 = .ok (.iinc 2 1, 3) := by decide +kernel
theorem d_M_becomeCopyOf_52 : decode b_M_becomeCopyOf 52 = .ok (.goto (-21), 3) := by decide +kernel
theorem d_M_becomeCopyOf_55 : decode b_M_becomeCopyOf 55 = .ok (.aload_n 0, 1) := by decide +kernel
theorem d_M_becomeCopyOf_56 : decode b_M_becomeCopyOf 56 = .ok (.aload_n 1, 1) := by decide +kernel
theorem d_M_becomeCopyOf_57 : decode b_M_becomeCopyOf 57 = .ok (.getfield 24, 3) := by decide +kernel
theorem d_M_becomeCopyOf_60 : decode b_M_becomeCopyOf 60 = .ok (.putfield 24, 3) := by decide +kernel
theorem d_M_becomeCopyOf_63 : decode b_M_becomeCopyOf 63 = .ok (.return_, 1) := by decide +kernel
theorem d_M_traceOf_0 : decode b_M_traceOf 0 = .ok (.aload_n 0, 1) := by decide +kernel
theorem d_M_traceOf_1 : decode b_M_traceOf 1 = .ok (.getfield 11, 3) := by decide +kernel
theorem d_M_traceOf_4 : decode b_M_traceOf 4 = .ok (.iload_n 1, 1) := by decide +kernel
theorem d_M_traceOf_5 : decode b_M_traceOf 5 = .ok (.bipush 12, 2) := by decide +kernel
theorem d_M_traceOf_7 : decode b_M_traceOf 7 = .ok (.imul, 1) := by decide +kernel
theorem d_M_traceOf_8 : decode b_M_traceOf 8 = .ok (.iload_n 2, 1) := by decide +kernel
theorem d_M_traceOf_9 : decode b_M_traceOf 9 = .ok (.iadd, 1) := by decide +kernel
theorem d_M_traceOf_10 : decode b_M_traceOf 10 = .ok (.aaload, 1) := by decide +kernel
theorem d_M_traceOf_11 : decode b_M_traceOf 11 = .ok (.areturn, 1) := by decide +kernel
theorem d_M_give_0 : decode b_M_give 0 = .ok (.aload_n 0, 1) := by decide +kernel
theorem d_M_give_1 : decode b_M_give 1 = .ok (.getfield 11, 3) := by decide +kernel
theorem d_M_give_4 : decode b_M_give 4 = .ok (.iload_n 1, 1) := by decide +kernel
theorem d_M_give_5 : decode b_M_give 5 = .ok (.bipush 12, 2) := by decide +kernel
theorem d_M_give_7 : decode b_M_give 7 = .ok (.imul, 1) := by decide +kernel
theorem d_M_give_8 : decode b_M_give 8 = .ok (.aload_n 2, 1) := by decide +kernel
theorem d_M_give_9 : decode b_M_give 9 = .ok (.getfield 28, 3) := by decide +kernel
theorem d_M_give_12 : decode b_M_give 12 = .ok (.iadd, 1) := by decide +kernel
theorem d_M_give_13 : decode b_M_give 13 = .ok (.aload_n 2, 1) := by decide +kernel
theorem d_M_give_14 : decode b_M_give 14 = .ok (.aastore, 1) := by decide +kernel
theorem d_M_give_15 : decode b_M_give 15 = .ok (.return_, 1) := by decide +kernel
theorem d_M_tracesOf_0 : decode b_M_tracesOf 0 = .ok (.iconst 0, 1) := by decide +kernel
theorem d_M_tracesOf_1 : decode b_M_tracesOf 1 = .ok (.istore_n 2, 1) := by decide +kernel
theorem d_M_tracesOf_2 : decode b_M_tracesOf 2 = .ok (.iconst 0, 1) := by decide +kernel
theorem d_M_tracesOf_3 : decode b_M_tracesOf 3 = .ok (.istore_n 3, 1) := by decide +kernel
theorem d_M_tracesOf_4 : decode b_M_tracesOf 4 = .ok (.iload_n 3, 1) := by decide +kernel
theorem d_M_tracesOf_5 : decode b_M_tracesOf 5 = .ok (.bipush 12, 2) := by decide +kernel
theorem d_M_tracesOf_7 : decode b_M_tracesOf 7 = .ok (.if_icmp .ge 21, 3) := by decide +kernel
theorem d_M_tracesOf_10 : decode b_M_tracesOf 10 = .ok (.aload_n 0, 1) := by decide +kernel
theorem d_M_tracesOf_11 : decode b_M_tracesOf 11 = .ok (.iload_n 1, 1) := by decide +kernel
theorem d_M_tracesOf_12 : decode b_M_tracesOf 12 = .ok (.iload_n 3, 1) := by decide +kernel
theorem d_M_tracesOf_13 : decode b_M_tracesOf 13 = .ok (.invokevirtual 31, 3) := by decide +kernel
theorem d_M_tracesOf_16 : decode b_M_tracesOf 16 = .ok (.ifnull 6, 3) := by decide +kernel
theorem d_M_tracesOf_19 : decode b_M_tracesOf 19 = .ok (.iinc 2 1, 3) := by decide +kernel
theorem d_M_tracesOf_22 : decode b_M_tracesOf 22 = .ok (.iinc 3 1, 3) := by decide +kernel
theorem d_M_tracesOf_25 : decode b_M_tracesOf 25 = .ok (.goto (-21), 3) := by decide +kernel
theorem d_M_tracesOf_28 : decode b_M_tracesOf 28 = .ok (.iload_n 2, 1) := by decide +kernel
theorem d_M_tracesOf_29 : decode b_M_tracesOf 29 = .ok (.ireturn, 1) := by decide +kernel
theorem d_M_dropTracesOf_0 : decode b_M_dropTracesOf 0 = .ok (.aload_n 0, 1) := by decide +kernel
theorem d_M_dropTracesOf_1 : decode b_M_dropTracesOf 1 = .ok (.iload_n 1, 1) := by decide +kernel
theorem d_M_dropTracesOf_2 : decode b_M_dropTracesOf 2 = .ok (.invokevirtual 35, 3) := by decide +kernel
theorem d_M_dropTracesOf_5 : decode b_M_dropTracesOf 5 = .ok (.istore_n 2, 1) := by decide +kernel
theorem d_M_dropTracesOf_6 : decode b_M_dropTracesOf 6 = .ok (.iconst 0, 1) := by decide +kernel
theorem d_M_dropTracesOf_7 : decode b_M_dropTracesOf 7 = .ok (.istore_n 3, 1) := by decide +kernel
theorem d_M_dropTracesOf_8 : decode b_M_dropTracesOf 8 = .ok (.iload_n 3, 1) := by decide +kernel
theorem d_M_dropTracesOf_9 : decode b_M_dropTracesOf 9 = .ok (.bipush 12, 2) := by decide +kernel
theorem d_M_dropTracesOf_11 : decode b_M_dropTracesOf 11 = .ok (.if_icmp .ge 21, 3) := by decide +kernel
theorem d_M_dropTracesOf_14 : decode b_M_dropTracesOf 14 = .ok (.aload_n 0, 1) := by decide +kernel
theorem d_M_dropTracesOf_15 : decode b_M_dropTracesOf 15 = .ok (.getfield 11, 3) := by decide +kernel
theorem d_M_dropTracesOf_18 : decode b_M_dropTracesOf 18 = .ok (.iload_n 1, 1) := by decide +kernel
theorem d_M_dropTracesOf_19 : decode b_M_dropTracesOf 19 = .ok (.bipush 12, 2) := by decide +kernel
theorem d_M_dropTracesOf_21 : decode b_M_dropTracesOf 21 = .ok (.imul, 1) := by decide +kernel
theorem d_M_dropTracesOf_22 : decode b_M_dropTracesOf 22 = .ok (.iload_n 3, 1) := by decide +kernel
theorem d_M_dropTracesOf_23 : decode b_M_dropTracesOf 23 = .ok (.iadd, 1) := by decide +kernel
theorem d_M_dropTracesOf_24 : decode b_M_dropTracesOf 24 = .ok (.aconst_null, 1) := by decide +kernel
theorem d_M_dropTracesOf_25 : decode b_M_dropTracesOf 25 = .ok (.aastore, 1) := by decide +kernel
theorem d_M_dropTracesOf_26 : decode b_M_dropTracesOf 26 = .ok (.iinc 3 1, 3) := by decide +kernel
theorem d_M_dropTracesOf_29 : decode b_M_dropTracesOf 29 = .ok (.goto (-21), 3) := by decide +kernel
theorem d_M_dropTracesOf_32 : decode b_M_dropTracesOf 32 = .ok (.iload_n 2, 1) := by decide +kernel
theorem d_M_dropTracesOf_33 : decode b_M_dropTracesOf 33 = .ok (.ireturn, 1) := by decide +kernel
theorem d_M_entryAt_0 : decode b_M_entryAt 0 = .ok (.iload_n 1, 1) := by decide +kernel
theorem d_M_entryAt_1 : decode b_M_entryAt 1 = .ok (.ifCond .lt 11, 3) := by decide +kernel
theorem d_M_entryAt_4 : decode b_M_entryAt 4 = .ok (.iload_n 1, 1) := by decide +kernel
theorem d_M_entryAt_5 : decode b_M_entryAt 5 = .ok (.aload_n 0, 1) := by decide +kernel
theorem d_M_entryAt_6 : decode b_M_entryAt 6 = .ok (.getfield 24, 3) := by decide +kernel
theorem d_M_entryAt_9 : decode b_M_entryAt 9 = .ok (.if_icmp .lt 7, 3) := by decide +kernel
theorem d_M_entryAt_12 : decode b_M_entryAt 12 = .ok (.aconst_null, 1) := by decide +kernel
theorem d_M_entryAt_13 : decode b_M_entryAt 13 = .ok (.goto 9, 3) := by decide +kernel
theorem d_M_entryAt_16 : decode b_M_entryAt 16 = .ok (.aload_n 0, 1) := by decide +kernel
theorem d_M_entryAt_17 : decode b_M_entryAt 17 = .ok (.getfield 17, 3) := by decide +kernel
theorem d_M_entryAt_20 : decode b_M_entryAt 20 = .ok (.iload_n 1, 1) := by decide +kernel
theorem d_M_entryAt_21 : decode b_M_entryAt 21 = .ok (.aaload, 1) := by decide +kernel
theorem d_M_entryAt_22 : decode b_M_entryAt 22 = .ok (.areturn, 1) := by decide +kernel
theorem d_M_append_0 : decode b_M_append 0 = .ok (.aload_n 0, 1) := by decide +kernel
theorem d_M_append_1 : decode b_M_append 1 = .ok (.bipush 15, 2) := by decide +kernel
theorem d_M_append_3 : decode b_M_append 3 = .ok (.invokevirtual 39, 3) := by decide +kernel
theorem d_M_append_6 : decode b_M_append 6 = .ok (.pop, 1) := by decide +kernel
theorem d_M_append_7 : decode b_M_append 7 = .ok (.aload_n 0, 1) := by decide +kernel
theorem d_M_append_8 : decode b_M_append 8 = .ok (.getfield 17, 3) := by decide +kernel
theorem d_M_append_11 : decode b_M_append 11 = .ok (.aload_n 0, 1) := by decide +kernel
theorem d_M_append_12 : decode b_M_append 12 = .ok (.getfield 24, 3) := by decide +kernel
theorem d_M_append_15 : decode b_M_append 15 = .ok (.aload_n 1, 1) := by decide +kernel
theorem d_M_append_16 : decode b_M_append 16 = .ok (.aastore, 1) := by decide +kernel
theorem d_M_append_17 : decode b_M_append 17 = .ok (.aload_n 0, 1) := by decide +kernel
theorem d_M_append_18 : decode b_M_append 18 = .ok (.dup, 1) := by decide +kernel
theorem d_M_append_19 : decode b_M_append 19 = .ok (.getfield 24, 3) := by decide +kernel
theorem d_M_append_22 : decode b_M_append 22 = .ok (.iconst 1, 1) := by decide +kernel
theorem d_M_append_23 : decode b_M_append 23 = .ok (.iadd, 1) := by decide +kernel
theorem d_M_append_24 : decode b_M_append 24 = .ok (.putfield 24, 3) := by decide +kernel
theorem d_M_append_27 : decode b_M_append 27 = .ok (.return_, 1) := by decide +kernel
theorem d_M_cutCacheTo_0 : decode b_M_cutCacheTo 0 = .ok (.aload_n 0, 1) := by decide +kernel
theorem d_M_cutCacheTo_1 : decode b_M_cutCacheTo 1 = .ok (.getfield 24, 3) := by decide +kernel
theorem d_M_cutCacheTo_4 : decode b_M_cutCacheTo 4 = .ok (.iload_n 1, 1) := by decide +kernel
theorem d_M_cutCacheTo_5 : decode b_M_cutCacheTo 5 = .ok (.isub, 1) := by decide +kernel
theorem d_M_cutCacheTo_6 : decode b_M_cutCacheTo 6 = .ok (.istore_n 2, 1) := by decide +kernel
theorem d_M_cutCacheTo_7 : decode b_M_cutCacheTo 7 = .ok (.iload_n 2, 1) := by decide +kernel
theorem d_M_cutCacheTo_8 : decode b_M_cutCacheTo 8 = .ok (.ifCond .gt 5, 3) := by decide +kernel
theorem d_M_cutCacheTo_11 : decode b_M_cutCacheTo 11 = .ok (.iconst 0, 1) := by decide +kernel
theorem d_M_cutCacheTo_12 : decode b_M_cutCacheTo 12 = .ok (.ireturn, 1) := by decide +kernel
theorem d_M_cutCacheTo_13 : decode b_M_cutCacheTo 13 = .ok (.iconst 0, 1) := by decide +kernel
theorem d_M_cutCacheTo_14 : decode b_M_cutCacheTo 14 = .ok (.istore_n 3, 1) := by decide +kernel
theorem d_M_cutCacheTo_15 : decode b_M_cutCacheTo 15 = .ok (.iload_n 3, 1) := by decide +kernel
theorem d_M_cutCacheTo_16 : decode b_M_cutCacheTo 16 = .ok (.iload_n 1, 1) := by decide +kernel
theorem d_M_cutCacheTo_17 : decode b_M_cutCacheTo 17 = .ok (.if_icmp .ge 23, 3) := by decide +kernel
theorem d_M_cutCacheTo_20 : decode b_M_cutCacheTo 20 = .ok (.aload_n 0, 1) := by decide +kernel
theorem d_M_cutCacheTo_21 : decode b_M_cutCacheTo 21 = .ok (.getfield 17, 3) := by decide +kernel
theorem d_M_cutCacheTo_24 : decode b_M_cutCacheTo 24 = .ok (.iload_n 3, 1) := by decide +kernel
theorem d_M_cutCacheTo_25 : decode b_M_cutCacheTo 25 = .ok (.aload_n 0, 1) := by decide +kernel
theorem d_M_cutCacheTo_26 : decode b_M_cutCacheTo 26 = .ok (.getfield 17, 3) := by decide +kernel
theorem d_M_cutCacheTo_29 : decode b_M_cutCacheTo 29 = .ok (.iload_n 3, 1) := by decide +kernel
theorem d_M_cutCacheTo_30 : decode b_M_cutCacheTo 30 = .ok (.iload_n 2, 1) := by decide +kernel
theorem d_M_cutCacheTo_31 : decode b_M_cutCacheTo 31 = .ok (.iadd, 1) := by decide +kernel
theorem d_M_cutCacheTo_32 : decode b_M_cutCacheTo 32 = .ok (.aaload, 1) := by decide +kernel
theorem d_M_cutCacheTo_33 : decode b_M_cutCacheTo 33 = .ok (.aastore, 1) := by decide +kernel
theorem d_M_cutCacheTo_34 : decode b_M_cutCacheTo 34 = .ok (.iinc 3 1, 3) := by decide +kernel
theorem d_M_cutCacheTo_37 : decode b_M_cutCacheTo 37 = .ok (.goto (-22), 3) := by decide +kernel
theorem d_M_cutCacheTo_40 : decode b_M_cutCacheTo 40 = .ok (.aload_n 0, 1) := by decide +kernel
theorem d_M_cutCacheTo_41 : decode b_M_cutCacheTo 41 = .ok (.iload_n 1, 1) := by decide +kernel
theorem d_M_cutCacheTo_42 : decode b_M_cutCacheTo 42 = .ok (.invokevirtual 42, 3) := by decide +kernel
theorem d_M_cutCacheTo_45 : decode b_M_cutCacheTo 45 = .ok (.iload_n 2, 1) := by decide +kernel
theorem d_M_cutCacheTo_46 : decode b_M_cutCacheTo 46 = .ok (.ireturn, 1) := by decide +kernel
theorem d_M_dropKey_0 : decode b_M_dropKey 0 = .ok (.iconst 0, 1) := by decide +kernel
theorem d_M_dropKey_1 : decode b_M_dropKey 1 = .ok (.istore_n 2, 1) := by decide +kernel
theorem d_M_dropKey_2 : decode b_M_dropKey 2 = .ok (.iload_n 2, 1) := by decide +kernel
theorem d_M_dropKey_3 : decode b_M_dropKey 3 = .ok (.iconst 2, 1) := by decide +kernel
theorem d_M_dropKey_4 : decode b_M_dropKey 4 = .ok (.if_icmp .ge 21, 3) := by decide +kernel
theorem d_M_dropKey_7 : decode b_M_dropKey 7 = .ok (.aload_n 0, 1) := by decide +kernel
theorem d_M_dropKey_8 : decode b_M_dropKey 8 = .ok (.getfield 11, 3) := by decide +kernel
theorem d_M_dropKey_11 : decode b_M_dropKey 11 = .ok (.iload_n 2, 1) := by decide +kernel
theorem d_M_dropKey_12 : decode b_M_dropKey 12 = .ok (.bipush 12, 2) := by decide +kernel
theorem d_M_dropKey_14 : decode b_M_dropKey 14 = .ok (.imul, 1) := by decide +kernel
theorem d_M_dropKey_15 : decode b_M_dropKey 15 = .ok (.iload_n 1, 1) := by decide +kernel
theorem d_M_dropKey_16 : decode b_M_dropKey 16 = .ok (.iadd, 1) := by decide +kernel
theorem d_M_dropKey_17 : decode b_M_dropKey 17 = .ok (.aconst_null, 1) := by decide +kernel
theorem d_M_dropKey_18 : decode b_M_dropKey 18 = .ok (.aastore, 1) := by decide +kernel
theorem d_M_dropKey_19 : decode b_M_dropKey 19 = .ok (.iinc 2 1, 3) := by decide +kernel
theorem d_M_dropKey_22 : decode b_M_dropKey 22 = .ok (.goto (-20), 3) := by decide +kernel
theorem d_M_dropKey_25 : decode b_M_dropKey 25 = .ok (.iconst 0, 1) := by decide +kernel
theorem d_M_dropKey_26 : decode b_M_dropKey 26 = .ok (.istore_n 2, 1) := by decide +kernel
theorem d_M_dropKey_27 : decode b_M_dropKey 27 = .ok (.iconst 0, 1) := by decide +kernel
theorem d_M_dropKey_28 : decode b_M_dropKey 28 = .ok (.istore_n 3, 1) := by decide +kernel
theorem d_M_dropKey_29 : decode b_M_dropKey 29 = .ok (.iload_n 3, 1) := by decide +kernel
theorem d_M_dropKey_30 : decode b_M_dropKey 30 = .ok (.aload_n 0, 1) := by decide +kernel
theorem d_M_dropKey_31 : decode b_M_dropKey 31 = .ok (.getfield 24, 3) := by decide +kernel
theorem d_M_dropKey_34 : decode b_M_dropKey 34 = .ok (.if_icmp .ge 41, 3) := by decide +kernel
theorem d_M_dropKey_37 : decode b_M_dropKey 37 = .ok (.aload_n 0, 1) := by decide +kernel
theorem d_M_dropKey_38 : decode b_M_dropKey 38 = .ok (.iload_n 3, 1) := by decide +kernel
theorem d_M_dropKey_39 : decode b_M_dropKey 39 = .ok (.invokevirtual 46, 3) := by decide +kernel
theorem d_M_dropKey_42 : decode b_M_dropKey 42 = .ok (.astore 4, 2) := by decide +kernel
theorem d_M_dropKey_44 : decode b_M_dropKey 44 = .ok (.aload 4, 2) := by decide +kernel
theorem d_M_dropKey_46 : decode b_M_dropKey 46 = .ok (.ifnull 23, 3) := by decide +kernel
theorem d_M_dropKey_49 : decode b_M_dropKey 49 = .ok (.aload 4, 2) := by decide +kernel
theorem d_M_dropKey_51 : decode b_M_dropKey 51 = .ok (.getfield 28, 3) := by decide +kernel
theorem d_M_dropKey_54 : decode b_M_dropKey 54 = .ok (.iload_n 1, 1) := by decide +kernel
theorem d_M_dropKey_55 : decode b_M_dropKey 55 = .ok (.if_icmp .eq 14, 3) := by decide +kernel
theorem d_M_dropKey_58 : decode b_M_dropKey 58 = .ok (.aload_n 0, 1) := by decide +kernel
theorem d_M_dropKey_59 : decode b_M_dropKey 59 = .ok (.getfield 17, 3) := by decide +kernel
theorem d_M_dropKey_62 : decode b_M_dropKey 62 = .ok (.iload_n 2, 1) := by decide +kernel
theorem d_M_dropKey_63 : decode b_M_dropKey 63 = .ok (.aload 4, 2) := by decide +kernel
theorem d_M_dropKey_65 : decode b_M_dropKey 65 = .ok (.aastore, 1) := by decide +kernel
theorem d_M_dropKey_66 : decode b_M_dropKey 66 = .ok (.iinc 2 1, 3) := by decide +kernel
theorem d_M_dropKey_69 : decode b_M_dropKey 69 = .ok (.iinc 3 1, 3) := by decide +kernel
theorem d_M_dropKey_72 : decode b_M_dropKey 72 = .ok (.goto (-43), 3) := by decide +kernel
theorem d_M_dropKey_75 : decode b_M_dropKey 75 = .ok (.aload_n 0, 1) := by decide +kernel
theorem d_M_dropKey_76 : decode b_M_dropKey 76 = .ok (.iload_n 2, 1) := by decide +kernel
theorem d_M_dropKey_77 : decode b_M_dropKey 77 = .ok (.invokevirtual 42, 3) := by decide +kernel
theorem d_M_dropKey_80 : decode b_M_dropKey 80 = .ok (.return_, 1) := by decide +kernel
theorem d_M_clearCacheFrom_0 : decode b_M_clearCacheFrom 0 = .ok (.iload_n 1, 1) := by decide +kernel
theorem d_M_clearCacheFrom_1 : decode b_M_clearCacheFrom 1 = .ok (.istore_n 2, 1) := by decide +kernel
theorem d_M_clearCacheFrom_2 : decode b_M_clearCacheFrom 2 = .ok (.iload_n 2, 1) := by decide +kernel
theorem d_M_clearCacheFrom_3 : decode b_M_clearCacheFrom 3 = .ok (.aload_n 0, 1) := by decide +kernel
theorem d_M_clearCacheFrom_4 : decode b_M_clearCacheFrom 4 = .ok (.getfield 24, 3) := by decide +kernel
theorem d_M_clearCacheFrom_7 : decode b_M_clearCacheFrom 7 = .ok (.if_icmp .ge 16, 3) := by decide +kernel
theorem d_M_clearCacheFrom_10 : decode b_M_clearCacheFrom 10 = .ok (.aload_n 0, 1) := by decide +kernel
theorem d_M_clearCacheFrom_11 : decode b_M_clearCacheFrom 11 = .ok (.getfield 17, 3) := by decide +kernel
theorem d_M_clearCacheFrom_14 : decode b_M_clearCacheFrom 14 = .ok (.iload_n 2, 1) := by decide +kernel
theorem d_M_clearCacheFrom_15 : decode b_M_clearCacheFrom 15 = .ok (.aconst_null, 1) := by decide +kernel
theorem d_M_clearCacheFrom_16 : decode b_M_clearCacheFrom 16 = .ok (.aastore, 1) := by decide +kernel
theorem d_M_clearCacheFrom_17 : decode b_M_clearCacheFrom 17 = .ok (.iinc 2 1, 3) := by decide +kernel
theorem d_M_clearCacheFrom_20 : decode b_M_clearCacheFrom 20 = .ok (.goto (-18), 3) := by decide +kernel
theorem d_M_clearCacheFrom_23 : decode b_M_clearCacheFrom 23 = .ok (.aload_n 0, 1) := by decide +kernel
theorem d_M_clearCacheFrom_24 : decode b_M_clearCacheFrom 24 = .ok (.iload_n 1, 1) := by decide +kernel
theorem d_M_clearCacheFrom_25 : decode b_M_clearCacheFrom 25 = .ok (.putfield 24, 3) := by decide +kernel
theorem d_M_clearCacheFrom_28 : decode b_M_clearCacheFrom 28 = .ok (.return_, 1) := by decide +kernel
theorem d_M_copyEntriesOf_0 : decode b_M_copyEntriesOf 0 = .ok (.iconst 0, 1) := by decide +kernel
theorem d_M_copyEntriesOf_1 : decode b_M_copyEntriesOf 1 = .ok (.istore 4, 2) := by decide +kernel
theorem d_M_copyEntriesOf_3 : decode b_M_copyEntriesOf 3 = .ok (.aload_n 0, 1) := by decide +kernel
theorem d_M_copyEntriesOf_4 : decode b_M_copyEntriesOf 4 = .ok (.getfield 24, 3) := by decide +kernel
theorem d_M_copyEntriesOf_7 : decode b_M_copyEntriesOf 7 = .ok (.iconst 1, 1) := by decide +kernel
theorem d_M_copyEntriesOf_8 : decode b_M_copyEntriesOf 8 = .ok (.isub, 1) := by decide +kernel
theorem d_M_copyEntriesOf_9 : decode b_M_copyEntriesOf 9 = .ok (.istore 5, 2) := by decide +kernel
theorem d_M_copyEntriesOf_11 : decode b_M_copyEntriesOf 11 = .ok (.iload 5, 2) := by decide +kernel
theorem d_M_copyEntriesOf_13 : decode b_M_copyEntriesOf 13 = .ok (.ifCond .lt 42, 3) := by decide +kernel
theorem d_M_copyEntriesOf_16 : decode b_M_copyEntriesOf 16 = .ok (.aload_n 0, 1) := by decide +kernel
theorem d_M_copyEntriesOf_17 : decode b_M_copyEntriesOf 17 = .ok (.iload 5, 2) := by decide +kernel
theorem d_M_copyEntriesOf_19 : decode b_M_copyEntriesOf 19 = .ok (.invokevirtual 46, 3) := by decide +kernel
theorem d_M_copyEntriesOf_22 : decode b_M_copyEntriesOf 22 = .ok (.astore 6, 2) := by decide +kernel
theorem d_M_copyEntriesOf_24 : decode b_M_copyEntriesOf 24 = .ok (.aload 6, 2) := by decide +kernel
theorem d_M_copyEntriesOf_26 : decode b_M_copyEntriesOf 26 = .ok (.ifnull 23, 3) := by decide +kernel
theorem d_M_copyEntriesOf_29 : decode b_M_copyEntriesOf 29 = .ok (.aload 6, 2) := by decide +kernel
theorem d_M_copyEntriesOf_31 : decode b_M_copyEntriesOf 31 = .ok (.getfield 28, 3) := by decide +kernel
theorem d_M_copyEntriesOf_34 : decode b_M_copyEntriesOf 34 = .ok (.iload_n 1, 1) := by decide +kernel
theorem d_M_copyEntriesOf_35 : decode b_M_copyEntriesOf 35 = .ok (.if_icmp .ne 14, 3) := by decide +kernel
theorem d_M_copyEntriesOf_38 : decode b_M_copyEntriesOf 38 = .ok (.aload_n 2, 1) := by decide +kernel
theorem d_M_copyEntriesOf_39 : decode b_M_copyEntriesOf 39 = .ok (.iload_n 3, 1) := by decide +kernel
theorem d_M_copyEntriesOf_40 : decode b_M_copyEntriesOf 40 = .ok (.iload 4, 2) := by decide +kernel
theorem d_M_copyEntriesOf_42 : decode b_M_copyEntriesOf 42 = .ok (.iadd, 1) := by decide +kernel
theorem d_M_copyEntriesOf_43 : decode b_M_copyEntriesOf 43 = .ok (.aload 6, 2) := by decide +kernel
theorem d_M_copyEntriesOf_45 : decode b_M_copyEntriesOf 45 = .ok (.aastore, 1) := by decide +kernel
theorem d_M_copyEntriesOf_46 : decode b_M_copyEntriesOf 46 = .ok (.iinc 4 1, 3) := by decide +kernel
theorem d_M_copyEntriesOf_49 : decode b_M_copyEntriesOf 49 = .ok (.iinc 5 (-1), 3) := by decide +kernel
theorem d_M_copyEntriesOf_52 : decode b_M_copyEntriesOf 52 = .ok (.goto (-41), 3) := by decide +kernel
theorem d_M_copyEntriesOf_55 : decode b_M_copyEntriesOf 55 = .ok (.iload 4, 2) := by decide +kernel
theorem d_M_copyEntriesOf_57 : decode b_M_copyEntriesOf 57 = .ok (.ireturn, 1) := by decide +kernel
theorem d_P_init_0 : decode b_P_init 0 = .ok (.aload_n 0, 1) := by decide +kernel
theorem d_P_init_1 : decode b_P_init 1 = .ok (.invokespecial 3, 3) := by decide +kernel
theorem d_P_init_4 : decode b_P_init 4 = .ok (.aload_n 0, 1) := by decide +kernel
theorem d_P_init_5 : decode b_P_init 5 = .ok (.bipush 12, 2) := by decide +kernel
theorem d_P_init_7 : decode b_P_init 7 = .ok (.newarray .int, 2) := by decide +kernel
theorem d_P_init_9 : decode b_P_init 9 = .ok (.putfield 9, 3) := by decide +kernel
theorem d_P_init_12 : decode b_P_init 12 = .ok (.aload_n 0, 1) := by decide +kernel
theorem d_P_init_13 : decode b_P_init 13 = .ok (.bipush 12, 2) := by decide +kernel
theorem d_P_init_15 : decode b_P_init 15 = .ok (.newarray .long, 2) := by decide +kernel
theorem d_P_init_17 : decode b_P_init 17 = .ok (.putfield 15, 3) := by decide +kernel
theorem d_P_init_20 : decode b_P_init 20 = .ok (.aload_n 0, 1) := by decide +kernel
theorem d_P_init_21 : decode b_P_init 21 = .ok (.bipush 12, 2) := by decide +kernel
theorem d_P_init_23 : decode b_P_init 23 = .ok (.newarray .int, 2) := by decide +kernel
theorem d_P_init_25 : decode b_P_init 25 = .ok (.putfield 19, 3) := by decide +kernel
theorem d_P_init_28 : decode b_P_init 28 = .ok (.aload_n 0, 1) := by decide +kernel
theorem d_P_init_29 : decode b_P_init 29 = .ok (.bipush 12, 2) := by decide +kernel
theorem d_P_init_31 : decode b_P_init 31 = .ok (.iconst 3, 1) := by decide +kernel
theorem d_P_init_32 : decode b_P_init 32 = .ok (.multianewarray 22 2, 4) := by decide +kernel
theorem d_P_init_36 : decode b_P_init 36 = .ok (.putfield 24, 3) := by decide +kernel
theorem d_P_init_39 : decode b_P_init 39 = .ok (.aload_n 0, 1) := by decide +kernel
theorem d_P_init_40 : decode b_P_init 40 = .ok (.bipush 12, 2) := by decide +kernel
theorem d_P_init_42 : decode b_P_init 42 = .ok (.newarray .int, 2) := by decide +kernel
theorem d_P_init_44 : decode b_P_init 44 = .ok (.putfield 27, 3) := by decide +kernel
theorem d_P_init_47 : decode b_P_init 47 = .ok (.return_, 1) := by decide +kernel
theorem d_P_isInput_0 : decode b_P_isInput 0 = .ok (.aload_n 0, 1) := by decide +kernel
theorem d_P_isInput_1 : decode b_P_isInput 1 = .ok (.getfield 9, 3) := by decide +kernel
theorem d_P_isInput_4 : decode b_P_isInput 4 = .ok (.iload_n 1, 1) := by decide +kernel
theorem d_P_isInput_5 : decode b_P_isInput 5 = .ok (.iaload, 1) := by decide +kernel
theorem d_P_isInput_6 : decode b_P_isInput 6 = .ok (.iconst 1, 1) := by decide +kernel
theorem d_P_isInput_7 : decode b_P_isInput 7 = .ok (.if_icmp .ne 18, 3) := by decide +kernel
theorem d_P_isInput_10 : decode b_P_isInput 10 = .ok (.aload_n 0, 1) := by decide +kernel
theorem d_P_isInput_11 : decode b_P_isInput 11 = .ok (.getfield 15, 3) := by decide +kernel
theorem d_P_isInput_14 : decode b_P_isInput 14 = .ok (.iload_n 1, 1) := by decide +kernel
theorem d_P_isInput_15 : decode b_P_isInput 15 = .ok (.laload, 1) := by decide +kernel
theorem d_P_isInput_16 : decode b_P_isInput 16 = .ok (.lload_n 2, 1) := by decide +kernel
theorem d_P_isInput_17 : decode b_P_isInput 17 = .ok (.lcmp, 1) := by decide +kernel
theorem d_P_isInput_18 : decode b_P_isInput 18 = .ok (.ifCond .ne 7, 3) := by decide +kernel
theorem d_P_isInput_21 : decode b_P_isInput 21 = .ok (.iconst 1, 1) := by decide +kernel
theorem d_P_isInput_22 : decode b_P_isInput 22 = .ok (.goto 4, 3) := by decide +kernel
theorem d_P_isInput_25 : decode b_P_isInput 25 = .ok (.iconst 0, 1) := by decide +kernel
theorem d_P_isInput_26 : decode b_P_isInput 26 = .ok (.ireturn, 1) := by decide +kernel
theorem d_P_setInput_0 : decode b_P_setInput 0 = .ok (.aload_n 0, 1) := by decide +kernel
theorem d_P_setInput_1 : decode b_P_setInput 1 = .ok (.getfield 9, 3) := by decide +kernel
theorem d_P_setInput_4 : decode b_P_setInput 4 = .ok (.iload_n 1, 1) := by decide +kernel
theorem d_P_setInput_5 : decode b_P_setInput 5 = .ok (.iconst 1, 1) := by decide +kernel
theorem d_P_setInput_6 : decode b_P_setInput 6 = .ok (.iastore, 1) := by decide +kernel
theorem d_P_setInput_7 : decode b_P_setInput 7 = .ok (.aload_n 0, 1) := by decide +kernel
theorem d_P_setInput_8 : decode b_P_setInput 8 = .ok (.getfield 15, 3) := by decide +kernel
theorem d_P_setInput_11 : decode b_P_setInput 11 = .ok (.iload_n 1, 1) := by decide +kernel
theorem d_P_setInput_12 : decode b_P_setInput 12 = .ok (.lload_n 2, 1) := by decide +kernel
theorem d_P_setInput_13 : decode b_P_setInput 13 = .ok (.lastore, 1) := by decide +kernel
theorem d_P_setInput_14 : decode b_P_setInput 14 = .ok (.return_, 1) := by decide +kernel
theorem d_P_isTask_0 : decode b_P_isTask 0 = .ok (.aload_n 0, 1) := by decide +kernel
theorem d_P_isTask_1 : decode b_P_isTask 1 = .ok (.getfield 24, 3) := by decide +kernel
theorem d_P_isTask_4 : decode b_P_isTask 4 = .ok (.iload_n 1, 1) := by decide +kernel
theorem d_P_isTask_5 : decode b_P_isTask 5 = .ok (.aaload, 1) := by decide +kernel
theorem d_P_isTask_6 : decode b_P_isTask 6 = .ok (.astore 6, 2) := by decide +kernel
theorem d_P_isTask_8 : decode b_P_isTask 8 = .ok (.aload_n 0, 1) := by decide +kernel
theorem d_P_isTask_9 : decode b_P_isTask 9 = .ok (.getfield 9, 3) := by decide +kernel
theorem d_P_isTask_12 : decode b_P_isTask 12 = .ok (.iload_n 1, 1) := by decide +kernel
theorem d_P_isTask_13 : decode b_P_isTask 13 = .ok (.iaload, 1) := by decide +kernel
theorem d_P_isTask_14 : decode b_P_isTask 14 = .ok (.iconst 2, 1) := by decide +kernel
theorem d_P_isTask_15 : decode b_P_isTask 15 = .ok (.if_icmp .ne 43, 3) := by decide +kernel
theorem d_P_isTask_18 : decode b_P_isTask 18 = .ok (.aload_n 0, 1) := by decide +kernel
theorem d_P_isTask_19 : decode b_P_isTask 19 = .ok (.getfield 19, 3) := by decide +kernel
theorem d_P_isTask_22 : decode b_P_isTask 22 = .ok (.iload_n 1, 1) := by decide +kernel
theorem d_P_isTask_23 : decode b_P_isTask 23 = .ok (.iaload, 1) := by decide +kernel
theorem d_P_isTask_24 : decode b_P_isTask 24 = .ok (.iload_n 2, 1) := by decide +kernel
theorem d_P_isTask_25 : decode b_P_isTask 25 = .ok (.if_icmp .ne 33, 3) := by decide +kernel
theorem d_P_isTask_28 : decode b_P_isTask 28 = .ok (.aload 6, 2) := by decide +kernel
theorem d_P_isTask_30 : decode b_P_isTask 30 = .ok (.iconst 0, 1) := by decide +kernel
theorem d_P_isTask_31 : decode b_P_isTask 31 = .ok (.iaload, 1) := by decide +kernel
theorem d_P_isTask_32 : decode b_P_isTask 32 = .ok (.iload_n 3, 1) := by decide +kernel
theorem d_P_isTask_33 : decode b_P_isTask 33 = .ok (.if_icmp .ne 25, 3) := by decide +kernel
theorem d_P_isTask_36 : decode b_P_isTask 36 = .ok (.aload 6, 2) := by decide +kernel
theorem d_P_isTask_38 : decode b_P_isTask 38 = .ok (.iconst 1, 1) := by decide +kernel
theorem d_P_isTask_39 : decode b_P_isTask 39 = .ok (.iaload, 1) := by decide +kernel
theorem d_P_isTask_40 : decode b_P_isTask 40 = .ok (.iload 4, 2) := by decide +kernel
theorem d_P_isTask_42 : decode b_P_isTask 42 = .ok (.if_icmp .ne 16, 3) := by decide +kernel
theorem d_P_isTask_45 : decode b_P_isTask 45 = .ok (.aload 6, 2) := by decide +kernel
theorem d_P_isTask_47 : decode b_P_isTask 47 = .ok (.iconst 2, 1) := by decide +kernel
theorem d_P_isTask_48 : decode b_P_isTask 48 = .ok (.iaload, 1) := by decide +kernel
theorem d_P_isTask_49 : decode b_P_isTask 49 = .ok (.iload 5, 2) := by decide +kernel
theorem d_P_isTask_51 : decode b_P_isTask 51 = .ok (.if_icmp .ne 7, 3) := by decide +kernel
theorem d_P_isTask_54 : decode b_P_isTask 54 = .ok (.iconst 1, 1) := by decide +kernel
theorem d_P_isTask_55 : decode b_P_isTask 55 = .ok (.goto 4, 3) := by decide +kernel
theorem d_P_isTask_58 : decode b_P_isTask 58 = .ok (.iconst 0, 1) := by decide +kernel
theorem d_P_isTask_59 : decode b_P_isTask 59 = .ok (.ireturn, 1) := by decide +kernel
theorem d_P_setTask_0 : decode b_P_setTask 0 = .ok (.aload_n 0, 1) := by decide +kernel
theorem d_P_setTask_1 : decode b_P_setTask 1 = .ok (.getfield 9, 3) := by decide +kernel
theorem d_P_setTask_4 : decode b_P_setTask 4 = .ok (.iload_n 1, 1) := by decide +kernel
theorem d_P_setTask_5 : decode b_P_setTask 5 = .ok (.iconst 2, 1) := by decide +kernel
theorem d_P_setTask_6 : decode b_P_setTask 6 = .ok (.iastore, 1) := by decide +kernel
theorem d_P_setTask_7 : decode b_P_setTask 7 = .ok (.aload_n 0, 1) := by decide +kernel
theorem d_P_setTask_8 : decode b_P_setTask 8 = .ok (.getfield 19, 3) := by decide +kernel
theorem d_P_setTask_11 : decode b_P_setTask 11 = .ok (.iload_n 1, 1) := by decide +kernel
theorem d_P_setTask_12 : decode b_P_setTask 12 = .ok (.iload_n 2, 1) := by decide +kernel
theorem d_P_setTask_13 : decode b_P_setTask 13 = .ok (.iastore, 1) := by decide +kernel
theorem d_P_setTask_14 : decode b_P_setTask 14 = .ok (.aload_n 0, 1) := by decide +kernel
theorem d_P_setTask_15 : decode b_P_setTask 15 = .ok (.getfield 24, 3) := by decide +kernel
theorem d_P_setTask_18 : decode b_P_setTask 18 = .ok (.iload_n 1, 1) := by decide +kernel
theorem d_P_setTask_19 : decode b_P_setTask 19 = .ok (.aaload, 1) := by decide +kernel
theorem d_P_setTask_20 : decode b_P_setTask 20 = .ok (.iconst 0, 1) := by decide +kernel
theorem d_P_setTask_21 : decode b_P_setTask 21 = .ok (.iload_n 3, 1) := by decide +kernel
theorem d_P_setTask_22 : decode b_P_setTask 22 = .ok (.iastore, 1) := by decide +kernel
theorem d_P_setTask_23 : decode b_P_setTask 23 = .ok (.aload_n 0, 1) := by decide +kernel
theorem d_P_setTask_24 : decode b_P_setTask 24 = .ok (.getfield 24, 3) := by decide +kernel
theorem d_P_setTask_27 : decode b_P_setTask 27 = .ok (.iload_n 1, 1) := by decide +kernel
theorem d_P_setTask_28 : decode b_P_setTask 28 = .ok (.aaload, 1) := by decide +kernel
theorem d_P_setTask_29 : decode b_P_setTask 29 = .ok (.iconst 1, 1) := by decide +kernel
theorem d_P_setTask_30 : decode b_P_setTask 30 = .ok (.iload 4, 2) := by decide +kernel
theorem d_P_setTask_32 : decode b_P_setTask 32 = .ok (.iastore, 1) := by decide +kernel
theorem d_P_setTask_33 : decode b_P_setTask 33 = .ok (.aload_n 0, 1) := by decide +kernel
theorem d_P_setTask_34 : decode b_P_setTask 34 = .ok (.getfield 24, 3) := by decide +kernel
theorem d_P_setTask_37 : decode b_P_setTask 37 = .ok (.iload_n 1, 1) := by decide +kernel
theorem d_P_setTask_38 : decode b_P_setTask 38 = .ok (.aaload, 1) := by decide +kernel
theorem d_P_setTask_39 : decode b_P_setTask 39 = .ok (.iconst 2, 1) := by decide +kernel
theorem d_P_setTask_40 : decode b_P_setTask 40 = .ok (.iload 5, 2) := by decide +kernel
theorem d_P_setTask_42 : decode b_P_setTask 42 = .ok (.iastore, 1) := by decide +kernel
theorem d_P_setTask_43 : decode b_P_setTask 43 = .ok (.aload_n 0, 1) := by decide +kernel
theorem d_P_setTask_44 : decode b_P_setTask 44 = .ok (.getfield 27, 3) := by decide +kernel
theorem d_P_setTask_47 : decode b_P_setTask 47 = .ok (.iload_n 1, 1) := by decide +kernel
theorem d_P_setTask_48 : decode b_P_setTask 48 = .ok (.iload_n 3, 1) := by decide +kernel
theorem d_P_setTask_49 : decode b_P_setTask 49 = .ok (.iload 4, 2) := by decide +kernel
theorem d_P_setTask_51 : decode b_P_setTask 51 = .ok (.iload 5, 2) := by decide +kernel
theorem d_P_setTask_53 : decode b_P_setTask 53 = .ok (.invokestatic 30, 3) := by decide +kernel
theorem d_P_setTask_56 : decode b_P_setTask 56 = .ok (.iastore, 1) := by decide +kernel
theorem d_P_setTask_57 : decode b_P_setTask 57 = .ok (.return_, 1) := by decide +kernel
theorem d_S_init_0 : decode b_S_init 0 = .ok (.aload_n 0, 1) := by decide +kernel
theorem d_S_init_1 : decode b_S_init 1 = .ok (.invokespecial 3, 3) := by decide +kernel
theorem d_S_init_4 : decode b_S_init 4 = .ok (.aload_n 0, 1) := by decide +kernel
theorem d_S_init_5 : decode b_S_init 5 = .ok (.bipush 12, 2) := by decide +kernel
theorem d_S_init_7 : decode b_S_init 7 = .ok (.newarray .boolean, 2) := by decide +kernel
theorem d_S_init_9 : decode b_S_init 9 = .ok (.putfield 9, 3) := by decide +kernel
theorem d_S_init_12 : decode b_S_init 12 = .ok (.aload_n 0, 1) := by decide +kernel
theorem d_S_init_13 : decode b_S_init 13 = .ok (.bipush 12, 2) := by decide +kernel
theorem d_S_init_15 : decode b_S_init 15 = .ok (.newarray .boolean, 2) := by decide +kernel
theorem d_S_init_17 : decode b_S_init 17 = .ok (.putfield 15, 3) := by decide +kernel
theorem d_S_init_20 : decode b_S_init 20 = .ok (.aload_n 0, 1) := by decide +kernel
theorem d_S_init_21 : decode b_S_init 21 = .ok (.bipush 12, 2) := by decide +kernel
theorem d_S_init_23 : decode b_S_init 23 = .ok (.newarray .long, 2) := by decide +kernel
theorem d_S_init_25 : decode b_S_init 25 = .ok (.putfield 18, 3) := by decide +kernel
theorem d_S_init_28 : decode b_S_init 28 = .ok (.aload_n 0, 1) := by decide +kernel
theorem d_S_init_29 : decode b_S_init 29 = .ok (.sipush 192, 3) := by decide +kernel
theorem d_S_init_32 : decode b_S_init 32 = .ok (.anewarray 22, 3) := by decide +kernel
theorem d_S_init_35 : decode b_S_init 35 = .ok (.putfield 24, 3) := by decide +kernel
theorem d_S_init_38 : decode b_S_init 38 = .ok (.aload_n 0, 1) := by decide +kernel
theorem d_S_init_39 : decode b_S_init 39 = .ok (.aload_n 1, 1) := by decide +kernel
theorem d_S_init_40 : decode b_S_init 40 = .ok (.putfield 28, 3) := by decide +kernel
theorem d_S_init_43 : decode b_S_init 43 = .ok (.aload_n 0, 1) := by decide +kernel
theorem d_S_init_44 : decode b_S_init 44 = .ok (.aload_n 2, 1) := by decide +kernel
theorem d_S_init_45 : decode b_S_init 45 = .ok (.putfield 32, 3) := by decide +kernel
theorem d_S_init_48 : decode b_S_init 48 = .ok (.return_, 1) := by decide +kernel
theorem d_S_result_0 : decode b_S_result 0 = .ok (.aload_n 0, 1) := by decide +kernel
theorem d_S_result_1 : decode b_S_result 1 = .ok (.aload_n 1, 1) := by decide +kernel
theorem d_S_result_2 : decode b_S_result 2 = .ok (.putfield 32, 3) := by decide +kernel
theorem d_S_result_5 : decode b_S_result 5 = .ok (.aload_n 0, 1) := by decide +kernel
theorem d_S_result_6 : decode b_S_result 6 = .ok (.iload_n 2, 1) := by decide +kernel
theorem d_S_result_7 : decode b_S_result 7 = .ok (.putfield 36, 3) := by decide +kernel
theorem d_S_result_10 : decode b_S_result 10 = .ok (.aload_n 0, 1) := by decide +kernel
theorem d_S_result_11 : decode b_S_result 11 = .ok (.iconst 0, 1) := by decide +kernel
theorem d_S_result_12 : decode b_S_result 12 = .ok (.putfield 40, 3) := by decide +kernel
theorem d_S_result_15 : decode b_S_result 15 = .ok (.aload_n 0, 1) := by decide +kernel
theorem d_S_result_16 : decode b_S_result 16 = .ok (.iconst 0, 1) := by decide +kernel
theorem d_S_result_17 : decode b_S_result 17 = .ok (.putfield 44, 3) := by decide +kernel
theorem d_S_result_20 : decode b_S_result 20 = .ok (.iconst 0, 1) := by decide +kernel
theorem d_S_result_21 : decode b_S_result 21 = .ok (.istore 4, 2) := by decide +kernel
theorem d_S_result_23 : decode b_S_result 23 = .ok (.iload 4, 2) := by decide +kernel
theorem d_S_result_25 : decode b_S_result 25 = .ok (.bipush 12, 2) := by decide +kernel
theorem d_S_result_27 : decode b_S_result 27 = .ok (.if_icmp .ge 25, 3) := by decide +kernel
theorem d_S_result_30 : decode b_S_result 30 = .ok (.aload_n 0, 1) := by decide +kernel
theorem d_S_result_31 : decode b_S_result 31 = .ok (.getfield 9, 3) := by decide +kernel
theorem d_S_result_34 : decode b_S_result 34 = .ok (.iload 4, 2) := by decide +kernel
theorem d_S_result_36 : decode b_S_result 36 = .ok (.iconst 0, 1) := by decide +kernel
theorem d_S_result_37 : decode b_S_result 37 = .ok (.bastore, 1) := by decide +kernel
theorem d_S_result_38 : decode b_S_result 38 = .ok (.aload_n 0, 1) := by decide +kernel
theorem d_S_result_39 : decode b_S_result 39 = .ok (.getfield 15, 3) := by decide +kernel
theorem d_S_result_42 : decode b_S_result 42 = .ok (.iload 4, 2) := by decide +kernel
theorem d_S_result_44 : decode b_S_result 44 = .ok (.iconst 0, 1) := by decide +kernel
theorem d_S_result_45 : decode b_S_result 45 = .ok (.bastore, 1) := by decide +kernel
theorem d_S_result_46 : decode b_S_result 46 = .ok (.iinc 4 1, 3) := by decide +kernel
theorem d_S_result_49 : decode b_S_result 49 = .ok (.goto (-26), 3) := by decide +kernel
theorem d_S_result_52 : decode b_S_result 52 = .ok (.aload_n 0, 1) := by decide +kernel
theorem d_S_result_53 : decode b_S_result 53 = .ok (.iload_n 3, 1) := by decide +kernel
theorem d_S_result_54 : decode b_S_result 54 = .ok (.invokevirtual 47, 3) := by decide +kernel
theorem d_S_result_57 : decode b_S_result 57 = .ok (.lreturn, 1) := by decide +kernel
theorem d_S_hasFailed_0 : decode b_S_hasFailed 0 = .ok (.aload_n 0, 1) := by decide +kernel
theorem d_S_hasFailed_1 : decode b_S_hasFailed 1 = .ok (.getfield 44, 3) := by decide +kernel
theorem d_S_hasFailed_4 : decode b_S_hasFailed 4 = .ok (.ifCond .eq 7, 3) := by decide +kernel
theorem d_S_hasFailed_7 : decode b_S_hasFailed 7 = .ok (.iconst 1, 1) := by decide +kernel
theorem d_S_hasFailed_8 : decode b_S_hasFailed 8 = .ok (.goto 4, 3) := by decide +kernel
theorem d_S_hasFailed_11 : decode b_S_hasFailed 11 = .ok (.iconst 0, 1) := by decide +kernel
theorem d_S_hasFailed_12 : decode b_S_hasFailed 12 = .ok (.ireturn, 1) := by decide +kernel
theorem d_S_fail_0 : decode b_S_fail 0 = .ok (.aload_n 0, 1) := by decide +kernel
theorem d_S_fail_1 : decode b_S_fail 1 = .ok (.getfield 44, 3) := by decide +kernel
theorem d_S_fail_4 : decode b_S_fail 4 = .ok (.ifCond .ne 8, 3) := by decide +kernel
theorem d_S_fail_7 : decode b_S_fail 7 = .ok (.aload_n 0, 1) := by decide +kernel
theorem d_S_fail_8 : decode b_S_fail 8 = .ok (.iload_n 1, 1) := by decide +kernel
theorem d_S_fail_9 : decode b_S_fail 9 = .ok (.putfield 44, 3) := by decide +kernel
theorem d_S_fail_12 : decode b_S_fail 12 = .ok (.lconst 0, 1) := by decide +kernel
theorem d_S_fail_13 : decode b_S_fail 13 = .ok (.lreturn, 1) := by decide +kernel
theorem d_S_valueOf_0 : decode b_S_valueOf 0 = .ok (.aload_n 0, 1) := by decide +kernel
theorem d_S_valueOf_1 : decode b_S_valueOf 1 = .ok (.getfield 9, 3) := by decide +kernel
theorem d_S_valueOf_4 : decode b_S_valueOf 4 = .ok (.iload_n 1, 1) := by decide +kernel
theorem d_S_valueOf_5 : decode b_S_valueOf 5 = .ok (.baload, 1) := by decide +kernel
theorem d_S_valueOf_6 : decode b_S_valueOf 6 = .ok (.ifCond .eq 10, 3) := by decide +kernel
theorem d_S_valueOf_9 : decode b_S_valueOf 9 = .ok (.aload_n 0, 1) := by decide +kernel
theorem d_S_valueOf_10 : decode b_S_valueOf 10 = .ok (.getfield 18, 3) := by decide +kernel
theorem d_S_valueOf_13 : decode b_S_valueOf 13 = .ok (.iload_n 1, 1) := by decide +kernel
theorem d_S_valueOf_14 : decode b_S_valueOf 14 = .ok (.laload, 1) := by decide +kernel
theorem d_S_valueOf_15 : decode b_S_valueOf 15 = .ok (.lreturn, 1) := by decide +kernel
theorem d_S_valueOf_16 : decode b_S_valueOf 16 = .ok (.aload_n 0, 1) := by decide +kernel
theorem d_S_valueOf_17 : decode b_S_valueOf 17 = .ok (.getfield 15, 3) := by decide +kernel
theorem d_S_valueOf_20 : decode b_S_valueOf 20 = .ok (.iload_n 1, 1) := by decide +kernel
theorem d_S_valueOf_21 : decode b_S_valueOf 21 = .ok (.baload, 1) := by decide +kernel
theorem d_S_valueOf_22 : decode b_S_valueOf 22 = .ok (.ifCond .eq 23, 3) := by decide +kernel
theorem d_S_valueOf_25 : decode b_S_valueOf 25 = .ok (.aload_n 0, 1) := by decide +kernel
theorem d_S_valueOf_26 : decode b_S_valueOf 26 = .ok (.getfield 32, 3) := by decide +kernel
theorem d_S_valueOf_29 : decode b_S_valueOf 29 = .ok (.getfield 51, 3) := by decide +kernel
theorem d_S_valueOf_32 : decode b_S_valueOf 32 = .ok (.bipush 10, 2) := by decide +kernel
theorem d_S_valueOf_34 : decode b_S_valueOf 34 = .ok (.dup2, 1) := by decide +kernel
theorem d_S_valueOf_35 : decode b_S_valueOf 35 = .ok (.iaload, 1) := by decide +kernel
theorem d_S_valueOf_36 : decode b_S_valueOf 36 = .ok (.iconst 1, 1) := by decide +kernel
theorem d_S_valueOf_37 : decode b_S_valueOf 37 = .ok (.iadd, 1) := by decide +kernel
theorem d_S_valueOf_38 : decode b_S_valueOf 38 = .ok (.iastore, 1) := by decide +kernel
theorem d_S_valueOf_39 : decode b_S_valueOf 39 = .ok (.aload_n 0, 1) := by decide +kernel
theorem d_S_valueOf_40 : decode b_S_valueOf 40 = .ok (.iconst 3, 1) := by decide +kernel
theorem d_S_valueOf_41 : decode b_S_valueOf 41 = .ok (.invokevirtual 57, 3) := by decide +kernel
theorem d_S_valueOf_44 : decode b_S_valueOf 44 = .ok (.lreturn, 1) := by decide +kernel
theorem d_S_valueOf_45 : decode b_S_valueOf 45 = .ok (.aload_n 0, 1) := by decide +kernel
theorem d_S_valueOf_46 : decode b_S_valueOf 46 = .ok (.getfield 28, 3) := by decide +kernel
theorem d_S_valueOf_49 : decode b_S_valueOf 49 = .ok (.getfield 60, 3) := by decide +kernel
theorem d_S_valueOf_52 : decode b_S_valueOf 52 = .ok (.iload_n 1, 1) := by decide +kernel
theorem d_S_valueOf_53 : decode b_S_valueOf 53 = .ok (.iaload, 1) := by decide +kernel
theorem d_S_valueOf_54 : decode b_S_valueOf 54 = .ok (.ifCond .ne 9, 3) := by decide +kernel
theorem d_S_valueOf_57 : decode b_S_valueOf 57 = .ok (.aload_n 0, 1) := by decide +kernel
theorem d_S_valueOf_58 : decode b_S_valueOf 58 = .ok (.iconst 1, 1) := by decide +kernel
theorem d_S_valueOf_59 : decode b_S_valueOf 59 = .ok (.invokevirtual 57, 3) := by decide +kernel
theorem d_S_valueOf_62 : decode b_S_valueOf 62 = .ok (.lreturn, 1) := by decide +kernel
theorem d_S_valueOf_63 : decode b_S_valueOf 63 = .ok (.aload_n 0, 1) := by decide +kernel
theorem d_S_valueOf_64 : decode b_S_valueOf 64 = .ok (.getfield 28, 3) := by decide +kernel
theorem d_S_valueOf_67 : decode b_S_valueOf 67 = .ok (.getfield 60, 3) := by decide +kernel
theorem d_S_valueOf_70 : decode b_S_valueOf 70 = .ok (.iload_n 1, 1) := by decide +kernel
theorem d_S_valueOf_71 : decode b_S_valueOf 71 = .ok (.iaload, 1) := by decide +kernel
theorem d_S_valueOf_72 : decode b_S_valueOf 72 = .ok (.iconst 1, 1) := by decide +kernel
theorem d_S_valueOf_73 : decode b_S_valueOf 73 = .ok (.if_icmp .ne 18, 3) := by decide +kernel
theorem d_S_valueOf_76 : decode b_S_valueOf 76 = .ok (.aload_n 0, 1) := by decide +kernel
theorem d_S_valueOf_77 : decode b_S_valueOf 77 = .ok (.iload_n 1, 1) := by decide +kernel
theorem d_S_valueOf_78 : decode b_S_valueOf 78 = .ok (.aload_n 0, 1) := by decide +kernel
theorem d_S_valueOf_79 : decode b_S_valueOf 79 = .ok (.getfield 28, 3) := by decide +kernel
theorem d_S_valueOf_82 : decode b_S_valueOf 82 = .ok (.getfield 65, 3) := by decide +kernel
theorem d_S_valueOf_85 : decode b_S_valueOf 85 = .ok (.iload_n 1, 1) := by decide +kernel
theorem d_S_valueOf_86 : decode b_S_valueOf 86 = .ok (.laload, 1) := by decide +kernel
theorem d_S_valueOf_87 : decode b_S_valueOf 87 = .ok (.invokevirtual 66, 3) := by decide +kernel
theorem d_S_valueOf_90 : decode b_S_valueOf 90 = .ok (.lreturn, 1) := by decide +kernel
theorem d_S_valueOf_91 : decode b_S_valueOf 91 = .ok (.aload_n 0, 1) := by decide +kernel
theorem d_S_valueOf_92 : decode b_S_valueOf 92 = .ok (.getfield 15, 3) := by decide +kernel
theorem d_S_valueOf_95 : decode b_S_valueOf 95 = .ok (.iload_n 1, 1) := by decide +kernel
theorem d_S_valueOf_96 : decode b_S_valueOf 96 = .ok (.iconst 1, 1) := by decide +kernel
theorem d_S_valueOf_97 : decode b_S_valueOf 97 = .ok (.bastore, 1) := by decide +kernel
theorem d_S_valueOf_98 : decode b_S_valueOf 98 = .ok (.aload_n 0, 1) := by decide +kernel
theorem d_S_valueOf_99 : decode b_S_valueOf 99 = .ok (.iload_n 1, 1) := by decide +kernel
theorem d_S_valueOf_100 : decode b_S_valueOf 100 = .ok (.invokevirtual 70, 3) := by decide +kernel
theorem d_S_valueOf_103 : decode b_S_valueOf 103 = .ok (.lreturn, 1) := by decide +kernel
theorem d_S_finish_0 : decode b_S_finish 0 = .ok (.aload_n 0, 1) := by decide +kernel
theorem d_S_finish_1 : decode b_S_finish 1 = .ok (.getfield 15, 3) := by decide +kernel
theorem d_S_finish_4 : decode b_S_finish 4 = .ok (.iload_n 1, 1) := by decide +kernel
theorem d_S_finish_5 : decode b_S_finish 5 = .ok (.iconst 0, 1) := by decide +kernel
theorem d_S_finish_6 : decode b_S_finish 6 = .ok (.bastore, 1) := by decide +kernel
theorem d_S_finish_7 : decode b_S_finish 7 = .ok (.aload_n 0, 1) := by decide +kernel
theorem d_S_finish_8 : decode b_S_finish 8 = .ok (.getfield 9, 3) := by decide +kernel
theorem d_S_finish_11 : decode b_S_finish 11 = .ok (.iload_n 1, 1) := by decide +kernel
theorem d_S_finish_12 : decode b_S_finish 12 = .ok (.iconst 1, 1) := by decide +kernel
theorem d_S_finish_13 : decode b_S_finish 13 = .ok (.bastore, 1) := by decide +kernel
theorem d_S_finish_14 : decode b_S_finish 14 = .ok (.aload_n 0, 1) := by decide +kernel
theorem d_S_finish_15 : decode b_S_finish 15 = .ok (.getfield 18, 3) := by decide +kernel
theorem d_S_finish_18 : decode b_S_finish 18 = .ok (.iload_n 1, 1) := by decide +kernel
theorem d_S_finish_19 : decode b_S_finish 19 = .ok (.lload_n 2, 1) := by decide +kernel
theorem d_S_finish_20 : decode b_S_finish 20 = .ok (.lastore, 1) := by decide +kernel
theorem d_S_finish_21 : decode b_S_finish 21 = .ok (.lload_n 2, 1) := by decide +kernel
theorem d_S_finish_22 : decode b_S_finish 22 = .ok (.lreturn, 1) := by decide +kernel
theorem d_S_taskValue_0 : decode b_S_taskValue 0 = .ok (.aload_n 0, 1) := by decide +kernel
theorem d_S_taskValue_1 : decode b_S_taskValue 1 = .ok (.getfield 32, 3) := by decide +kernel
theorem d_S_taskValue_4 : decode b_S_taskValue 4 = .ok (.aload_n 0, 1) := by decide +kernel
theorem d_S_taskValue_5 : decode b_S_taskValue 5 = .ok (.getfield 36, 3) := by decide +kernel
theorem d_S_taskValue_8 : decode b_S_taskValue 8 = .ok (.iload_n 1, 1) := by decide +kernel
theorem d_S_taskValue_9 : decode b_S_taskValue 9 = .ok (.invokevirtual 73, 3) := by decide +kernel
theorem d_S_taskValue_12 : decode b_S_taskValue 12 = .ok (.astore_n 2, 1) := by decide +kernel
theorem d_S_taskValue_13 : decode b_S_taskValue 13 = .ok (.aload_n 2, 1) := by decide +kernel
theorem d_S_taskValue_14 : decode b_S_taskValue 14 = .ok (.ifnull 34, 3) := by decide +kernel
theorem d_S_taskValue_17 : decode b_S_taskValue 17 = .ok (.aload_n 0, 1) := by decide +kernel
theorem d_S_taskValue_18 : decode b_S_taskValue 18 = .ok (.aload_n 2, 1) := by decide +kernel
theorem d_S_taskValue_19 : decode b_S_taskValue 19 = .ok (.invokevirtual 77, 3) := by decide +kernel
theorem d_S_taskValue_22 : decode b_S_taskValue 22 = .ok (.ifCond .eq 26, 3) := by decide +kernel
theorem d_S_taskValue_25 : decode b_S_taskValue 25 = .ok (.aload_n 0, 1) := by decide +kernel
theorem d_S_taskValue_26 : decode b_S_taskValue 26 = .ok (.getfield 32, 3) := by decide +kernel
theorem d_S_taskValue_29 : decode b_S_taskValue 29 = .ok (.getfield 51, 3) := by decide +kernel
theorem d_S_taskValue_32 : decode b_S_taskValue 32 = .ok (.iconst 1, 1) := by decide +kernel
theorem d_S_taskValue_33 : decode b_S_taskValue 33 = .ok (.dup2, 1) := by decide +kernel
theorem d_S_taskValue_34 : decode b_S_taskValue 34 = .ok (.iaload, 1) := by decide +kernel
theorem d_S_taskValue_35 : decode b_S_taskValue 35 = .ok (.iconst 1, 1) := by decide +kernel
theorem d_S_taskValue_36 : decode b_S_taskValue 36 = .ok (.iadd, 1) := by decide +kernel
theorem d_S_taskValue_37 : decode b_S_taskValue 37 = .ok (.iastore, 1) := by decide +kernel
theorem d_S_taskValue_38 : decode b_S_taskValue 38 = .ok (.aload_n 0, 1) := by decide +kernel
theorem d_S_taskValue_39 : decode b_S_taskValue 39 = .ok (.iload_n 1, 1) := by decide +kernel
theorem d_S_taskValue_40 : decode b_S_taskValue 40 = .ok (.aload_n 2, 1) := by decide +kernel
theorem d_S_taskValue_41 : decode b_S_taskValue 41 = .ok (.getfield 81, 3) := by decide +kernel
theorem d_S_taskValue_44 : decode b_S_taskValue 44 = .ok (.invokevirtual 66, 3) := by decide +kernel
theorem d_S_taskValue_47 : decode b_S_taskValue 47 = .ok (.lreturn, 1) := by decide +kernel
theorem d_S_taskValue_48 : decode b_S_taskValue 48 = .ok (.aload_n 0, 1) := by decide +kernel
theorem d_S_taskValue_49 : decode b_S_taskValue 49 = .ok (.iload_n 1, 1) := by decide +kernel
theorem d_S_taskValue_50 : decode b_S_taskValue 50 = .ok (.invokevirtual 85, 3) := by decide +kernel
theorem d_S_taskValue_53 : decode b_S_taskValue 53 = .ok (.astore_n 3, 1) := by decide +kernel
theorem d_S_taskValue_54 : decode b_S_taskValue 54 = .ok (.aload_n 3, 1) := by decide +kernel
theorem d_S_taskValue_55 : decode b_S_taskValue 55 = .ok (.ifnull 38, 3) := by decide +kernel
theorem d_S_taskValue_58 : decode b_S_taskValue 58 = .ok (.aload_n 0, 1) := by decide +kernel
theorem d_S_taskValue_59 : decode b_S_taskValue 59 = .ok (.getfield 32, 3) := by decide +kernel
theorem d_S_taskValue_62 : decode b_S_taskValue 62 = .ok (.getfield 51, 3) := by decide +kernel
theorem d_S_taskValue_65 : decode b_S_taskValue 65 = .ok (.iconst 2, 1) := by decide +kernel
theorem d_S_taskValue_66 : decode b_S_taskValue 66 = .ok (.dup2, 1) := by decide +kernel
theorem d_S_taskValue_67 : decode b_S_taskValue 67 = .ok (.iaload, 1) := by decide +kernel
theorem d_S_taskValue_68 : decode b_S_taskValue 68 = .ok (.iconst 1, 1) := by decide +kernel
theorem d_S_taskValue_69 : decode b_S_taskValue 69 = .ok (.iadd, 1) := by decide +kernel
theorem d_S_taskValue_70 : decode b_S_taskValue 70 = .ok (.iastore, 1) := by decide +kernel
theorem d_S_taskValue_71 : decode b_S_taskValue 71 = .ok (.aload_n 0, 1) := by decide +kernel
theorem d_S_taskValue_72 : decode b_S_taskValue 72 = .ok (.getfield 32, 3) := by decide +kernel
theorem d_S_taskValue_75 : decode b_S_taskValue 75 = .ok (.aload_n 0, 1) := by decide +kernel
theorem d_S_taskValue_76 : decode b_S_taskValue 76 = .ok (.getfield 36, 3) := by decide +kernel
theorem d_S_taskValue_79 : decode b_S_taskValue 79 = .ok (.aload_n 3, 1) := by decide +kernel
theorem d_S_taskValue_80 : decode b_S_taskValue 80 = .ok (.invokevirtual 89, 3) := by decide +kernel
theorem d_S_taskValue_83 : decode b_S_taskValue 83 = .ok (.aload_n 0, 1) := by decide +kernel
theorem d_S_taskValue_84 : decode b_S_taskValue 84 = .ok (.iload_n 1, 1) := by decide +kernel
theorem d_S_taskValue_85 : decode b_S_taskValue 85 = .ok (.aload_n 3, 1) := by decide +kernel
theorem d_S_taskValue_86 : decode b_S_taskValue 86 = .ok (.getfield 81, 3) := by decide +kernel
theorem d_S_taskValue_89 : decode b_S_taskValue 89 = .ok (.invokevirtual 66, 3) := by decide +kernel
end
section
theorem d_S_taskValue_92 : decode b_S_taskValue 92 = .ok (.lreturn, 1) := by decide +kernel
theorem d_S_taskValue_93 : decode b_S_taskValue 93 = .ok (.aload_n 0, 1) := by decide +kernel
theorem d_S_taskValue_94 : decode b_S_taskValue 94 = .ok (.invokevirtual 93, 3) := by decide +kernel
theorem d_S_taskValue_97 : decode b_S_taskValue 97 = .ok (.ifCond .eq 7, 3) := by decide +kernel
theorem d_S_taskValue_100 : decode b_S_taskValue 100 = .ok (.lconst 0, 1) := by decide +kernel
theorem d_S_taskValue_101 : decode b_S_taskValue 101 = .ok (.goto 8, 3) := by decide +kernel
theorem d_S_taskValue_104 : decode b_S_taskValue 104 = .ok (.aload_n 0, 1) := by decide +kernel
theorem d_S_taskValue_105 : decode b_S_taskValue 105 = .ok (.iload_n 1, 1) := by decide +kernel
theorem d_S_taskValue_106 : decode b_S_taskValue 106 = .ok (.invokevirtual 97, 3) := by decide +kernel
theorem d_S_taskValue_109 : decode b_S_taskValue 109 = .ok (.lreturn, 1) := by decide +kernel
theorem d_S_agrees_0 : decode b_S_agrees 0 = .ok (.iconst 0, 1) := by decide +kernel
theorem d_S_agrees_1 : decode b_S_agrees 1 = .ok (.istore_n 2, 1) := by decide +kernel
theorem d_S_agrees_2 : decode b_S_agrees 2 = .ok (.iload_n 2, 1) := by decide +kernel
theorem d_S_agrees_3 : decode b_S_agrees 3 = .ok (.aload_n 1, 1) := by decide +kernel
theorem d_S_agrees_4 : decode b_S_agrees 4 = .ok (.getfield 100, 3) := by decide +kernel
theorem d_S_agrees_7 : decode b_S_agrees 7 = .ok (.if_icmp .ge 38, 3) := by decide +kernel
theorem d_S_agrees_10 : decode b_S_agrees 10 = .ok (.aload_n 0, 1) := by decide +kernel
theorem d_S_agrees_11 : decode b_S_agrees 11 = .ok (.invokevirtual 93, 3) := by decide +kernel
theorem d_S_agrees_14 : decode b_S_agrees 14 = .ok (.ifCond .ne 31, 3) := by decide +kernel
theorem d_S_agrees_17 : decode b_S_agrees 17 = .ok (.aload_n 0, 1) := by decide +kernel
theorem d_S_agrees_18 : decode b_S_agrees 18 = .ok (.aload_n 1, 1) := by decide +kernel
theorem d_S_agrees_19 : decode b_S_agrees 19 = .ok (.getfield 103, 3) := by decide +kernel
theorem d_S_agrees_22 : decode b_S_agrees 22 = .ok (.iload_n 2, 1) := by decide +kernel
theorem d_S_agrees_23 : decode b_S_agrees 23 = .ok (.iaload, 1) := by decide +kernel
theorem d_S_agrees_24 : decode b_S_agrees 24 = .ok (.invokevirtual 47, 3) := by decide +kernel
theorem d_S_agrees_27 : decode b_S_agrees 27 = .ok (.aload_n 1, 1) := by decide +kernel
theorem d_S_agrees_28 : decode b_S_agrees 28 = .ok (.getfield 106, 3) := by decide +kernel
theorem d_S_agrees_31 : decode b_S_agrees 31 = .ok (.iload_n 2, 1) := by decide +kernel
theorem d_S_agrees_32 : decode b_S_agrees 32 = .ok (.laload, 1) := by decide +kernel
theorem d_S_agrees_33 : decode b_S_agrees 33 = .ok (.lcmp, 1) := by decide +kernel
theorem d_S_agrees_34 : decode b_S_agrees 34 = .ok (.ifCond .eq 5, 3) := by decide +kernel
theorem d_S_agrees_37 : decode b_S_agrees 37 = .ok (.iconst 0, 1) := by decide +kernel
theorem d_S_agrees_38 : decode b_S_agrees 38 = .ok (.ireturn, 1) := by decide +kernel
theorem d_S_agrees_39 : decode b_S_agrees 39 = .ok (.iinc 2 1, 3) := by decide +kernel
theorem d_S_agrees_42 : decode b_S_agrees 42 = .ok (.goto (-40), 3) := by decide +kernel
theorem d_S_agrees_45 : decode b_S_agrees 45 = .ok (.aload_n 0, 1) := by decide +kernel
theorem d_S_agrees_46 : decode b_S_agrees 46 = .ok (.invokevirtual 93, 3) := by decide +kernel
theorem d_S_agrees_49 : decode b_S_agrees 49 = .ok (.ifCond .ne 7, 3) := by decide +kernel
theorem d_S_agrees_52 : decode b_S_agrees 52 = .ok (.iconst 1, 1) := by decide +kernel
theorem d_S_agrees_53 : decode b_S_agrees 53 = .ok (.goto 4, 3) := by decide +kernel
theorem d_S_agrees_56 : decode b_S_agrees 56 = .ok (.iconst 0, 1) := by decide +kernel
theorem d_S_agrees_57 : decode b_S_agrees 57 = .ok (.ireturn, 1) := by decide +kernel
theorem d_S_agreeingEntry_0 : decode b_S_agreeingEntry 0 = .ok (.iload_n 1, 1) := by decide +kernel
theorem d_S_agreeingEntry_1 : decode b_S_agreeingEntry 1 = .ok (.bipush 16, 2) := by decide +kernel
theorem d_S_agreeingEntry_3 : decode b_S_agreeingEntry 3 = .ok (.imul, 1) := by decide +kernel
theorem d_S_agreeingEntry_4 : decode b_S_agreeingEntry 4 = .ok (.istore_n 2, 1) := by decide +kernel
theorem d_S_agreeingEntry_5 : decode b_S_agreeingEntry 5 = .ok (.aload_n 0, 1) := by decide +kernel
theorem d_S_agreeingEntry_6 : decode b_S_agreeingEntry 6 = .ok (.getfield 32, 3) := by decide +kernel
theorem d_S_agreeingEntry_9 : decode b_S_agreeingEntry 9 = .ok (.iload_n 1, 1) := by decide +kernel
theorem d_S_agreeingEntry_10 : decode b_S_agreeingEntry 10 = .ok (.aload_n 0, 1) := by decide +kernel
theorem d_S_agreeingEntry_11 : decode b_S_agreeingEntry 11 = .ok (.getfield 24, 3) := by decide +kernel
theorem d_S_agreeingEntry_14 : decode b_S_agreeingEntry 14 = .ok (.iload_n 2, 1) := by decide +kernel
theorem d_S_agreeingEntry_15 : decode b_S_agreeingEntry 15 = .ok (.invokevirtual 107, 3) := by decide +kernel
theorem d_S_agreeingEntry_18 : decode b_S_agreeingEntry 18 = .ok (.istore_n 3, 1) := by decide +kernel
theorem d_S_agreeingEntry_19 : decode b_S_agreeingEntry 19 = .ok (.iconst 0, 1) := by decide +kernel
theorem d_S_agreeingEntry_20 : decode b_S_agreeingEntry 20 = .ok (.istore 4, 2) := by decide +kernel
theorem d_S_agreeingEntry_22 : decode b_S_agreeingEntry 22 = .ok (.iload 4, 2) := by decide +kernel
theorem d_S_agreeingEntry_24 : decode b_S_agreeingEntry 24 = .ok (.iload_n 3, 1) := by decide +kernel
theorem d_S_agreeingEntry_25 : decode b_S_agreeingEntry 25 = .ok (.if_icmp .ge 44, 3) := by decide +kernel
theorem d_S_agreeingEntry_28 : decode b_S_agreeingEntry 28 = .ok (.aload_n 0, 1) := by decide +kernel
theorem d_S_agreeingEntry_29 : decode b_S_agreeingEntry 29 = .ok (.invokevirtual 93, 3) := by decide +kernel
theorem d_S_agreeingEntry_32 : decode b_S_agreeingEntry 32 = .ok (.ifCond .ne 37, 3) := by decide +kernel
theorem d_S_agreeingEntry_35 : decode b_S_agreeingEntry 35 = .ok (.aload_n 0, 1) := by decide +kernel
theorem d_S_agreeingEntry_36 : decode b_S_agreeingEntry 36 = .ok (.getfield 24, 3) := by decide +kernel
theorem d_S_agreeingEntry_39 : decode b_S_agreeingEntry 39 = .ok (.iload_n 2, 1) := by decide +kernel
theorem d_S_agreeingEntry_40 : decode b_S_agreeingEntry 40 = .ok (.iload 4, 2) := by decide +kernel
theorem d_S_agreeingEntry_42 : decode b_S_agreeingEntry 42 = .ok (.iadd, 1) := by decide +kernel
theorem d_S_agreeingEntry_43 : decode b_S_agreeingEntry 43 = .ok (.aaload, 1) := by decide +kernel
theorem d_S_agreeingEntry_44 : decode b_S_agreeingEntry 44 = .ok (.astore 5, 2) := by decide +kernel
theorem d_S_agreeingEntry_46 : decode b_S_agreeingEntry 46 = .ok (.aload 5, 2) := by decide +kernel
theorem d_S_agreeingEntry_48 : decode b_S_agreeingEntry 48 = .ok (.ifnull 15, 3) := by decide +kernel
theorem d_S_agreeingEntry_51 : decode b_S_agreeingEntry 51 = .ok (.aload_n 0, 1) := by decide +kernel
theorem d_S_agreeingEntry_52 : decode b_S_agreeingEntry 52 = .ok (.aload 5, 2) := by decide +kernel
theorem d_S_agreeingEntry_54 : decode b_S_agreeingEntry 54 = .ok (.invokevirtual 77, 3) := by decide +kernel
theorem d_S_agreeingEntry_57 : decode b_S_agreeingEntry 57 = .ok (.ifCond .eq 6, 3) := by decide +kernel
theorem d_S_agreeingEntry_60 : decode b_S_agreeingEntry 60 = .ok (.aload 5, 2) := by decide +kernel
theorem d_S_agreeingEntry_62 : decode b_S_agreeingEntry 62 = .ok (.areturn, 1) := by decide +kernel
theorem d_S_agreeingEntry_63 : decode b_S_agreeingEntry 63 = .ok (.iinc 4 1, 3) := by decide +kernel
theorem d_S_agreeingEntry_66 : decode b_S_agreeingEntry 66 = .ok (.goto (-44), 3) := by decide +kernel
theorem d_S_agreeingEntry_69 : decode b_S_agreeingEntry 69 = .ok (.aconst_null, 1) := by decide +kernel
theorem d_S_agreeingEntry_70 : decode b_S_agreeingEntry 70 = .ok (.areturn, 1) := by decide +kernel
theorem d_S_runTask_0 : decode b_S_runTask 0 = .ok (.aload_n 0, 1) := by decide +kernel
theorem d_S_runTask_1 : decode b_S_runTask 1 = .ok (.iconst 1, 1) := by decide +kernel
theorem d_S_runTask_2 : decode b_S_runTask 2 = .ok (.putfield 40, 3) := by decide +kernel
theorem d_S_runTask_5 : decode b_S_runTask 5 = .ok (.new 22, 3) := by decide +kernel
theorem d_S_runTask_8 : decode b_S_runTask 8 = .ok (.dup, 1) := by decide +kernel
theorem d_S_runTask_9 : decode b_S_runTask 9 = .ok (.iload_n 1, 1) := by decide +kernel
theorem d_S_runTask_10 : decode b_S_runTask 10 = .ok (.invokespecial 111, 3) := by decide +kernel
theorem d_S_runTask_13 : decode b_S_runTask 13 = .ok (.astore_n 2, 1) := by decide +kernel
theorem d_S_runTask_14 : decode b_S_runTask 14 = .ok (.aload_n 2, 1) := by decide +kernel
theorem d_S_runTask_15 : decode b_S_runTask 15 = .ok (.aload_n 0, 1) := by decide +kernel
theorem d_S_runTask_16 : decode b_S_runTask 16 = .ok (.aload_n 2, 1) := by decide +kernel
theorem d_S_runTask_17 : decode b_S_runTask 17 = .ok (.invokevirtual 114, 3) := by decide +kernel
theorem d_S_runTask_20 : decode b_S_runTask 20 = .ok (.putfield 81, 3) := by decide +kernel
theorem d_S_runTask_23 : decode b_S_runTask 23 = .ok (.aload_n 0, 1) := by decide +kernel
theorem d_S_runTask_24 : decode b_S_runTask 24 = .ok (.invokevirtual 93, 3) := by decide +kernel
theorem d_S_runTask_27 : decode b_S_runTask 27 = .ok (.ifCond .eq 18, 3) := by decide +kernel
theorem d_S_runTask_30 : decode b_S_runTask 30 = .ok (.aload_n 0, 1) := by decide +kernel
theorem d_S_runTask_31 : decode b_S_runTask 31 = .ok (.getfield 32, 3) := by decide +kernel
theorem d_S_runTask_34 : decode b_S_runTask 34 = .ok (.getfield 51, 3) := by decide +kernel
theorem d_S_runTask_37 : decode b_S_runTask 37 = .ok (.iconst 4, 1) := by decide +kernel
theorem d_S_runTask_38 : decode b_S_runTask 38 = .ok (.dup2, 1) := by decide +kernel
theorem d_S_runTask_39 : decode b_S_runTask 39 = .ok (.iaload, 1) := by decide +kernel
theorem d_S_runTask_40 : decode b_S_runTask 40 = .ok (.iconst 1, 1) := by decide +kernel
theorem d_S_runTask_41 : decode b_S_runTask 41 = .ok (.iadd, 1) := by decide +kernel
theorem d_S_runTask_42 : decode b_S_runTask 42 = .ok (.iastore, 1) := by decide +kernel
theorem d_S_runTask_43 : decode b_S_runTask 43 = .ok (.lconst 0, 1) := by decide +kernel
theorem d_S_runTask_44 : decode b_S_runTask 44 = .ok (.lreturn, 1) := by decide +kernel
theorem d_S_runTask_45 : decode b_S_runTask 45 = .ok (.aload_n 0, 1) := by decide +kernel
theorem d_S_runTask_46 : decode b_S_runTask 46 = .ok (.getfield 32, 3) := by decide +kernel
theorem d_S_runTask_49 : decode b_S_runTask 49 = .ok (.getfield 51, 3) := by decide +kernel
theorem d_S_runTask_52 : decode b_S_runTask 52 = .ok (.iconst 3, 1) := by decide +kernel
theorem d_S_runTask_53 : decode b_S_runTask 53 = .ok (.dup2, 1) := by decide +kernel
theorem d_S_runTask_54 : decode b_S_runTask 54 = .ok (.iaload, 1) := by decide +kernel
theorem d_S_runTask_55 : decode b_S_runTask 55 = .ok (.iconst 1, 1) := by decide +kernel
theorem d_S_runTask_56 : decode b_S_runTask 56 = .ok (.iadd, 1) := by decide +kernel
theorem d_S_runTask_57 : decode b_S_runTask 57 = .ok (.iastore, 1) := by decide +kernel
theorem d_S_runTask_58 : decode b_S_runTask 58 = .ok (.aload_n 0, 1) := by decide +kernel
theorem d_S_runTask_59 : decode b_S_runTask 59 = .ok (.getfield 32, 3) := by decide +kernel
theorem d_S_runTask_62 : decode b_S_runTask 62 = .ok (.aload_n 0, 1) := by decide +kernel
theorem d_S_runTask_63 : decode b_S_runTask 63 = .ok (.getfield 36, 3) := by decide +kernel
theorem d_S_runTask_66 : decode b_S_runTask 66 = .ok (.aload_n 2, 1) := by decide +kernel
theorem d_S_runTask_67 : decode b_S_runTask 67 = .ok (.invokevirtual 89, 3) := by decide +kernel
theorem d_S_runTask_70 : decode b_S_runTask 70 = .ok (.aload_n 0, 1) := by decide +kernel
theorem d_S_runTask_71 : decode b_S_runTask 71 = .ok (.getfield 32, 3) := by decide +kernel
theorem d_S_runTask_74 : decode b_S_runTask 74 = .ok (.aload_n 2, 1) := by decide +kernel
theorem d_S_runTask_75 : decode b_S_runTask 75 = .ok (.invokevirtual 118, 3) := by decide +kernel
theorem d_S_runTask_78 : decode b_S_runTask 78 = .ok (.aload_n 0, 1) := by decide +kernel
theorem d_S_runTask_79 : decode b_S_runTask 79 = .ok (.iload_n 1, 1) := by decide +kernel
theorem d_S_runTask_80 : decode b_S_runTask 80 = .ok (.aload_n 2, 1) := by decide +kernel
theorem d_S_runTask_81 : decode b_S_runTask 81 = .ok (.getfield 81, 3) := by decide +kernel
theorem d_S_runTask_84 : decode b_S_runTask 84 = .ok (.invokevirtual 66, 3) := by decide +kernel
theorem d_S_runTask_87 : decode b_S_runTask 87 = .ok (.lreturn, 1) := by decide +kernel
theorem d_S_ruleValue_0 : decode b_S_ruleValue 0 = .ok (.aload_n 0, 1) := by decide +kernel
theorem d_S_ruleValue_1 : decode b_S_ruleValue 1 = .ok (.getfield 28, 3) := by decide +kernel
theorem d_S_ruleValue_4 : decode b_S_ruleValue 4 = .ok (.getfield 122, 3) := by decide +kernel
theorem d_S_ruleValue_7 : decode b_S_ruleValue 7 = .ok (.aload_n 1, 1) := by decide +kernel
theorem d_S_ruleValue_8 : decode b_S_ruleValue 8 = .ok (.getfield 125, 3) := by decide +kernel
theorem d_S_ruleValue_11 : decode b_S_ruleValue 11 = .ok (.iaload, 1) := by decide +kernel
theorem d_S_ruleValue_12 : decode b_S_ruleValue 12 = .ok (.tableswitch 150 0 9 #[56, 62, 68, 90, 96, 115, 121, 127, 133, 144], 56) := by decide +kernel
theorem d_S_ruleValue_68 : decode b_S_ruleValue 68 = .ok (.aload_n 0, 1) := by decide +kernel
theorem d_S_ruleValue_69 : decode b_S_ruleValue 69 = .ok (.aload_n 1, 1) := by decide +kernel
theorem d_S_ruleValue_70 : decode b_S_ruleValue 70 = .ok (.invokevirtual 128, 3) := by decide +kernel
theorem d_S_ruleValue_73 : decode b_S_ruleValue 73 = .ok (.lreturn, 1) := by decide +kernel
theorem d_S_ruleValue_74 : decode b_S_ruleValue 74 = .ok (.aload_n 0, 1) := by decide +kernel
theorem d_S_ruleValue_75 : decode b_S_ruleValue 75 = .ok (.aload_n 1, 1) := by decide +kernel
theorem d_S_ruleValue_76 : decode b_S_ruleValue 76 = .ok (.invokevirtual 131, 3) := by decide +kernel
theorem d_S_ruleValue_79 : decode b_S_ruleValue 79 = .ok (.lreturn, 1) := by decide +kernel
theorem d_S_ruleValue_80 : decode b_S_ruleValue 80 = .ok (.aload_n 0, 1) := by decide +kernel
theorem d_S_ruleValue_81 : decode b_S_ruleValue 81 = .ok (.aload_n 1, 1) := by decide +kernel
theorem d_S_ruleValue_82 : decode b_S_ruleValue 82 = .ok (.aload_n 0, 1) := by decide +kernel
theorem d_S_ruleValue_83 : decode b_S_ruleValue 83 = .ok (.aload_n 1, 1) := by decide +kernel
theorem d_S_ruleValue_84 : decode b_S_ruleValue 84 = .ok (.iconst 0, 1) := by decide +kernel
theorem d_S_ruleValue_85 : decode b_S_ruleValue 85 = .ok (.invokevirtual 134, 3) := by decide +kernel
theorem d_S_ruleValue_88 : decode b_S_ruleValue 88 = .ok (.lconst 0, 1) := by decide +kernel
theorem d_S_ruleValue_89 : decode b_S_ruleValue 89 = .ok (.lcmp, 1) := by decide +kernel
theorem d_S_ruleValue_90 : decode b_S_ruleValue 90 = .ok (.ifCond .le 7, 3) := by decide +kernel
theorem d_S_ruleValue_93 : decode b_S_ruleValue 93 = .ok (.iconst 1, 1) := by decide +kernel
theorem d_S_ruleValue_94 : decode b_S_ruleValue 94 = .ok (.goto 4, 3) := by decide +kernel
theorem d_S_ruleValue_97 : decode b_S_ruleValue 97 = .ok (.iconst 2, 1) := by decide +kernel
theorem d_S_ruleValue_98 : decode b_S_ruleValue 98 = .ok (.invokevirtual 134, 3) := by decide +kernel
theorem d_S_ruleValue_101 : decode b_S_ruleValue 101 = .ok (.lreturn, 1) := by decide +kernel
theorem d_S_ruleValue_102 : decode b_S_ruleValue 102 = .ok (.aload_n 0, 1) := by decide +kernel
theorem d_S_ruleValue_103 : decode b_S_ruleValue 103 = .ok (.aload_n 1, 1) := by decide +kernel
theorem d_S_ruleValue_104 : decode b_S_ruleValue 104 = .ok (.invokevirtual 138, 3) := by decide +kernel
theorem d_S_ruleValue_107 : decode b_S_ruleValue 107 = .ok (.lreturn, 1) := by decide +kernel
theorem d_S_ruleValue_108 : decode b_S_ruleValue 108 = .ok (.aload_n 0, 1) := by decide +kernel
theorem d_S_ruleValue_109 : decode b_S_ruleValue 109 = .ok (.aload_n 1, 1) := by decide +kernel
theorem d_S_ruleValue_110 : decode b_S_ruleValue 110 = .ok (.aload_n 0, 1) := by decide +kernel
theorem d_S_ruleValue_111 : decode b_S_ruleValue 111 = .ok (.aload_n 1, 1) := by decide +kernel
theorem d_S_ruleValue_112 : decode b_S_ruleValue 112 = .ok (.iconst 0, 1) := by decide +kernel
theorem d_S_ruleValue_113 : decode b_S_ruleValue 113 = .ok (.invokevirtual 134, 3) := by decide +kernel
theorem d_S_ruleValue_116 : decode b_S_ruleValue 116 = .ok (.ldc2_w 141, 3) := by decide +kernel
theorem d_S_ruleValue_119 : decode b_S_ruleValue 119 = .ok (.invokestatic 143, 3) := by decide +kernel
theorem d_S_ruleValue_122 : decode b_S_ruleValue 122 = .ok (.l2i, 1) := by decide +kernel
theorem d_S_ruleValue_123 : decode b_S_ruleValue 123 = .ok (.invokevirtual 149, 3) := by decide +kernel
theorem d_S_ruleValue_126 : decode b_S_ruleValue 126 = .ok (.lreturn, 1) := by decide +kernel
theorem d_S_ruleValue_127 : decode b_S_ruleValue 127 = .ok (.aload_n 0, 1) := by decide +kernel
theorem d_S_ruleValue_128 : decode b_S_ruleValue 128 = .ok (.aload_n 1, 1) := by decide +kernel
theorem d_S_ruleValue_129 : decode b_S_ruleValue 129 = .ok (.invokevirtual 152, 3) := by decide +kernel
theorem d_S_ruleValue_132 : decode b_S_ruleValue 132 = .ok (.lreturn, 1) := by decide +kernel
theorem d_S_ruleValue_133 : decode b_S_ruleValue 133 = .ok (.aload_n 0, 1) := by decide +kernel
theorem d_S_ruleValue_134 : decode b_S_ruleValue 134 = .ok (.aload_n 1, 1) := by decide +kernel
theorem d_S_ruleValue_135 : decode b_S_ruleValue 135 = .ok (.invokevirtual 155, 3) := by decide +kernel
theorem d_S_ruleValue_138 : decode b_S_ruleValue 138 = .ok (.lreturn, 1) := by decide +kernel
theorem d_S_ruleValue_139 : decode b_S_ruleValue 139 = .ok (.aload_n 0, 1) := by decide +kernel
theorem d_S_ruleValue_140 : decode b_S_ruleValue 140 = .ok (.aload_n 1, 1) := by decide +kernel
theorem d_S_ruleValue_141 : decode b_S_ruleValue 141 = .ok (.invokevirtual 158, 3) := by decide +kernel
theorem d_S_ruleValue_144 : decode b_S_ruleValue 144 = .ok (.lreturn, 1) := by decide +kernel
theorem d_S_ruleValue_145 : decode b_S_ruleValue 145 = .ok (.aload_n 0, 1) := by decide +kernel
theorem d_S_ruleValue_146 : decode b_S_ruleValue 146 = .ok (.aload_n 1, 1) := by decide +kernel
theorem d_S_ruleValue_147 : decode b_S_ruleValue 147 = .ok (.iconst 0, 1) := by decide +kernel
theorem d_S_ruleValue_148 : decode b_S_ruleValue 148 = .ok (.invokevirtual 134, 3) := by decide +kernel
theorem d_S_ruleValue_151 : decode b_S_ruleValue 151 = .ok (.pop2, 1) := by decide +kernel
theorem d_S_ruleValue_152 : decode b_S_ruleValue 152 = .ok (.ldc2_w 161, 3) := by decide +kernel
theorem d_S_ruleValue_155 : decode b_S_ruleValue 155 = .ok (.lreturn, 1) := by decide +kernel
theorem d_S_ruleValue_156 : decode b_S_ruleValue 156 = .ok (.aload_n 0, 1) := by decide +kernel
theorem d_S_ruleValue_157 : decode b_S_ruleValue 157 = .ok (.aload_n 1, 1) := by decide +kernel
theorem d_S_ruleValue_158 : decode b_S_ruleValue 158 = .ok (.invokevirtual 163, 3) := by decide +kernel
theorem d_S_ruleValue_161 : decode b_S_ruleValue 161 = .ok (.lreturn, 1) := by decide +kernel
theorem d_S_ruleValue_162 : decode b_S_ruleValue 162 = .ok (.lconst 0, 1) := by decide +kernel
theorem d_S_ruleValue_163 : decode b_S_ruleValue 163 = .ok (.lreturn, 1) := by decide +kernel
theorem d_S_askPart_0 : decode b_S_askPart 0 = .ok (.aload_n 0, 1) := by decide +kernel
theorem d_S_askPart_1 : decode b_S_askPart 1 = .ok (.aload_n 1, 1) := by decide +kernel
theorem d_S_askPart_2 : decode b_S_askPart 2 = .ok (.aload_n 0, 1) := by decide +kernel
theorem d_S_askPart_3 : decode b_S_askPart 3 = .ok (.getfield 28, 3) := by decide +kernel
theorem d_S_askPart_6 : decode b_S_askPart 6 = .ok (.getfield 166, 3) := by decide +kernel
theorem d_S_askPart_9 : decode b_S_askPart 9 = .ok (.aload_n 1, 1) := by decide +kernel
theorem d_S_askPart_10 : decode b_S_askPart 10 = .ok (.getfield 125, 3) := by decide +kernel
theorem d_S_askPart_13 : decode b_S_askPart 13 = .ok (.aaload, 1) := by decide +kernel
theorem d_S_askPart_14 : decode b_S_askPart 14 = .ok (.iload_n 2, 1) := by decide +kernel
theorem d_S_askPart_15 : decode b_S_askPart 15 = .ok (.iaload, 1) := by decide +kernel
theorem d_S_askPart_16 : decode b_S_askPart 16 = .ok (.invokevirtual 149, 3) := by decide +kernel
theorem d_S_askPart_19 : decode b_S_askPart 19 = .ok (.lreturn, 1) := by decide +kernel
theorem d_S_ask_0 : decode b_S_ask 0 = .ok (.aload_n 0, 1) := by decide +kernel
theorem d_S_ask_1 : decode b_S_ask 1 = .ok (.invokevirtual 93, 3) := by decide +kernel
theorem d_S_ask_4 : decode b_S_ask 4 = .ok (.ifCond .eq 5, 3) := by decide +kernel
theorem d_S_ask_7 : decode b_S_ask 7 = .ok (.lconst 0, 1) := by decide +kernel
theorem d_S_ask_8 : decode b_S_ask 8 = .ok (.lreturn, 1) := by decide +kernel
theorem d_S_ask_9 : decode b_S_ask 9 = .ok (.aload_n 0, 1) := by decide +kernel
theorem d_S_ask_10 : decode b_S_ask 10 = .ok (.getfield 32, 3) := by decide +kernel
theorem d_S_ask_13 : decode b_S_ask 13 = .ok (.getfield 51, 3) := by decide +kernel
theorem d_S_ask_16 : decode b_S_ask 16 = .ok (.iconst 0, 1) := by decide +kernel
theorem d_S_ask_17 : decode b_S_ask 17 = .ok (.dup2, 1) := by decide +kernel
theorem d_S_ask_18 : decode b_S_ask 18 = .ok (.iaload, 1) := by decide +kernel
theorem d_S_ask_19 : decode b_S_ask 19 = .ok (.iconst 1, 1) := by decide +kernel
theorem d_S_ask_20 : decode b_S_ask 20 = .ok (.iadd, 1) := by decide +kernel
theorem d_S_ask_21 : decode b_S_ask 21 = .ok (.iastore, 1) := by decide +kernel
theorem d_S_ask_22 : decode b_S_ask 22 = .ok (.aload_n 0, 1) := by decide +kernel
theorem d_S_ask_23 : decode b_S_ask 23 = .ok (.iload_n 2, 1) := by decide +kernel
theorem d_S_ask_24 : decode b_S_ask 24 = .ok (.invokevirtual 47, 3) := by decide +kernel
theorem d_S_ask_27 : decode b_S_ask 27 = .ok (.lstore_n 3, 1) := by decide +kernel
theorem d_S_ask_28 : decode b_S_ask 28 = .ok (.aload_n 1, 1) := by decide +kernel
theorem d_S_ask_29 : decode b_S_ask 29 = .ok (.iload_n 2, 1) := by decide +kernel
theorem d_S_ask_30 : decode b_S_ask 30 = .ok (.lload_n 3, 1) := by decide +kernel
theorem d_S_ask_31 : decode b_S_ask 31 = .ok (.invokevirtual 170, 3) := by decide +kernel
theorem d_S_ask_34 : decode b_S_ask 34 = .ok (.lload_n 3, 1) := by decide +kernel
theorem d_S_ask_35 : decode b_S_ask 35 = .ok (.lreturn, 1) := by decide +kernel
theorem d_S_sum_0 : decode b_S_sum 0 = .ok (.lconst 0, 1) := by decide +kernel
theorem d_S_sum_1 : decode b_S_sum 1 = .ok (.lstore_n 2, 1) := by decide +kernel
theorem d_S_sum_2 : decode b_S_sum 2 = .ok (.iconst 0, 1) := by decide +kernel
theorem d_S_sum_3 : decode b_S_sum 3 = .ok (.istore 4, 2) := by decide +kernel
theorem d_S_sum_5 : decode b_S_sum 5 = .ok (.iload 4, 2) := by decide +kernel
theorem d_S_sum_7 : decode b_S_sum 7 = .ok (.aload_n 0, 1) := by decide +kernel
theorem d_S_sum_8 : decode b_S_sum 8 = .ok (.getfield 28, 3) := by decide +kernel
theorem d_S_sum_11 : decode b_S_sum 11 = .ok (.getfield 174, 3) := by decide +kernel
theorem d_S_sum_14 : decode b_S_sum 14 = .ok (.aload_n 1, 1) := by decide +kernel
theorem d_S_sum_15 : decode b_S_sum 15 = .ok (.getfield 125, 3) := by decide +kernel
theorem d_S_sum_18 : decode b_S_sum 18 = .ok (.iaload, 1) := by decide +kernel
theorem d_S_sum_19 : decode b_S_sum 19 = .ok (.if_icmp .ge 19, 3) := by decide +kernel
theorem d_S_sum_22 : decode b_S_sum 22 = .ok (.lload_n 2, 1) := by decide +kernel
theorem d_S_sum_23 : decode b_S_sum 23 = .ok (.aload_n 0, 1) := by decide +kernel
theorem d_S_sum_24 : decode b_S_sum 24 = .ok (.aload_n 1, 1) := by decide +kernel
theorem d_S_sum_25 : decode b_S_sum 25 = .ok (.iload 4, 2) := by decide +kernel
theorem d_S_sum_27 : decode b_S_sum 27 = .ok (.invokevirtual 134, 3) := by decide +kernel
theorem d_S_sum_30 : decode b_S_sum 30 = .ok (.ladd, 1) := by decide +kernel
theorem d_S_sum_31 : decode b_S_sum 31 = .ok (.lstore_n 2, 1) := by decide +kernel
theorem d_S_sum_32 : decode b_S_sum 32 = .ok (.iinc 4 1, 3) := by decide +kernel
theorem d_S_sum_35 : decode b_S_sum 35 = .ok (.goto (-30), 3) := by decide +kernel
theorem d_S_sum_38 : decode b_S_sum 38 = .ok (.lload_n 2, 1) := by decide +kernel
theorem d_S_sum_39 : decode b_S_sum 39 = .ok (.lreturn, 1) := by decide +kernel
theorem d_S_product_0 : decode b_S_product 0 = .ok (.lconst 1, 1) := by decide +kernel
theorem d_S_product_1 : decode b_S_product 1 = .ok (.lstore_n 2, 1) := by decide +kernel
theorem d_S_product_2 : decode b_S_product 2 = .ok (.iconst 0, 1) := by decide +kernel
theorem d_S_product_3 : decode b_S_product 3 = .ok (.istore 4, 2) := by decide +kernel
theorem d_S_product_5 : decode b_S_product 5 = .ok (.iload 4, 2) := by decide +kernel
theorem d_S_product_7 : decode b_S_product 7 = .ok (.aload_n 0, 1) := by decide +kernel
theorem d_S_product_8 : decode b_S_product 8 = .ok (.getfield 28, 3) := by decide +kernel
theorem d_S_product_11 : decode b_S_product 11 = .ok (.getfield 174, 3) := by decide +kernel
theorem d_S_product_14 : decode b_S_product 14 = .ok (.aload_n 1, 1) := by decide +kernel
theorem d_S_product_15 : decode b_S_product 15 = .ok (.getfield 125, 3) := by decide +kernel
theorem d_S_product_18 : decode b_S_product 18 = .ok (.iaload, 1) := by decide +kernel
theorem d_S_product_19 : decode b_S_product 19 = .ok (.if_icmp .ge 19, 3) := by decide +kernel
theorem d_S_product_22 : decode b_S_product 22 = .ok (.lload_n 2, 1) := by decide +kernel
theorem d_S_product_23 : decode b_S_product 23 = .ok (.aload_n 0, 1) := by decide +kernel
theorem d_S_product_24 : decode b_S_product 24 = .ok (.aload_n 1, 1) := by decide +kernel
theorem d_S_product_25 : decode b_S_product 25 = .ok (.iload 4, 2) := by decide +kernel
theorem d_S_product_27 : decode b_S_product 27 = .ok (.invokevirtual 134, 3) := by decide +kernel
theorem d_S_product_30 : decode b_S_product 30 = .ok (.lmul, 1) := by decide +kernel
theorem d_S_product_31 : decode b_S_product 31 = .ok (.lstore_n 2, 1) := by decide +kernel
theorem d_S_product_32 : decode b_S_product 32 = .ok (.iinc 4 1, 3) := by decide +kernel
theorem d_S_product_35 : decode b_S_product 35 = .ok (.goto (-30), 3) := by decide +kernel
theorem d_S_product_38 : decode b_S_product 38 = .ok (.lload_n 2, 1) := by decide +kernel
theorem d_S_product_39 : decode b_S_product 39 = .ok (.lreturn, 1) := by decide +kernel
theorem d_S_quotient_0 : decode b_S_quotient 0 = .ok (.aload_n 0, 1) := by decide +kernel
theorem d_S_quotient_1 : decode b_S_quotient 1 = .ok (.aload_n 1, 1) := by decide +kernel
theorem d_S_quotient_2 : decode b_S_quotient 2 = .ok (.iconst 0, 1) := by decide +kernel
theorem d_S_quotient_3 : decode b_S_quotient 3 = .ok (.invokevirtual 134, 3) := by decide +kernel
theorem d_S_quotient_6 : decode b_S_quotient 6 = .ok (.lstore_n 2, 1) := by decide +kernel
theorem d_S_quotient_7 : decode b_S_quotient 7 = .ok (.aload_n 0, 1) := by decide +kernel
theorem d_S_quotient_8 : decode b_S_quotient 8 = .ok (.aload_n 1, 1) := by decide +kernel
theorem d_S_quotient_9 : decode b_S_quotient 9 = .ok (.iconst 1, 1) := by decide +kernel
theorem d_S_quotient_10 : decode b_S_quotient 10 = .ok (.invokevirtual 134, 3) := by decide +kernel
theorem d_S_quotient_13 : decode b_S_quotient 13 = .ok (.lstore 4, 2) := by decide +kernel
theorem d_S_quotient_15 : decode b_S_quotient 15 = .ok (.lload 4, 2) := by decide +kernel
theorem d_S_quotient_17 : decode b_S_quotient 17 = .ok (.lconst 0, 1) := by decide +kernel
theorem d_S_quotient_18 : decode b_S_quotient 18 = .ok (.lcmp, 1) := by decide +kernel
theorem d_S_quotient_19 : decode b_S_quotient 19 = .ok (.ifCond .ne 11, 3) := by decide +kernel
theorem d_S_quotient_22 : decode b_S_quotient 22 = .ok (.aload_n 0, 1) := by decide +kernel
theorem d_S_quotient_23 : decode b_S_quotient 23 = .ok (.iconst 2, 1) := by decide +kernel
theorem d_S_quotient_24 : decode b_S_quotient 24 = .ok (.invokevirtual 57, 3) := by decide +kernel
theorem d_S_quotient_27 : decode b_S_quotient 27 = .ok (.goto 7, 3) := by decide +kernel
theorem d_S_quotient_30 : decode b_S_quotient 30 = .ok (.lload_n 2, 1) := by decide +kernel
theorem d_S_quotient_31 : decode b_S_quotient 31 = .ok (.lload 4, 2) := by decide +kernel
theorem d_S_quotient_33 : decode b_S_quotient 33 = .ok (.ldiv, 1) := by decide +kernel
theorem d_S_quotient_34 : decode b_S_quotient 34 = .ok (.lreturn, 1) := by decide +kernel
theorem d_S_rest_0 : decode b_S_rest 0 = .ok (.aload_n 0, 1) := by decide +kernel
theorem d_S_rest_1 : decode b_S_rest 1 = .ok (.aload_n 1, 1) := by decide +kernel
theorem d_S_rest_2 : decode b_S_rest 2 = .ok (.iconst 0, 1) := by decide +kernel
theorem d_S_rest_3 : decode b_S_rest 3 = .ok (.invokevirtual 134, 3) := by decide +kernel
theorem d_S_rest_6 : decode b_S_rest 6 = .ok (.lstore_n 2, 1) := by decide +kernel
theorem d_S_rest_7 : decode b_S_rest 7 = .ok (.aload_n 0, 1) := by decide +kernel
theorem d_S_rest_8 : decode b_S_rest 8 = .ok (.aload_n 1, 1) := by decide +kernel
theorem d_S_rest_9 : decode b_S_rest 9 = .ok (.iconst 1, 1) := by decide +kernel
theorem d_S_rest_10 : decode b_S_rest 10 = .ok (.invokevirtual 134, 3) := by decide +kernel
theorem d_S_rest_13 : decode b_S_rest 13 = .ok (.lstore 4, 2) := by decide +kernel
theorem d_S_rest_15 : decode b_S_rest 15 = .ok (.lload 4, 2) := by decide +kernel
theorem d_S_rest_17 : decode b_S_rest 17 = .ok (.lconst 0, 1) := by decide +kernel
theorem d_S_rest_18 : decode b_S_rest 18 = .ok (.lcmp, 1) := by decide +kernel
theorem d_S_rest_19 : decode b_S_rest 19 = .ok (.ifCond .ne 11, 3) := by decide +kernel
theorem d_S_rest_22 : decode b_S_rest 22 = .ok (.aload_n 0, 1) := by decide +kernel
theorem d_S_rest_23 : decode b_S_rest 23 = .ok (.iconst 2, 1) := by decide +kernel
theorem d_S_rest_24 : decode b_S_rest 24 = .ok (.invokevirtual 57, 3) := by decide +kernel
theorem d_S_rest_27 : decode b_S_rest 27 = .ok (.goto 7, 3) := by decide +kernel
theorem d_S_rest_30 : decode b_S_rest 30 = .ok (.lload_n 2, 1) := by decide +kernel
theorem d_S_rest_31 : decode b_S_rest 31 = .ok (.lload 4, 2) := by decide +kernel
theorem d_S_rest_33 : decode b_S_rest 33 = .ok (.lrem, 1) := by decide +kernel
theorem d_S_rest_34 : decode b_S_rest 34 = .ok (.lreturn, 1) := by decide +kernel
theorem d_S_greatest_0 : decode b_S_greatest 0 = .ok (.aload_n 0, 1) := by decide +kernel
theorem d_S_greatest_1 : decode b_S_greatest 1 = .ok (.getfield 28, 3) := by decide +kernel
theorem d_S_greatest_4 : decode b_S_greatest 4 = .ok (.getfield 174, 3) := by decide +kernel
theorem d_S_greatest_7 : decode b_S_greatest 7 = .ok (.aload_n 1, 1) := by decide +kernel
theorem d_S_greatest_8 : decode b_S_greatest 8 = .ok (.getfield 125, 3) := by decide +kernel
theorem d_S_greatest_11 : decode b_S_greatest 11 = .ok (.iaload, 1) := by decide +kernel
theorem d_S_greatest_12 : decode b_S_greatest 12 = .ok (.ifCond .ne 9, 3) := by decide +kernel
theorem d_S_greatest_15 : decode b_S_greatest 15 = .ok (.aload_n 0, 1) := by decide +kernel
theorem d_S_greatest_16 : decode b_S_greatest 16 = .ok (.iconst 1, 1) := by decide +kernel
theorem d_S_greatest_17 : decode b_S_greatest 17 = .ok (.invokevirtual 57, 3) := by decide +kernel
theorem d_S_greatest_20 : decode b_S_greatest 20 = .ok (.lreturn, 1) := by decide +kernel
theorem d_S_greatest_21 : decode b_S_greatest 21 = .ok (.aload_n 0, 1) := by decide +kernel
theorem d_S_greatest_22 : decode b_S_greatest 22 = .ok (.aload_n 1, 1) := by decide +kernel
theorem d_S_greatest_23 : decode b_S_greatest 23 = .ok (.iconst 0, 1) := by decide +kernel
theorem d_S_greatest_24 : decode b_S_greatest 24 = .ok (.invokevirtual 134, 3) := by decide +kernel
theorem d_S_greatest_27 : decode b_S_greatest 27 = .ok (.lstore_n 2, 1) := by decide +kernel
theorem d_S_greatest_28 : decode b_S_greatest 28 = .ok (.iconst 1, 1) := by decide +kernel
theorem d_S_greatest_29 : decode b_S_greatest 29 = .ok (.istore 4, 2) := by decide +kernel
theorem d_S_greatest_31 : decode b_S_greatest 31 = .ok (.iload 4, 2) := by decide +kernel
theorem d_S_greatest_33 : decode b_S_greatest 33 = .ok (.aload_n 0, 1) := by decide +kernel
theorem d_S_greatest_34 : decode b_S_greatest 34 = .ok (.getfield 28, 3) := by decide +kernel
theorem d_S_greatest_37 : decode b_S_greatest 37 = .ok (.getfield 174, 3) := by decide +kernel
theorem d_S_greatest_40 : decode b_S_greatest 40 = .ok (.aload_n 1, 1) := by decide +kernel
theorem d_S_greatest_41 : decode b_S_greatest 41 = .ok (.getfield 125, 3) := by decide +kernel
theorem d_S_greatest_44 : decode b_S_greatest 44 = .ok (.iaload, 1) := by decide +kernel
theorem d_S_greatest_45 : decode b_S_greatest 45 = .ok (.if_icmp .ge 21, 3) := by decide +kernel
theorem d_S_greatest_48 : decode b_S_greatest 48 = .ok (.lload_n 2, 1) := by decide +kernel
theorem d_S_greatest_49 : decode b_S_greatest 49 = .ok (.aload_n 0, 1) := by decide +kernel
theorem d_S_greatest_50 : decode b_S_greatest 50 = .ok (.aload_n 1, 1) := by decide +kernel
theorem d_S_greatest_51 : decode b_S_greatest 51 = .ok (.iload 4, 2) := by decide +kernel
theorem d_S_greatest_53 : decode b_S_greatest 53 = .ok (.invokevirtual 134, 3) := by decide +kernel
theorem d_S_greatest_56 : decode b_S_greatest 56 = .ok (.invokestatic 177, 3) := by decide +kernel
theorem d_S_greatest_59 : decode b_S_greatest 59 = .ok (.lstore_n 2, 1) := by decide +kernel
theorem d_S_greatest_60 : decode b_S_greatest 60 = .ok (.iinc 4 1, 3) := by decide +kernel
theorem d_S_greatest_63 : decode b_S_greatest 63 = .ok (.goto (-32), 3) := by decide +kernel
theorem d_S_greatest_66 : decode b_S_greatest 66 = .ok (.lload_n 2, 1) := by decide +kernel
theorem d_S_greatest_67 : decode b_S_greatest 67 = .ok (.lreturn, 1) := by decide +kernel
theorem d_S_until_0 : decode b_S_until 0 = .ok (.aload_n 0, 1) := by decide +kernel
theorem d_S_until_1 : decode b_S_until 1 = .ok (.aload_n 1, 1) := by decide +kernel
theorem d_S_until_2 : decode b_S_until 2 = .ok (.iconst 0, 1) := by decide +kernel
theorem d_S_until_3 : decode b_S_until 3 = .ok (.invokevirtual 134, 3) := by decide +kernel
theorem d_S_until_6 : decode b_S_until 6 = .ok (.lstore_n 2, 1) := by decide +kernel
theorem d_S_until_7 : decode b_S_until 7 = .ok (.lload_n 2, 1) := by decide +kernel
theorem d_S_until_8 : decode b_S_until 8 = .ok (.ldc2_w 180, 3) := by decide +kernel
theorem d_S_until_11 : decode b_S_until 11 = .ok (.invokestatic 143, 3) := by decide +kernel
theorem d_S_until_14 : decode b_S_until 14 = .ok (.l2i, 1) := by decide +kernel
theorem d_S_until_15 : decode b_S_until 15 = .ok (.istore 4, 2) := by decide +kernel
theorem d_S_until_17 : decode b_S_until 17 = .ok (.iconst 0, 1) := by decide +kernel
theorem d_S_until_18 : decode b_S_until 18 = .ok (.istore 5, 2) := by decide +kernel
theorem d_S_until_20 : decode b_S_until 20 = .ok (.iload 5, 2) := by decide +kernel
theorem d_S_until_22 : decode b_S_until 22 = .ok (.iload 4, 2) := by decide +kernel
theorem d_S_until_24 : decode b_S_until 24 = .ok (.if_icmp .ge 18, 3) := by decide +kernel
theorem d_S_until_27 : decode b_S_until 27 = .ok (.lload_n 2, 1) := by decide +kernel
theorem d_S_until_28 : decode b_S_until 28 = .ok (.aload_n 0, 1) := by decide +kernel
theorem d_S_until_29 : decode b_S_until 29 = .ok (.aload_n 1, 1) := by decide +kernel
theorem d_S_until_30 : decode b_S_until 30 = .ok (.iconst 1, 1) := by decide +kernel
theorem d_S_until_31 : decode b_S_until 31 = .ok (.invokevirtual 134, 3) := by decide +kernel
theorem d_S_until_34 : decode b_S_until 34 = .ok (.ladd, 1) := by decide +kernel
theorem d_S_until_35 : decode b_S_until 35 = .ok (.lstore_n 2, 1) := by decide +kernel
theorem d_S_until_36 : decode b_S_until 36 = .ok (.iinc 5 1, 3) := by decide +kernel
theorem d_S_until_39 : decode b_S_until 39 = .ok (.goto (-19), 3) := by decide +kernel
theorem d_S_until_42 : decode b_S_until 42 = .ok (.lload_n 2, 1) := by decide +kernel
theorem d_S_until_43 : decode b_S_until 43 = .ok (.lreturn, 1) := by decide +kernel
theorem d_S_limit_0 : decode b_S_limit 0 = .ok (.aload_n 0, 1) := by decide +kernel
theorem d_S_limit_1 : decode b_S_limit 1 = .ok (.aload_n 1, 1) := by decide +kernel
theorem d_S_limit_2 : decode b_S_limit 2 = .ok (.iconst 0, 1) := by decide +kernel
theorem d_S_limit_3 : decode b_S_limit 3 = .ok (.invokevirtual 134, 3) := by decide +kernel
theorem d_S_limit_6 : decode b_S_limit 6 = .ok (.lstore_n 2, 1) := by decide +kernel
theorem d_S_limit_7 : decode b_S_limit 7 = .ok (.aload_n 0, 1) := by decide +kernel
theorem d_S_limit_8 : decode b_S_limit 8 = .ok (.aload_n 1, 1) := by decide +kernel
theorem d_S_limit_9 : decode b_S_limit 9 = .ok (.iconst 1, 1) := by decide +kernel
theorem d_S_limit_10 : decode b_S_limit 10 = .ok (.invokevirtual 134, 3) := by decide +kernel
theorem d_S_limit_13 : decode b_S_limit 13 = .ok (.lstore 4, 2) := by decide +kernel
theorem d_S_limit_15 : decode b_S_limit 15 = .ok (.lload_n 2, 1) := by decide +kernel
theorem d_S_limit_16 : decode b_S_limit 16 = .ok (.lload 4, 2) := by decide +kernel
theorem d_S_limit_18 : decode b_S_limit 18 = .ok (.lcmp, 1) := by decide +kernel
theorem d_S_limit_19 : decode b_S_limit 19 = .ok (.ifCond .le 11, 3) := by decide +kernel
theorem d_S_limit_22 : decode b_S_limit 22 = .ok (.aload_n 0, 1) := by decide +kernel
theorem d_S_limit_23 : decode b_S_limit 23 = .ok (.iconst 3, 1) := by decide +kernel
theorem d_S_limit_24 : decode b_S_limit 24 = .ok (.invokevirtual 57, 3) := by decide +kernel
theorem d_S_limit_27 : decode b_S_limit 27 = .ok (.goto 4, 3) := by decide +kernel
theorem d_S_limit_30 : decode b_S_limit 30 = .ok (.lload_n 2, 1) := by decide +kernel
theorem d_S_limit_31 : decode b_S_limit 31 = .ok (.lreturn, 1) := by decide +kernel
theorem d_T_init_0 : decode b_T_init 0 = .ok (.aload_n 0, 1) := by decide +kernel
theorem d_T_init_1 : decode b_T_init 1 = .ok (.invokespecial 3, 3) := by decide +kernel
theorem d_T_init_4 : decode b_T_init 4 = .ok (.aload_n 0, 1) := by decide +kernel
theorem d_T_init_5 : decode b_T_init 5 = .ok (.iconst 3, 1) := by decide +kernel
theorem d_T_init_6 : decode b_T_init 6 = .ok (.newarray .int, 2) := by decide +kernel
theorem d_T_init_8 : decode b_T_init 8 = .ok (.putfield 9, 3) := by decide +kernel
theorem d_T_init_11 : decode b_T_init 11 = .ok (.aload_n 0, 1) := by decide +kernel
theorem d_T_init_12 : decode b_T_init 12 = .ok (.iconst 3, 1) := by decide +kernel
theorem d_T_init_13 : decode b_T_init 13 = .ok (.newarray .long, 2) := by decide +kernel
theorem d_T_init_15 : decode b_T_init 15 = .ok (.putfield 15, 3) := by decide +kernel
theorem d_T_init_18 : decode b_T_init 18 = .ok (.aload_n 0, 1) := by decide +kernel
theorem d_T_init_19 : decode b_T_init 19 = .ok (.iload_n 1, 1) := by decide +kernel
theorem d_T_init_20 : decode b_T_init 20 = .ok (.putfield 19, 3) := by decide +kernel
theorem d_T_init_23 : decode b_T_init 23 = .ok (.return_, 1) := by decide +kernel
theorem d_T_note_0 : decode b_T_note 0 = .ok (.aload_n 0, 1) := by decide +kernel
theorem d_T_note_1 : decode b_T_note 1 = .ok (.getfield 23, 3) := by decide +kernel
theorem d_T_note_4 : decode b_T_note 4 = .ok (.iconst 3, 1) := by decide +kernel
theorem d_T_note_5 : decode b_T_note 5 = .ok (.if_icmp .ge 41, 3) := by decide +kernel
theorem d_T_note_8 : decode b_T_note 8 = .ok (.aload_n 0, 1) := by decide +kernel
theorem d_T_note_9 : decode b_T_note 9 = .ok (.iload_n 1, 1) := by decide +kernel
theorem d_T_note_10 : decode b_T_note 10 = .ok (.invokevirtual 26, 3) := by decide +kernel
theorem d_T_note_13 : decode b_T_note 13 = .ok (.ifCond .ne 33, 3) := by decide +kernel
theorem d_T_note_16 : decode b_T_note 16 = .ok (.aload_n 0, 1) := by decide +kernel
theorem d_T_note_17 : decode b_T_note 17 = .ok (.getfield 9, 3) := by decide +kernel
theorem d_T_note_20 : decode b_T_note 20 = .ok (.aload_n 0, 1) := by decide +kernel
theorem d_T_note_21 : decode b_T_note 21 = .ok (.getfield 23, 3) := by decide +kernel
theorem d_T_note_24 : decode b_T_note 24 = .ok (.iload_n 1, 1) := by decide +kernel
theorem d_T_note_25 : decode b_T_note 25 = .ok (.iastore, 1) := by decide +kernel
theorem d_T_note_26 : decode b_T_note 26 = .ok (.aload_n 0, 1) := by decide +kernel
theorem d_T_note_27 : decode b_T_note 27 = .ok (.getfield 15, 3) := by decide +kernel
theorem d_T_note_30 : decode b_T_note 30 = .ok (.aload_n 0, 1) := by decide +kernel
theorem d_T_note_31 : decode b_T_note 31 = .ok (.getfield 23, 3) := by decide +kernel
theorem d_T_note_34 : decode b_T_note 34 = .ok (.lload_n 2, 1) := by decide +kernel
theorem d_T_note_35 : decode b_T_note 35 = .ok (.lastore, 1) := by decide +kernel
theorem d_T_note_36 : decode b_T_note 36 = .ok (.aload_n 0, 1) := by decide +kernel
theorem d_T_note_37 : decode b_T_note 37 = .ok (.dup, 1) := by decide +kernel
theorem d_T_note_38 : decode b_T_note 38 = .ok (.getfield 23, 3) := by decide +kernel
theorem d_T_note_41 : decode b_T_note 41 = .ok (.iconst 1, 1) := by decide +kernel
theorem d_T_note_42 : decode b_T_note 42 = .ok (.iadd, 1) := by decide +kernel
theorem d_T_note_43 : decode b_T_note 43 = .ok (.putfield 23, 3) := by decide +kernel
theorem d_T_note_46 : decode b_T_note 46 = .ok (.return_, 1) := by decide +kernel
theorem d_T_has_0 : decode b_T_has 0 = .ok (.iconst 0, 1) := by decide +kernel
theorem d_T_has_1 : decode b_T_has 1 = .ok (.istore_n 2, 1) := by decide +kernel
theorem d_T_has_2 : decode b_T_has 2 = .ok (.iload_n 2, 1) := by decide +kernel
theorem d_T_has_3 : decode b_T_has 3 = .ok (.aload_n 0, 1) := by decide +kernel
theorem d_T_has_4 : decode b_T_has 4 = .ok (.getfield 23, 3) := by decide +kernel
theorem d_T_has_7 : decode b_T_has 7 = .ok (.if_icmp .ge 21, 3) := by decide +kernel
theorem d_T_has_10 : decode b_T_has 10 = .ok (.aload_n 0, 1) := by decide +kernel
theorem d_T_has_11 : decode b_T_has 11 = .ok (.getfield 9, 3) := by decide +kernel
theorem d_T_has_14 : decode b_T_has 14 = .ok (.iload_n 2, 1) := by decide +kernel
theorem d_T_has_15 : decode b_T_has 15 = .ok (.iaload, 1) := by decide +kernel
theorem d_T_has_16 : decode b_T_has 16 = .ok (.iload_n 1, 1) := by decide +kernel
theorem d_T_has_17 : decode b_T_has 17 = .ok (.if_icmp .ne 5, 3) := by decide +kernel
theorem d_T_has_20 : decode b_T_has 20 = .ok (.iconst 1, 1) := by decide +kernel
theorem d_T_has_21 : decode b_T_has 21 = .ok (.ireturn, 1) := by decide +kernel
theorem d_T_has_22 : decode b_T_has 22 = .ok (.iinc 2 1, 3) := by decide +kernel
theorem d_T_has_25 : decode b_T_has 25 = .ok (.goto (-23), 3) := by decide +kernel
theorem d_T_has_28 : decode b_T_has 28 = .ok (.iconst 0, 1) := by decide +kernel
theorem d_T_has_29 : decode b_T_has 29 = .ok (.ireturn, 1) := by decide +kernel
theorem d_B_init_0 : decode b_B_init 0 = .ok (.aload_n 0, 1) := by decide +kernel
theorem d_B_init_1 : decode b_B_init 1 = .ok (.invokespecial 1, 3) := by decide +kernel
theorem d_B_init_4 : decode b_B_init 4 = .ok (.aload_n 0, 1) := by decide +kernel
theorem d_B_init_5 : decode b_B_init 5 = .ok (.new 7, 3) := by decide +kernel
theorem d_B_init_8 : decode b_B_init 8 = .ok (.dup, 1) := by decide +kernel
theorem d_B_init_9 : decode b_B_init 9 = .ok (.invokespecial 9, 3) := by decide +kernel
theorem d_B_init_12 : decode b_B_init 12 = .ok (.putfield 10, 3) := by decide +kernel
theorem d_B_init_15 : decode b_B_init 15 = .ok (.aload_n 0, 1) := by decide +kernel
theorem d_B_init_16 : decode b_B_init 16 = .ok (.new 16, 3) := by decide +kernel
theorem d_B_init_19 : decode b_B_init 19 = .ok (.dup, 1) := by decide +kernel
theorem d_B_init_20 : decode b_B_init 20 = .ok (.invokespecial 18, 3) := by decide +kernel
theorem d_B_init_23 : decode b_B_init 23 = .ok (.putfield 19, 3) := by decide +kernel
theorem d_B_init_26 : decode b_B_init 26 = .ok (.aload_n 0, 1) := by decide +kernel
theorem d_B_init_27 : decode b_B_init 27 = .ok (.new 16, 3) := by decide +kernel
theorem d_B_init_30 : decode b_B_init 30 = .ok (.dup, 1) := by decide +kernel
theorem d_B_init_31 : decode b_B_init 31 = .ok (.invokespecial 18, 3) := by decide +kernel
theorem d_B_init_34 : decode b_B_init 34 = .ok (.putfield 23, 3) := by decide +kernel
theorem d_B_init_37 : decode b_B_init 37 = .ok (.aload_n 0, 1) := by decide +kernel
theorem d_B_init_38 : decode b_B_init 38 = .ok (.new 26, 3) := by decide +kernel
theorem d_B_init_41 : decode b_B_init 41 = .ok (.dup, 1) := by decide +kernel
theorem d_B_init_42 : decode b_B_init 42 = .ok (.aload_n 0, 1) := by decide +kernel
theorem d_B_init_43 : decode b_B_init 43 = .ok (.getfield 10, 3) := by decide +kernel
theorem d_B_init_46 : decode b_B_init 46 = .ok (.aload_n 0, 1) := by decide +kernel
theorem d_B_init_47 : decode b_B_init 47 = .ok (.getfield 19, 3) := by decide +kernel
theorem d_B_init_50 : decode b_B_init 50 = .ok (.invokespecial 28, 3) := by decide +kernel
theorem d_B_init_53 : decode b_B_init 53 = .ok (.putfield 31, 3) := by decide +kernel
theorem d_B_init_56 : decode b_B_init 56 = .ok (.return_, 1) := by decide +kernel
theorem d_B_input_0 : decode b_B_input 0 = .ok (.iload_n 1, 1) := by decide +kernel
theorem d_B_input_1 : decode b_B_input 1 = .ok (.invokestatic 35, 3) := by decide +kernel
theorem d_B_input_4 : decode b_B_input 4 = .ok (.aload_n 0, 1) := by decide +kernel
theorem d_B_input_5 : decode b_B_input 5 = .ok (.getfield 10, 3) := by decide +kernel
theorem d_B_input_8 : decode b_B_input 8 = .ok (.iload_n 1, 1) := by decide +kernel
theorem d_B_input_9 : decode b_B_input 9 = .ok (.lload_n 2, 1) := by decide +kernel
theorem d_B_input_10 : decode b_B_input 10 = .ok (.invokevirtual 39, 3) := by decide +kernel
theorem d_B_input_13 : decode b_B_input 13 = .ok (.ifCond .eq 4, 3) := by decide +kernel
theorem d_B_input_16 : decode b_B_input 16 = .ok (.return_, 1) := by decide +kernel
theorem d_B_input_17 : decode b_B_input 17 = .ok (.aload_n 0, 1) := by decide +kernel
theorem d_B_input_18 : decode b_B_input 18 = .ok (.getfield 10, 3) := by decide +kernel
theorem d_B_input_21 : decode b_B_input 21 = .ok (.iload_n 1, 1) := by decide +kernel
theorem d_B_input_22 : decode b_B_input 22 = .ok (.lload_n 2, 1) := by decide +kernel
theorem d_B_input_23 : decode b_B_input 23 = .ok (.invokevirtual 43, 3) := by decide +kernel
theorem d_B_input_26 : decode b_B_input 26 = .ok (.aload_n 0, 1) := by decide +kernel
theorem d_B_input_27 : decode b_B_input 27 = .ok (.getfield 19, 3) := by decide +kernel
theorem d_B_input_30 : decode b_B_input 30 = .ok (.iload_n 1, 1) := by decide +kernel
theorem d_B_input_31 : decode b_B_input 31 = .ok (.invokevirtual 47, 3) := by decide +kernel
theorem d_B_input_34 : decode b_B_input 34 = .ok (.return_, 1) := by decide +kernel
theorem d_B_task_0 : decode b_B_task 0 = .ok (.iload_n 1, 1) := by decide +kernel
theorem d_B_task_1 : decode b_B_task 1 = .ok (.invokestatic 35, 3) := by decide +kernel
theorem d_B_task_4 : decode b_B_task 4 = .ok (.iload_n 2, 1) := by decide +kernel
theorem d_B_task_5 : decode b_B_task 5 = .ok (.iload_n 3, 1) := by decide +kernel
theorem d_B_task_6 : decode b_B_task 6 = .ok (.iload 4, 2) := by decide +kernel
theorem d_B_task_8 : decode b_B_task 8 = .ok (.iload 5, 2) := by decide +kernel
theorem d_B_task_10 : decode b_B_task 10 = .ok (.invokestatic 50, 3) := by decide +kernel
theorem d_B_task_13 : decode b_B_task 13 = .ok (.aload_n 0, 1) := by decide +kernel
theorem d_B_task_14 : decode b_B_task 14 = .ok (.getfield 10, 3) := by decide +kernel
theorem d_B_task_17 : decode b_B_task 17 = .ok (.iload_n 1, 1) := by decide +kernel
theorem d_B_task_18 : decode b_B_task 18 = .ok (.iload_n 2, 1) := by decide +kernel
theorem d_B_task_19 : decode b_B_task 19 = .ok (.iload_n 3, 1) := by decide +kernel
theorem d_B_task_20 : decode b_B_task 20 = .ok (.iload 4, 2) := by decide +kernel
theorem d_B_task_22 : decode b_B_task 22 = .ok (.iload 5, 2) := by decide +kernel
theorem d_B_task_24 : decode b_B_task 24 = .ok (.invokevirtual 54, 3) := by decide +kernel
theorem d_B_task_27 : decode b_B_task 27 = .ok (.ifCond .eq 4, 3) := by decide +kernel
theorem d_B_task_30 : decode b_B_task 30 = .ok (.return_, 1) := by decide +kernel
theorem d_B_task_31 : decode b_B_task 31 = .ok (.aload_n 0, 1) := by decide +kernel
theorem d_B_task_32 : decode b_B_task 32 = .ok (.getfield 10, 3) := by decide +kernel
theorem d_B_task_35 : decode b_B_task 35 = .ok (.iload_n 1, 1) := by decide +kernel
theorem d_B_task_36 : decode b_B_task 36 = .ok (.iload_n 2, 1) := by decide +kernel
theorem d_B_task_37 : decode b_B_task 37 = .ok (.iload_n 3, 1) := by decide +kernel
theorem d_B_task_38 : decode b_B_task 38 = .ok (.iload 4, 2) := by decide +kernel
theorem d_B_task_40 : decode b_B_task 40 = .ok (.iload 5, 2) := by decide +kernel
theorem d_B_task_42 : decode b_B_task 42 = .ok (.invokevirtual 58, 3) := by decide +kernel
theorem d_B_task_45 : decode b_B_task 45 = .ok (.aload_n 0, 1) := by decide +kernel
theorem d_B_task_46 : decode b_B_task 46 = .ok (.getfield 19, 3) := by decide +kernel
theorem d_B_task_49 : decode b_B_task 49 = .ok (.iload_n 1, 1) := by decide +kernel
theorem d_B_task_50 : decode b_B_task 50 = .ok (.invokevirtual 47, 3) := by decide +kernel
theorem d_B_task_53 : decode b_B_task 53 = .ok (.return_, 1) := by decide +kernel
theorem d_B_remove_0 : decode b_B_remove 0 = .ok (.iload_n 1, 1) := by decide +kernel
theorem d_B_remove_1 : decode b_B_remove 1 = .ok (.invokestatic 35, 3) := by decide +kernel
theorem d_B_remove_4 : decode b_B_remove 4 = .ok (.aload_n 0, 1) := by decide +kernel
theorem d_B_remove_5 : decode b_B_remove 5 = .ok (.getfield 10, 3) := by decide +kernel
theorem d_B_remove_8 : decode b_B_remove 8 = .ok (.getfield 62, 3) := by decide +kernel
theorem d_B_remove_11 : decode b_B_remove 11 = .ok (.iload_n 1, 1) := by decide +kernel
theorem d_B_remove_12 : decode b_B_remove 12 = .ok (.iaload, 1) := by decide +kernel
theorem d_B_remove_13 : decode b_B_remove 13 = .ok (.ifCond .ne 11, 3) := by decide +kernel
theorem d_B_remove_16 : decode b_B_remove 16 = .ok (.new 66, 3) := by decide +kernel
theorem d_B_remove_19 : decode b_B_remove 19 = .ok (.dup, 1) := by decide +kernel
theorem d_B_remove_20 : decode b_B_remove 20 = .ok (.invokespecial 68, 3) := by decide +kernel
theorem d_B_remove_23 : decode b_B_remove 23 = .ok (.athrow, 1) := by decide +kernel
theorem d_B_remove_24 : decode b_B_remove 24 = .ok (.aload_n 0, 1) := by decide +kernel
theorem d_B_remove_25 : decode b_B_remove 25 = .ok (.getfield 10, 3) := by decide +kernel
theorem d_B_remove_28 : decode b_B_remove 28 = .ok (.getfield 62, 3) := by decide +kernel
theorem d_B_remove_31 : decode b_B_remove 31 = .ok (.iload_n 1, 1) := by decide +kernel
theorem d_B_remove_32 : decode b_B_remove 32 = .ok (.iconst 0, 1) := by decide +kernel
theorem d_B_remove_33 : decode b_B_remove 33 = .ok (.iastore, 1) := by decide +kernel
theorem d_B_remove_34 : decode b_B_remove 34 = .ok (.aload_n 0, 1) := by decide +kernel
theorem d_B_remove_35 : decode b_B_remove 35 = .ok (.getfield 19, 3) := by decide +kernel
theorem d_B_remove_38 : decode b_B_remove 38 = .ok (.iload_n 1, 1) := by decide +kernel
theorem d_B_remove_39 : decode b_B_remove 39 = .ok (.invokevirtual 47, 3) := by decide +kernel
theorem d_B_remove_42 : decode b_B_remove 42 = .ok (.return_, 1) := by decide +kernel
theorem d_B_build_0 : decode b_B_build 0 = .ok (.iload_n 1, 1) := by decide +kernel
theorem d_B_build_1 : decode b_B_build 1 = .ok (.invokestatic 69, 3) := by decide +kernel
theorem d_B_build_4 : decode b_B_build 4 = .ok (.iload_n 2, 1) := by decide +kernel
theorem d_B_build_5 : decode b_B_build 5 = .ok (.invokestatic 35, 3) := by decide +kernel
theorem d_B_build_8 : decode b_B_build 8 = .ok (.aload_n 0, 1) := by decide +kernel
theorem d_B_build_9 : decode b_B_build 9 = .ok (.getfield 31, 3) := by decide +kernel
theorem d_B_build_12 : decode b_B_build 12 = .ok (.aload_n 0, 1) := by decide +kernel
theorem d_B_build_13 : decode b_B_build 13 = .ok (.getfield 19, 3) := by decide +kernel
theorem d_B_build_16 : decode b_B_build 16 = .ok (.iload_n 1, 1) := by decide +kernel
theorem d_B_build_17 : decode b_B_build 17 = .ok (.iload_n 2, 1) := by decide +kernel
theorem d_B_build_18 : decode b_B_build 18 = .ok (.invokevirtual 72, 3) := by decide +kernel
theorem d_B_build_21 : decode b_B_build 21 = .ok (.lstore_n 3, 1) := by decide +kernel
theorem d_B_build_22 : decode b_B_build 22 = .ok (.aload_n 0, 1) := by decide +kernel
theorem d_B_build_23 : decode b_B_build 23 = .ok (.getfield 19, 3) := by decide +kernel
theorem d_B_build_26 : decode b_B_build 26 = .ok (.getfield 76, 3) := by decide +kernel
theorem d_B_build_29 : decode b_B_build 29 = .ok (.iconst 5, 1) := by decide +kernel
theorem d_B_build_30 : decode b_B_build 30 = .ok (.dup2, 1) := by decide +kernel
theorem d_B_build_31 : decode b_B_build 31 = .ok (.iaload, 1) := by decide +kernel
theorem d_B_build_32 : decode b_B_build 32 = .ok (.iconst 1, 1) := by decide +kernel
theorem d_B_build_33 : decode b_B_build 33 = .ok (.iadd, 1) := by decide +kernel
theorem d_B_build_34 : decode b_B_build 34 = .ok (.iastore, 1) := by decide +kernel
theorem d_B_build_35 : decode b_B_build 35 = .ok (.aload_n 0, 1) := by decide +kernel
theorem d_B_build_36 : decode b_B_build 36 = .ok (.getfield 31, 3) := by decide +kernel
theorem d_B_build_39 : decode b_B_build 39 = .ok (.invokevirtual 79, 3) := by decide +kernel
theorem d_B_build_42 : decode b_B_build 42 = .ok (.ifCond .eq 17, 3) := by decide +kernel
theorem d_B_build_45 : decode b_B_build 45 = .ok (.aload_n 0, 1) := by decide +kernel
theorem d_B_build_46 : decode b_B_build 46 = .ok (.getfield 19, 3) := by decide +kernel
theorem d_B_build_49 : decode b_B_build 49 = .ok (.getfield 76, 3) := by decide +kernel
theorem d_B_build_52 : decode b_B_build 52 = .ok (.bipush 6, 2) := by decide +kernel
theorem d_B_build_54 : decode b_B_build 54 = .ok (.dup2, 1) := by decide +kernel
theorem d_B_build_55 : decode b_B_build 55 = .ok (.iaload, 1) := by decide +kernel
end
section
theorem d_B_build_56 : decode b_B_build 56 = .ok (.iconst 1, 1) := by decide +kernel
theorem d_B_build_57 : decode b_B_build 57 = .ok (.iadd, 1) := by decide +kernel
theorem d_B_build_58 : decode b_B_build 58 = .ok (.iastore, 1) := by decide +kernel
theorem d_B_build_59 : decode b_B_build 59 = .ok (.aload_n 0, 1) := by decide +kernel
theorem d_B_build_60 : decode b_B_build 60 = .ok (.getfield 31, 3) := by decide +kernel
theorem d_B_build_63 : decode b_B_build 63 = .ok (.getfield 83, 3) := by decide +kernel
theorem d_B_build_66 : decode b_B_build 66 = .ok (.invokestatic 87, 3) := by decide +kernel
theorem d_B_build_69 : decode b_B_build 69 = .ok (.lload_n 3, 1) := by decide +kernel
theorem d_B_build_70 : decode b_B_build 70 = .ok (.lreturn, 1) := by decide +kernel
theorem d_B_forget_0 : decode b_B_forget 0 = .ok (.iload_n 1, 1) := by decide +kernel
theorem d_B_forget_1 : decode b_B_forget 1 = .ok (.invokestatic 69, 3) := by decide +kernel
theorem d_B_forget_4 : decode b_B_forget 4 = .ok (.aload_n 0, 1) := by decide +kernel
theorem d_B_forget_5 : decode b_B_forget 5 = .ok (.getfield 19, 3) := by decide +kernel
theorem d_B_forget_8 : decode b_B_forget 8 = .ok (.iload_n 1, 1) := by decide +kernel
theorem d_B_forget_9 : decode b_B_forget 9 = .ok (.invokevirtual 90, 3) := by decide +kernel
theorem d_B_forget_12 : decode b_B_forget 12 = .ok (.ireturn, 1) := by decide +kernel
theorem d_B_shrink_0 : decode b_B_shrink 0 = .ok (.iload_n 1, 1) := by decide +kernel
theorem d_B_shrink_1 : decode b_B_shrink 1 = .ok (.ifCond .lt 9, 3) := by decide +kernel
theorem d_B_shrink_4 : decode b_B_shrink 4 = .ok (.iload_n 1, 1) := by decide +kernel
theorem d_B_shrink_5 : decode b_B_shrink 5 = .ok (.bipush 16, 2) := by decide +kernel
theorem d_B_shrink_7 : decode b_B_shrink 7 = .ok (.if_icmp .le 11, 3) := by decide +kernel
theorem d_B_shrink_10 : decode b_B_shrink 10 = .ok (.new 94, 3) := by decide +kernel
theorem d_B_shrink_13 : decode b_B_shrink 13 = .ok (.dup, 1) := by decide +kernel
theorem d_B_shrink_14 : decode b_B_shrink 14 = .ok (.invokespecial 96, 3) := by decide +kernel
theorem d_B_shrink_17 : decode b_B_shrink 17 = .ok (.athrow, 1) := by decide +kernel
theorem d_B_shrink_18 : decode b_B_shrink 18 = .ok (.aload_n 0, 1) := by decide +kernel
theorem d_B_shrink_19 : decode b_B_shrink 19 = .ok (.getfield 19, 3) := by decide +kernel
theorem d_B_shrink_22 : decode b_B_shrink 22 = .ok (.iload_n 1, 1) := by decide +kernel
theorem d_B_shrink_23 : decode b_B_shrink 23 = .ok (.invokevirtual 97, 3) := by decide +kernel
theorem d_B_shrink_26 : decode b_B_shrink 26 = .ok (.ireturn, 1) := by decide +kernel
theorem d_B_trace_0 : decode b_B_trace 0 = .ok (.aload_n 0, 1) := by decide +kernel
theorem d_B_trace_1 : decode b_B_trace 1 = .ok (.iload_n 1, 1) := by decide +kernel
theorem d_B_trace_2 : decode b_B_trace 2 = .ok (.iload_n 2, 1) := by decide +kernel
theorem d_B_trace_3 : decode b_B_trace 3 = .ok (.iload_n 3, 1) := by decide +kernel
theorem d_B_trace_4 : decode b_B_trace 4 = .ok (.invokevirtual 100, 3) := by decide +kernel
theorem d_B_trace_7 : decode b_B_trace 7 = .ok (.astore 4, 2) := by decide +kernel
theorem d_B_trace_9 : decode b_B_trace 9 = .ok (.iload_n 3, 1) := by decide +kernel
theorem d_B_trace_10 : decode b_B_trace 10 = .ok (.iconst (-1), 1) := by decide +kernel
theorem d_B_trace_11 : decode b_B_trace 11 = .ok (.if_icmp .ne 11, 3) := by decide +kernel
theorem d_B_trace_14 : decode b_B_trace 14 = .ok (.aload 4, 2) := by decide +kernel
theorem d_B_trace_16 : decode b_B_trace 16 = .ok (.getfield 104, 3) := by decide +kernel
theorem d_B_trace_19 : decode b_B_trace 19 = .ok (.goto 10, 3) := by decide +kernel
theorem d_B_trace_22 : decode b_B_trace 22 = .ok (.aload 4, 2) := by decide +kernel
theorem d_B_trace_24 : decode b_B_trace 24 = .ok (.getfield 109, 3) := by decide +kernel
theorem d_B_trace_27 : decode b_B_trace 27 = .ok (.iload_n 3, 1) := by decide +kernel
theorem d_B_trace_28 : decode b_B_trace 28 = .ok (.iaload, 1) := by decide +kernel
theorem d_B_trace_29 : decode b_B_trace 29 = .ok (.ireturn, 1) := by decide +kernel
theorem d_B_traced_0 : decode b_B_traced 0 = .ok (.aload_n 0, 1) := by decide +kernel
theorem d_B_traced_1 : decode b_B_traced 1 = .ok (.iload_n 1, 1) := by decide +kernel
theorem d_B_traced_2 : decode b_B_traced 2 = .ok (.iload_n 2, 1) := by decide +kernel
theorem d_B_traced_3 : decode b_B_traced 3 = .ok (.iload_n 3, 1) := by decide +kernel
theorem d_B_traced_4 : decode b_B_traced 4 = .ok (.invokevirtual 100, 3) := by decide +kernel
theorem d_B_traced_7 : decode b_B_traced 7 = .ok (.astore 4, 2) := by decide +kernel
theorem d_B_traced_9 : decode b_B_traced 9 = .ok (.iload_n 3, 1) := by decide +kernel
theorem d_B_traced_10 : decode b_B_traced 10 = .ok (.iconst (-1), 1) := by decide +kernel
theorem d_B_traced_11 : decode b_B_traced 11 = .ok (.if_icmp .ne 11, 3) := by decide +kernel
theorem d_B_traced_14 : decode b_B_traced 14 = .ok (.aload 4, 2) := by decide +kernel
theorem d_B_traced_16 : decode b_B_traced 16 = .ok (.getfield 112, 3) := by decide +kernel
theorem d_B_traced_19 : decode b_B_traced 19 = .ok (.goto 10, 3) := by decide +kernel
theorem d_B_traced_22 : decode b_B_traced 22 = .ok (.aload 4, 2) := by decide +kernel
theorem d_B_traced_24 : decode b_B_traced 24 = .ok (.getfield 115, 3) := by decide +kernel
theorem d_B_traced_27 : decode b_B_traced 27 = .ok (.iload_n 3, 1) := by decide +kernel
theorem d_B_traced_28 : decode b_B_traced 28 = .ok (.laload, 1) := by decide +kernel
theorem d_B_traced_29 : decode b_B_traced 29 = .ok (.lreturn, 1) := by decide +kernel
theorem d_B_stale_0 : decode b_B_stale 0 = .ok (.iload_n 1, 1) := by decide +kernel
theorem d_B_stale_1 : decode b_B_stale 1 = .ok (.invokestatic 69, 3) := by decide +kernel
theorem d_B_stale_4 : decode b_B_stale 4 = .ok (.iload_n 2, 1) := by decide +kernel
theorem d_B_stale_5 : decode b_B_stale 5 = .ok (.invokestatic 35, 3) := by decide +kernel
theorem d_B_stale_8 : decode b_B_stale 8 = .ok (.aload_n 0, 1) := by decide +kernel
theorem d_B_stale_9 : decode b_B_stale 9 = .ok (.getfield 23, 3) := by decide +kernel
theorem d_B_stale_12 : decode b_B_stale 12 = .ok (.aload_n 0, 1) := by decide +kernel
theorem d_B_stale_13 : decode b_B_stale 13 = .ok (.getfield 19, 3) := by decide +kernel
theorem d_B_stale_16 : decode b_B_stale 16 = .ok (.invokevirtual 119, 3) := by decide +kernel
theorem d_B_stale_19 : decode b_B_stale 19 = .ok (.aload_n 0, 1) := by decide +kernel
theorem d_B_stale_20 : decode b_B_stale 20 = .ok (.getfield 31, 3) := by decide +kernel
theorem d_B_stale_23 : decode b_B_stale 23 = .ok (.aload_n 0, 1) := by decide +kernel
theorem d_B_stale_24 : decode b_B_stale 24 = .ok (.getfield 23, 3) := by decide +kernel
theorem d_B_stale_27 : decode b_B_stale 27 = .ok (.iload_n 1, 1) := by decide +kernel
theorem d_B_stale_28 : decode b_B_stale 28 = .ok (.iload_n 2, 1) := by decide +kernel
theorem d_B_stale_29 : decode b_B_stale 29 = .ok (.invokevirtual 72, 3) := by decide +kernel
theorem d_B_stale_32 : decode b_B_stale 32 = .ok (.pop2, 1) := by decide +kernel
theorem d_B_stale_33 : decode b_B_stale 33 = .ok (.aload_n 0, 1) := by decide +kernel
theorem d_B_stale_34 : decode b_B_stale 34 = .ok (.getfield 31, 3) := by decide +kernel
theorem d_B_stale_37 : decode b_B_stale 37 = .ok (.getfield 83, 3) := by decide +kernel
theorem d_B_stale_40 : decode b_B_stale 40 = .ok (.invokestatic 87, 3) := by decide +kernel
theorem d_B_stale_43 : decode b_B_stale 43 = .ok (.aload_n 0, 1) := by decide +kernel
theorem d_B_stale_44 : decode b_B_stale 44 = .ok (.getfield 31, 3) := by decide +kernel
theorem d_B_stale_47 : decode b_B_stale 47 = .ok (.getfield 123, 3) := by decide +kernel
theorem d_B_stale_50 : decode b_B_stale 50 = .ok (.ireturn, 1) := by decide +kernel
theorem d_B_cached_0 : decode b_B_cached 0 = .ok (.aload_n 0, 1) := by decide +kernel
theorem d_B_cached_1 : decode b_B_cached 1 = .ok (.getfield 19, 3) := by decide +kernel
theorem d_B_cached_4 : decode b_B_cached 4 = .ok (.iload_n 1, 1) := by decide +kernel
theorem d_B_cached_5 : decode b_B_cached 5 = .ok (.invokevirtual 127, 3) := by decide +kernel
theorem d_B_cached_8 : decode b_B_cached 8 = .ok (.astore_n 2, 1) := by decide +kernel
theorem d_B_cached_9 : decode b_B_cached 9 = .ok (.aload_n 2, 1) := by decide +kernel
theorem d_B_cached_10 : decode b_B_cached 10 = .ok (.ifnonnull 11, 3) := by decide +kernel
theorem d_B_cached_13 : decode b_B_cached 13 = .ok (.new 66, 3) := by decide +kernel
theorem d_B_cached_16 : decode b_B_cached 16 = .ok (.dup, 1) := by decide +kernel
theorem d_B_cached_17 : decode b_B_cached 17 = .ok (.invokespecial 68, 3) := by decide +kernel
theorem d_B_cached_20 : decode b_B_cached 20 = .ok (.athrow, 1) := by decide +kernel
theorem d_B_cached_21 : decode b_B_cached 21 = .ok (.aload_n 2, 1) := by decide +kernel
theorem d_B_cached_22 : decode b_B_cached 22 = .ok (.getfield 131, 3) := by decide +kernel
theorem d_B_cached_25 : decode b_B_cached 25 = .ok (.ireturn, 1) := by decide +kernel
theorem d_B_count_0 : decode b_B_count 0 = .ok (.iload_n 1, 1) := by decide +kernel
theorem d_B_count_1 : decode b_B_count 1 = .ok (.ifCond .lt 9, 3) := by decide +kernel
theorem d_B_count_4 : decode b_B_count 4 = .ok (.iload_n 1, 1) := by decide +kernel
theorem d_B_count_5 : decode b_B_count 5 = .ok (.bipush 11, 2) := by decide +kernel
theorem d_B_count_7 : decode b_B_count 7 = .ok (.if_icmp .lt 5, 3) := by decide +kernel
theorem d_B_count_10 : decode b_B_count 10 = .ok (.iconst (-1), 1) := by decide +kernel
theorem d_B_count_11 : decode b_B_count 11 = .ok (.ireturn, 1) := by decide +kernel
theorem d_B_count_12 : decode b_B_count 12 = .ok (.iload_n 1, 1) := by decide +kernel
theorem d_B_count_13 : decode b_B_count 13 = .ok (.tableswitch 53 7 9 #[27, 35, 44], 27) := by decide +kernel
theorem d_B_count_40 : decode b_B_count 40 = .ok (.aload_n 0, 1) := by decide +kernel
theorem d_B_count_41 : decode b_B_count 41 = .ok (.getfield 19, 3) := by decide +kernel
theorem d_B_count_44 : decode b_B_count 44 = .ok (.getfield 134, 3) := by decide +kernel
theorem d_B_count_47 : decode b_B_count 47 = .ok (.ireturn, 1) := by decide +kernel
theorem d_B_count_48 : decode b_B_count 48 = .ok (.aload_n 0, 1) := by decide +kernel
theorem d_B_count_49 : decode b_B_count 49 = .ok (.getfield 19, 3) := by decide +kernel
theorem d_B_count_52 : decode b_B_count 52 = .ok (.iconst 0, 1) := by decide +kernel
theorem d_B_count_53 : decode b_B_count 53 = .ok (.invokevirtual 137, 3) := by decide +kernel
theorem d_B_count_56 : decode b_B_count 56 = .ok (.ireturn, 1) := by decide +kernel
theorem d_B_count_57 : decode b_B_count 57 = .ok (.aload_n 0, 1) := by decide +kernel
theorem d_B_count_58 : decode b_B_count 58 = .ok (.getfield 19, 3) := by decide +kernel
theorem d_B_count_61 : decode b_B_count 61 = .ok (.iconst 1, 1) := by decide +kernel
theorem d_B_count_62 : decode b_B_count 62 = .ok (.invokevirtual 137, 3) := by decide +kernel
theorem d_B_count_65 : decode b_B_count 65 = .ok (.ireturn, 1) := by decide +kernel
theorem d_B_count_66 : decode b_B_count 66 = .ok (.aload_n 0, 1) := by decide +kernel
theorem d_B_count_67 : decode b_B_count 67 = .ok (.getfield 19, 3) := by decide +kernel
theorem d_B_count_70 : decode b_B_count 70 = .ok (.getfield 76, 3) := by decide +kernel
theorem d_B_count_73 : decode b_B_count 73 = .ok (.iload_n 1, 1) := by decide +kernel
theorem d_B_count_74 : decode b_B_count 74 = .ok (.iaload, 1) := by decide +kernel
theorem d_B_count_75 : decode b_B_count 75 = .ok (.ireturn, 1) := by decide +kernel
theorem d_B_traceWith_0 : decode b_B_traceWith 0 = .ok (.iload_n 1, 1) := by decide +kernel
theorem d_B_traceWith_1 : decode b_B_traceWith 1 = .ok (.invokestatic 69, 3) := by decide +kernel
theorem d_B_traceWith_4 : decode b_B_traceWith 4 = .ok (.iload_n 2, 1) := by decide +kernel
theorem d_B_traceWith_5 : decode b_B_traceWith 5 = .ok (.invokestatic 35, 3) := by decide +kernel
theorem d_B_traceWith_8 : decode b_B_traceWith 8 = .ok (.aload_n 0, 1) := by decide +kernel
theorem d_B_traceWith_9 : decode b_B_traceWith 9 = .ok (.getfield 19, 3) := by decide +kernel
theorem d_B_traceWith_12 : decode b_B_traceWith 12 = .ok (.iload_n 1, 1) := by decide +kernel
theorem d_B_traceWith_13 : decode b_B_traceWith 13 = .ok (.iload_n 2, 1) := by decide +kernel
theorem d_B_traceWith_14 : decode b_B_traceWith 14 = .ok (.invokevirtual 140, 3) := by decide +kernel
theorem d_B_traceWith_17 : decode b_B_traceWith 17 = .ok (.astore 4, 2) := by decide +kernel
theorem d_B_traceWith_19 : decode b_B_traceWith 19 = .ok (.aload 4, 2) := by decide +kernel
theorem d_B_traceWith_21 : decode b_B_traceWith 21 = .ok (.ifnull 17, 3) := by decide +kernel
theorem d_B_traceWith_24 : decode b_B_traceWith 24 = .ok (.iload_n 3, 1) := by decide +kernel
theorem d_B_traceWith_25 : decode b_B_traceWith 25 = .ok (.iconst (-1), 1) := by decide +kernel
theorem d_B_traceWith_26 : decode b_B_traceWith 26 = .ok (.if_icmp .lt 12, 3) := by decide +kernel
theorem d_B_traceWith_29 : decode b_B_traceWith 29 = .ok (.iload_n 3, 1) := by decide +kernel
theorem d_B_traceWith_30 : decode b_B_traceWith 30 = .ok (.aload 4, 2) := by decide +kernel
theorem d_B_traceWith_32 : decode b_B_traceWith 32 = .ok (.getfield 104, 3) := by decide +kernel
theorem d_B_traceWith_35 : decode b_B_traceWith 35 = .ok (.if_icmp .lt 11, 3) := by decide +kernel
theorem d_B_traceWith_38 : decode b_B_traceWith 38 = .ok (.new 66, 3) := by decide +kernel
theorem d_B_traceWith_41 : decode b_B_traceWith 41 = .ok (.dup, 1) := by decide +kernel
theorem d_B_traceWith_42 : decode b_B_traceWith 42 = .ok (.invokespecial 68, 3) := by decide +kernel
theorem d_B_traceWith_45 : decode b_B_traceWith 45 = .ok (.athrow, 1) := by decide +kernel
theorem d_B_traceWith_46 : decode b_B_traceWith 46 = .ok (.aload 4, 2) := by decide +kernel
theorem d_B_traceWith_48 : decode b_B_traceWith 48 = .ok (.areturn, 1) := by decide +kernel
theorem d_B_refuseBadKey_0 : decode b_B_refuseBadKey 0 = .ok (.iload_n 0, 1) := by decide +kernel
theorem d_B_refuseBadKey_1 : decode b_B_refuseBadKey 1 = .ok (.ifCond .lt 9, 3) := by decide +kernel
theorem d_B_refuseBadKey_4 : decode b_B_refuseBadKey 4 = .ok (.iload_n 0, 1) := by decide +kernel
theorem d_B_refuseBadKey_5 : decode b_B_refuseBadKey 5 = .ok (.bipush 12, 2) := by decide +kernel
theorem d_B_refuseBadKey_7 : decode b_B_refuseBadKey 7 = .ok (.if_icmp .lt 11, 3) := by decide +kernel
theorem d_B_refuseBadKey_10 : decode b_B_refuseBadKey 10 = .ok (.new 94, 3) := by decide +kernel
theorem d_B_refuseBadKey_13 : decode b_B_refuseBadKey 13 = .ok (.dup, 1) := by decide +kernel
theorem d_B_refuseBadKey_14 : decode b_B_refuseBadKey 14 = .ok (.invokespecial 96, 3) := by decide +kernel
theorem d_B_refuseBadKey_17 : decode b_B_refuseBadKey 17 = .ok (.athrow, 1) := by decide +kernel
theorem d_B_refuseBadKey_18 : decode b_B_refuseBadKey 18 = .ok (.return_, 1) := by decide +kernel
theorem d_B_refuseBadWorker_0 : decode b_B_refuseBadWorker 0 = .ok (.iload_n 0, 1) := by decide +kernel
theorem d_B_refuseBadWorker_1 : decode b_B_refuseBadWorker 1 = .ok (.ifCond .lt 8, 3) := by decide +kernel
theorem d_B_refuseBadWorker_4 : decode b_B_refuseBadWorker 4 = .ok (.iload_n 0, 1) := by decide +kernel
theorem d_B_refuseBadWorker_5 : decode b_B_refuseBadWorker 5 = .ok (.iconst 2, 1) := by decide +kernel
theorem d_B_refuseBadWorker_6 : decode b_B_refuseBadWorker 6 = .ok (.if_icmp .lt 11, 3) := by decide +kernel
theorem d_B_refuseBadWorker_9 : decode b_B_refuseBadWorker 9 = .ok (.new 94, 3) := by decide +kernel
theorem d_B_refuseBadWorker_12 : decode b_B_refuseBadWorker 12 = .ok (.dup, 1) := by decide +kernel
theorem d_B_refuseBadWorker_13 : decode b_B_refuseBadWorker 13 = .ok (.invokespecial 96, 3) := by decide +kernel
theorem d_B_refuseBadWorker_16 : decode b_B_refuseBadWorker 16 = .ok (.athrow, 1) := by decide +kernel
theorem d_B_refuseBadWorker_17 : decode b_B_refuseBadWorker 17 = .ok (.return_, 1) := by decide +kernel
theorem d_B_refuseBadTask_0 : decode b_B_refuseBadTask 0 = .ok (.iload_n 0, 1) := by decide +kernel
theorem d_B_refuseBadTask_1 : decode b_B_refuseBadTask 1 = .ok (.ifCond .lt 30, 3) := by decide +kernel
theorem d_B_refuseBadTask_4 : decode b_B_refuseBadTask 4 = .ok (.iload_n 0, 1) := by decide +kernel
theorem d_B_refuseBadTask_5 : decode b_B_refuseBadTask 5 = .ok (.bipush 10, 2) := by decide +kernel
theorem d_B_refuseBadTask_7 : decode b_B_refuseBadTask 7 = .ok (.if_icmp .ge 24, 3) := by decide +kernel
theorem d_B_refuseBadTask_10 : decode b_B_refuseBadTask 10 = .ok (.iload_n 1, 1) := by decide +kernel
theorem d_B_refuseBadTask_11 : decode b_B_refuseBadTask 11 = .ok (.invokestatic 144, 3) := by decide +kernel
theorem d_B_refuseBadTask_14 : decode b_B_refuseBadTask 14 = .ok (.ifCond .eq 17, 3) := by decide +kernel
theorem d_B_refuseBadTask_17 : decode b_B_refuseBadTask 17 = .ok (.iload_n 2, 1) := by decide +kernel
theorem d_B_refuseBadTask_18 : decode b_B_refuseBadTask 18 = .ok (.invokestatic 144, 3) := by decide +kernel
theorem d_B_refuseBadTask_21 : decode b_B_refuseBadTask 21 = .ok (.ifCond .eq 10, 3) := by decide +kernel
theorem d_B_refuseBadTask_24 : decode b_B_refuseBadTask 24 = .ok (.iload_n 3, 1) := by decide +kernel
theorem d_B_refuseBadTask_25 : decode b_B_refuseBadTask 25 = .ok (.invokestatic 144, 3) := by decide +kernel
theorem d_B_refuseBadTask_28 : decode b_B_refuseBadTask 28 = .ok (.ifCond .ne 11, 3) := by decide +kernel
theorem d_B_refuseBadTask_31 : decode b_B_refuseBadTask 31 = .ok (.new 94, 3) := by decide +kernel
theorem d_B_refuseBadTask_34 : decode b_B_refuseBadTask 34 = .ok (.dup, 1) := by decide +kernel
theorem d_B_refuseBadTask_35 : decode b_B_refuseBadTask 35 = .ok (.invokespecial 96, 3) := by decide +kernel
theorem d_B_refuseBadTask_38 : decode b_B_refuseBadTask 38 = .ok (.athrow, 1) := by decide +kernel
theorem d_B_refuseBadTask_39 : decode b_B_refuseBadTask 39 = .ok (.iload_n 1, 1) := by decide +kernel
theorem d_B_refuseBadTask_40 : decode b_B_refuseBadTask 40 = .ok (.iconst (-1), 1) := by decide +kernel
theorem d_B_refuseBadTask_41 : decode b_B_refuseBadTask 41 = .ok (.if_icmp .ne 8, 3) := by decide +kernel
theorem d_B_refuseBadTask_44 : decode b_B_refuseBadTask 44 = .ok (.iload_n 2, 1) := by decide +kernel
theorem d_B_refuseBadTask_45 : decode b_B_refuseBadTask 45 = .ok (.iconst (-1), 1) := by decide +kernel
theorem d_B_refuseBadTask_46 : decode b_B_refuseBadTask 46 = .ok (.if_icmp .ne 13, 3) := by decide +kernel
theorem d_B_refuseBadTask_49 : decode b_B_refuseBadTask 49 = .ok (.iload_n 2, 1) := by decide +kernel
theorem d_B_refuseBadTask_50 : decode b_B_refuseBadTask 50 = .ok (.iconst (-1), 1) := by decide +kernel
theorem d_B_refuseBadTask_51 : decode b_B_refuseBadTask 51 = .ok (.if_icmp .ne 12, 3) := by decide +kernel
theorem d_B_refuseBadTask_54 : decode b_B_refuseBadTask 54 = .ok (.iload_n 3, 1) := by decide +kernel
theorem d_B_refuseBadTask_55 : decode b_B_refuseBadTask 55 = .ok (.iconst (-1), 1) := by decide +kernel
theorem d_B_refuseBadTask_56 : decode b_B_refuseBadTask 56 = .ok (.if_icmp .eq 7, 3) := by decide +kernel
theorem d_B_refuseBadTask_59 : decode b_B_refuseBadTask 59 = .ok (.iconst 1, 1) := by decide +kernel
theorem d_B_refuseBadTask_60 : decode b_B_refuseBadTask 60 = .ok (.goto 4, 3) := by decide +kernel
theorem d_B_refuseBadTask_63 : decode b_B_refuseBadTask 63 = .ok (.iconst 0, 1) := by decide +kernel
theorem d_B_refuseBadTask_64 : decode b_B_refuseBadTask 64 = .ok (.istore 4, 2) := by decide +kernel
theorem d_B_refuseBadTask_66 : decode b_B_refuseBadTask 66 = .ok (.iload 4, 2) := by decide +kernel
theorem d_B_refuseBadTask_68 : decode b_B_refuseBadTask 68 = .ok (.ifCond .ne 17, 3) := by decide +kernel
theorem d_B_refuseBadTask_71 : decode b_B_refuseBadTask 71 = .ok (.iload_n 1, 1) := by decide +kernel
theorem d_B_refuseBadTask_72 : decode b_B_refuseBadTask 72 = .ok (.iload_n 2, 1) := by decide +kernel
theorem d_B_refuseBadTask_73 : decode b_B_refuseBadTask 73 = .ok (.iload_n 3, 1) := by decide +kernel
theorem d_B_refuseBadTask_74 : decode b_B_refuseBadTask 74 = .ok (.invokestatic 148, 3) := by decide +kernel
theorem d_B_refuseBadTask_77 : decode b_B_refuseBadTask 77 = .ok (.getstatic 152, 3) := by decide +kernel
theorem d_B_refuseBadTask_80 : decode b_B_refuseBadTask 80 = .ok (.iload_n 0, 1) := by decide +kernel
theorem d_B_refuseBadTask_81 : decode b_B_refuseBadTask 81 = .ok (.iaload, 1) := by decide +kernel
theorem d_B_refuseBadTask_82 : decode b_B_refuseBadTask 82 = .ok (.if_icmp .ge 11, 3) := by decide +kernel
theorem d_B_refuseBadTask_85 : decode b_B_refuseBadTask 85 = .ok (.new 94, 3) := by decide +kernel
theorem d_B_refuseBadTask_88 : decode b_B_refuseBadTask 88 = .ok (.dup, 1) := by decide +kernel
theorem d_B_refuseBadTask_89 : decode b_B_refuseBadTask 89 = .ok (.invokespecial 96, 3) := by decide +kernel
theorem d_B_refuseBadTask_92 : decode b_B_refuseBadTask 92 = .ok (.athrow, 1) := by decide +kernel
theorem d_B_refuseBadTask_93 : decode b_B_refuseBadTask 93 = .ok (.return_, 1) := by decide +kernel
theorem d_B_isPart_0 : decode b_B_isPart 0 = .ok (.iload_n 0, 1) := by decide +kernel
theorem d_B_isPart_1 : decode b_B_isPart 1 = .ok (.iconst (-1), 1) := by decide +kernel
theorem d_B_isPart_2 : decode b_B_isPart 2 = .ok (.if_icmp .eq 13, 3) := by decide +kernel
theorem d_B_isPart_5 : decode b_B_isPart 5 = .ok (.iload_n 0, 1) := by decide +kernel
theorem d_B_isPart_6 : decode b_B_isPart 6 = .ok (.ifCond .lt 13, 3) := by decide +kernel
theorem d_B_isPart_9 : decode b_B_isPart 9 = .ok (.iload_n 0, 1) := by decide +kernel
theorem d_B_isPart_10 : decode b_B_isPart 10 = .ok (.bipush 12, 2) := by decide +kernel
theorem d_B_isPart_12 : decode b_B_isPart 12 = .ok (.if_icmp .ge 7, 3) := by decide +kernel
theorem d_B_isPart_15 : decode b_B_isPart 15 = .ok (.iconst 1, 1) := by decide +kernel
theorem d_B_isPart_16 : decode b_B_isPart 16 = .ok (.goto 4, 3) := by decide +kernel
theorem d_B_isPart_19 : decode b_B_isPart 19 = .ok (.iconst 0, 1) := by decide +kernel
theorem d_B_isPart_20 : decode b_B_isPart 20 = .ok (.ireturn, 1) := by decide +kernel
theorem d_B_partsAmong_0 : decode b_B_partsAmong 0 = .ok (.iload_n 0, 1) := by decide +kernel
theorem d_B_partsAmong_1 : decode b_B_partsAmong 1 = .ok (.iconst (-1), 1) := by decide +kernel
theorem d_B_partsAmong_2 : decode b_B_partsAmong 2 = .ok (.if_icmp .ne 7, 3) := by decide +kernel
theorem d_B_partsAmong_5 : decode b_B_partsAmong 5 = .ok (.iconst 0, 1) := by decide +kernel
theorem d_B_partsAmong_6 : decode b_B_partsAmong 6 = .ok (.goto 4, 3) := by decide +kernel
theorem d_B_partsAmong_9 : decode b_B_partsAmong 9 = .ok (.iconst 1, 1) := by decide +kernel
theorem d_B_partsAmong_10 : decode b_B_partsAmong 10 = .ok (.iload_n 1, 1) := by decide +kernel
theorem d_B_partsAmong_11 : decode b_B_partsAmong 11 = .ok (.iconst (-1), 1) := by decide +kernel
theorem d_B_partsAmong_12 : decode b_B_partsAmong 12 = .ok (.if_icmp .ne 7, 3) := by decide +kernel
theorem d_B_partsAmong_15 : decode b_B_partsAmong 15 = .ok (.iconst 0, 1) := by decide +kernel
theorem d_B_partsAmong_16 : decode b_B_partsAmong 16 = .ok (.goto 4, 3) := by decide +kernel
theorem d_B_partsAmong_19 : decode b_B_partsAmong 19 = .ok (.iconst 1, 1) := by decide +kernel
theorem d_B_partsAmong_20 : decode b_B_partsAmong 20 = .ok (.iadd, 1) := by decide +kernel
theorem d_B_partsAmong_21 : decode b_B_partsAmong 21 = .ok (.iload_n 2, 1) := by decide +kernel
theorem d_B_partsAmong_22 : decode b_B_partsAmong 22 = .ok (.iconst (-1), 1) := by decide +kernel
theorem d_B_partsAmong_23 : decode b_B_partsAmong 23 = .ok (.if_icmp .ne 7, 3) := by decide +kernel
theorem d_B_partsAmong_26 : decode b_B_partsAmong 26 = .ok (.iconst 0, 1) := by decide +kernel
theorem d_B_partsAmong_27 : decode b_B_partsAmong 27 = .ok (.goto 4, 3) := by decide +kernel
theorem d_B_partsAmong_30 : decode b_B_partsAmong 30 = .ok (.iconst 1, 1) := by decide +kernel
theorem d_B_partsAmong_31 : decode b_B_partsAmong 31 = .ok (.iadd, 1) := by decide +kernel
theorem d_B_partsAmong_32 : decode b_B_partsAmong 32 = .ok (.ireturn, 1) := by decide +kernel
theorem d_B_throwFailure_0 : decode b_B_throwFailure 0 = .ok (.iload_n 0, 1) := by decide +kernel
theorem d_B_throwFailure_1 : decode b_B_throwFailure 1 = .ok (.tableswitch 51 1 3 #[27, 35, 43], 27) := by decide +kernel
theorem d_B_throwFailure_28 : decode b_B_throwFailure 28 = .ok (.new 66, 3) := by decide +kernel
theorem d_B_throwFailure_31 : decode b_B_throwFailure 31 = .ok (.dup, 1) := by decide +kernel
theorem d_B_throwFailure_32 : decode b_B_throwFailure 32 = .ok (.invokespecial 68, 3) := by decide +kernel
theorem d_B_throwFailure_35 : decode b_B_throwFailure 35 = .ok (.athrow, 1) := by decide +kernel
theorem d_B_throwFailure_36 : decode b_B_throwFailure 36 = .ok (.new 155, 3) := by decide +kernel
theorem d_B_throwFailure_39 : decode b_B_throwFailure 39 = .ok (.dup, 1) := by decide +kernel
theorem d_B_throwFailure_40 : decode b_B_throwFailure 40 = .ok (.invokespecial 157, 3) := by decide +kernel
theorem d_B_throwFailure_43 : decode b_B_throwFailure 43 = .ok (.athrow, 1) := by decide +kernel
theorem d_B_throwFailure_44 : decode b_B_throwFailure 44 = .ok (.new 158, 3) := by decide +kernel
theorem d_B_throwFailure_47 : decode b_B_throwFailure 47 = .ok (.dup, 1) := by decide +kernel
theorem d_B_throwFailure_48 : decode b_B_throwFailure 48 = .ok (.invokespecial 160, 3) := by decide +kernel
theorem d_B_throwFailure_51 : decode b_B_throwFailure 51 = .ok (.athrow, 1) := by decide +kernel
theorem d_B_throwFailure_52 : decode b_B_throwFailure 52 = .ok (.return_, 1) := by decide +kernel
theorem d_D_init_0 : decode b_D_init 0 = .ok (.aload_n 0, 1) := by decide +kernel
theorem d_D_init_1 : decode b_D_init 1 = .ok (.invokespecial 1, 3) := by decide +kernel
theorem d_D_init_4 : decode b_D_init 4 = .ok (.aload_n 0, 1) := by decide +kernel
theorem d_D_init_5 : decode b_D_init 5 = .ok (.bipush 12, 2) := by decide +kernel
theorem d_D_init_7 : decode b_D_init 7 = .ok (.newarray .int, 2) := by decide +kernel
theorem d_D_init_9 : decode b_D_init 9 = .ok (.putfield 7, 3) := by decide +kernel
theorem d_D_init_12 : decode b_D_init 12 = .ok (.aload_n 0, 1) := by decide +kernel
theorem d_D_init_13 : decode b_D_init 13 = .ok (.bipush 12, 2) := by decide +kernel
theorem d_D_init_15 : decode b_D_init 15 = .ok (.newarray .int, 2) := by decide +kernel
theorem d_D_init_17 : decode b_D_init 17 = .ok (.putfield 13, 3) := by decide +kernel
theorem d_D_init_20 : decode b_D_init 20 = .ok (.aload_n 0, 1) := by decide +kernel
theorem d_D_init_21 : decode b_D_init 21 = .ok (.bipush 36, 2) := by decide +kernel
theorem d_D_init_23 : decode b_D_init 23 = .ok (.newarray .int, 2) := by decide +kernel
theorem d_D_init_25 : decode b_D_init 25 = .ok (.putfield 16, 3) := by decide +kernel
theorem d_D_init_28 : decode b_D_init 28 = .ok (.aload_n 0, 1) := by decide +kernel
theorem d_D_init_29 : decode b_D_init 29 = .ok (.bipush 12, 2) := by decide +kernel
theorem d_D_init_31 : decode b_D_init 31 = .ok (.newarray .long, 2) := by decide +kernel
theorem d_D_init_33 : decode b_D_init 33 = .ok (.putfield 19, 3) := by decide +kernel
theorem d_D_init_36 : decode b_D_init 36 = .ok (.aload_n 0, 1) := by decide +kernel
theorem d_D_init_37 : decode b_D_init 37 = .ok (.sipush 320, 3) := by decide +kernel
theorem d_D_init_40 : decode b_D_init 40 = .ok (.newarray .int, 2) := by decide +kernel
theorem d_D_init_42 : decode b_D_init 42 = .ok (.putfield 23, 3) := by decide +kernel
theorem d_D_init_45 : decode b_D_init 45 = .ok (.aload_n 0, 1) := by decide +kernel
theorem d_D_init_46 : decode b_D_init 46 = .ok (.sipush 3840, 3) := by decide +kernel
theorem d_D_init_49 : decode b_D_init 49 = .ok (.newarray .int, 2) := by decide +kernel
theorem d_D_init_51 : decode b_D_init 51 = .ok (.putfield 26, 3) := by decide +kernel
theorem d_D_init_54 : decode b_D_init 54 = .ok (.aload_n 0, 1) := by decide +kernel
theorem d_D_init_55 : decode b_D_init 55 = .ok (.sipush 320, 3) := by decide +kernel
theorem d_D_init_58 : decode b_D_init 58 = .ok (.newarray .int, 2) := by decide +kernel
theorem d_D_init_60 : decode b_D_init 60 = .ok (.putfield 29, 3) := by decide +kernel
theorem d_D_init_63 : decode b_D_init 63 = .ok (.aload_n 0, 1) := by decide +kernel
theorem d_D_init_64 : decode b_D_init 64 = .ok (.sipush 3840, 3) := by decide +kernel
theorem d_D_init_67 : decode b_D_init 67 = .ok (.newarray .long, 2) := by decide +kernel
theorem d_D_init_69 : decode b_D_init 69 = .ok (.putfield 32, 3) := by decide +kernel
theorem d_D_init_72 : decode b_D_init 72 = .ok (.aload_n 0, 1) := by decide +kernel
theorem d_D_init_73 : decode b_D_init 73 = .ok (.sipush 320, 3) := by decide +kernel
theorem d_D_init_76 : decode b_D_init 76 = .ok (.newarray .long, 2) := by decide +kernel
theorem d_D_init_78 : decode b_D_init 78 = .ok (.putfield 35, 3) := by decide +kernel
theorem d_D_init_81 : decode b_D_init 81 = .ok (.aload_n 0, 1) := by decide +kernel
theorem d_D_init_82 : decode b_D_init 82 = .ok (.sipush 320, 3) := by decide +kernel
theorem d_D_init_85 : decode b_D_init 85 = .ok (.newarray .boolean, 2) := by decide +kernel
theorem d_D_init_87 : decode b_D_init 87 = .ok (.putfield 38, 3) := by decide +kernel
theorem d_D_init_90 : decode b_D_init 90 = .ok (.aload_n 0, 1) := by decide +kernel
theorem d_D_init_91 : decode b_D_init 91 = .ok (.bipush 24, 2) := by decide +kernel
theorem d_D_init_93 : decode b_D_init 93 = .ok (.newarray .int, 2) := by decide +kernel
theorem d_D_init_95 : decode b_D_init 95 = .ok (.putfield 42, 3) := by decide +kernel
theorem d_D_init_98 : decode b_D_init 98 = .ok (.aload_n 0, 1) := by decide +kernel
theorem d_D_init_99 : decode b_D_init 99 = .ok (.bipush 24, 2) := by decide +kernel
theorem d_D_init_101 : decode b_D_init 101 = .ok (.newarray .int, 2) := by decide +kernel
theorem d_D_init_103 : decode b_D_init 103 = .ok (.putfield 45, 3) := by decide +kernel
theorem d_D_init_106 : decode b_D_init 106 = .ok (.aload_n 0, 1) := by decide +kernel
theorem d_D_init_107 : decode b_D_init 107 = .ok (.bipush 17, 2) := by decide +kernel
theorem d_D_init_109 : decode b_D_init 109 = .ok (.newarray .int, 2) := by decide +kernel
theorem d_D_init_111 : decode b_D_init 111 = .ok (.putfield 48, 3) := by decide +kernel
theorem d_D_init_114 : decode b_D_init 114 = .ok (.aload_n 0, 1) := by decide +kernel
theorem d_D_init_115 : decode b_D_init 115 = .ok (.bipush 17, 2) := by decide +kernel
theorem d_D_init_117 : decode b_D_init 117 = .ok (.newarray .int, 2) := by decide +kernel
theorem d_D_init_119 : decode b_D_init 119 = .ok (.putfield 51, 3) := by decide +kernel
theorem d_D_init_122 : decode b_D_init 122 = .ok (.aload_n 0, 1) := by decide +kernel
theorem d_D_init_123 : decode b_D_init 123 = .ok (.bipush 7, 2) := by decide +kernel
theorem d_D_init_125 : decode b_D_init 125 = .ok (.newarray .int, 2) := by decide +kernel
theorem d_D_init_127 : decode b_D_init 127 = .ok (.putfield 54, 3) := by decide +kernel
theorem d_D_init_130 : decode b_D_init 130 = .ok (.aload_n 0, 1) := by decide +kernel
theorem d_D_init_131 : decode b_D_init 131 = .ok (.bipush 7, 2) := by decide +kernel
theorem d_D_init_133 : decode b_D_init 133 = .ok (.newarray .int, 2) := by decide +kernel
theorem d_D_init_135 : decode b_D_init 135 = .ok (.putfield 57, 3) := by decide +kernel
theorem d_D_init_138 : decode b_D_init 138 = .ok (.aload_n 0, 1) := by decide +kernel
theorem d_D_init_139 : decode b_D_init 139 = .ok (.bipush 12, 2) := by decide +kernel
theorem d_D_init_141 : decode b_D_init 141 = .ok (.newarray .int, 2) := by decide +kernel
theorem d_D_init_143 : decode b_D_init 143 = .ok (.putfield 60, 3) := by decide +kernel
theorem d_D_init_146 : decode b_D_init 146 = .ok (.aload_n 0, 1) := by decide +kernel
theorem d_D_init_147 : decode b_D_init 147 = .ok (.bipush 12, 2) := by decide +kernel
theorem d_D_init_149 : decode b_D_init 149 = .ok (.newarray .long, 2) := by decide +kernel
theorem d_D_init_151 : decode b_D_init 151 = .ok (.putfield 63, 3) := by decide +kernel
theorem d_D_init_154 : decode b_D_init 154 = .ok (.aload_n 0, 1) := by decide +kernel
theorem d_D_init_155 : decode b_D_init 155 = .ok (.bipush 13, 2) := by decide +kernel
theorem d_D_init_157 : decode b_D_init 157 = .ok (.newarray .int, 2) := by decide +kernel
theorem d_D_init_159 : decode b_D_init 159 = .ok (.putfield 66, 3) := by decide +kernel
theorem d_D_init_162 : decode b_D_init 162 = .ok (.aload_n 0, 1) := by decide +kernel
theorem d_D_init_163 : decode b_D_init 163 = .ok (.bipush 13, 2) := by decide +kernel
theorem d_D_init_165 : decode b_D_init 165 = .ok (.newarray .int, 2) := by decide +kernel
theorem d_D_init_167 : decode b_D_init 167 = .ok (.putfield 69, 3) := by decide +kernel
theorem d_D_init_170 : decode b_D_init 170 = .ok (.aload_n 0, 1) := by decide +kernel
theorem d_D_init_171 : decode b_D_init 171 = .ok (.bipush 13, 2) := by decide +kernel
theorem d_D_init_173 : decode b_D_init 173 = .ok (.newarray .int, 2) := by decide +kernel
theorem d_D_init_175 : decode b_D_init 175 = .ok (.putfield 72, 3) := by decide +kernel
theorem d_D_init_178 : decode b_D_init 178 = .ok (.aload_n 0, 1) := by decide +kernel
theorem d_D_init_179 : decode b_D_init 179 = .ok (.bipush 13, 2) := by decide +kernel
theorem d_D_init_181 : decode b_D_init 181 = .ok (.newarray .int, 2) := by decide +kernel
theorem d_D_init_183 : decode b_D_init 183 = .ok (.putfield 75, 3) := by decide +kernel
theorem d_D_init_186 : decode b_D_init 186 = .ok (.aload_n 0, 1) := by decide +kernel
theorem d_D_init_187 : decode b_D_init 187 = .ok (.sipush 208, 3) := by decide +kernel
theorem d_D_init_190 : decode b_D_init 190 = .ok (.newarray .int, 2) := by decide +kernel
theorem d_D_init_192 : decode b_D_init 192 = .ok (.putfield 78, 3) := by decide +kernel
theorem d_D_init_195 : decode b_D_init 195 = .ok (.aload_n 0, 1) := by decide +kernel
theorem d_D_init_196 : decode b_D_init 196 = .ok (.bipush 13, 2) := by decide +kernel
theorem d_D_init_198 : decode b_D_init 198 = .ok (.newarray .int, 2) := by decide +kernel
theorem d_D_init_200 : decode b_D_init 200 = .ok (.putfield 81, 3) := by decide +kernel
theorem d_D_init_203 : decode b_D_init 203 = .ok (.aload_n 0, 1) := by decide +kernel
theorem d_D_init_204 : decode b_D_init 204 = .ok (.bipush 13, 2) := by decide +kernel
theorem d_D_init_206 : decode b_D_init 206 = .ok (.newarray .int, 2) := by decide +kernel
theorem d_D_init_208 : decode b_D_init 208 = .ok (.putfield 84, 3) := by decide +kernel
theorem d_D_init_211 : decode b_D_init 211 = .ok (.aload_n 0, 1) := by decide +kernel
theorem d_D_init_212 : decode b_D_init 212 = .ok (.bipush 13, 2) := by decide +kernel
theorem d_D_init_214 : decode b_D_init 214 = .ok (.newarray .int, 2) := by decide +kernel
theorem d_D_init_216 : decode b_D_init 216 = .ok (.putfield 87, 3) := by decide +kernel
theorem d_D_init_219 : decode b_D_init 219 = .ok (.aload_n 0, 1) := by decide +kernel
theorem d_D_init_220 : decode b_D_init 220 = .ok (.bipush 13, 2) := by decide +kernel
theorem d_D_init_222 : decode b_D_init 222 = .ok (.newarray .long, 2) := by decide +kernel
theorem d_D_init_224 : decode b_D_init 224 = .ok (.putfield 90, 3) := by decide +kernel
theorem d_D_init_227 : decode b_D_init 227 = .ok (.aload_n 0, 1) := by decide +kernel
theorem d_D_init_228 : decode b_D_init 228 = .ok (.bipush 13, 2) := by decide +kernel
theorem d_D_init_230 : decode b_D_init 230 = .ok (.newarray .long, 2) := by decide +kernel
theorem d_D_init_232 : decode b_D_init 232 = .ok (.putfield 93, 3) := by decide +kernel
theorem d_D_init_235 : decode b_D_init 235 = .ok (.iconst 0, 1) := by decide +kernel
theorem d_D_init_236 : decode b_D_init 236 = .ok (.istore_n 1, 1) := by decide +kernel
theorem d_D_init_237 : decode b_D_init 237 = .ok (.iload_n 1, 1) := by decide +kernel
theorem d_D_init_238 : decode b_D_init 238 = .ok (.bipush 24, 2) := by decide +kernel
theorem d_D_init_240 : decode b_D_init 240 = .ok (.if_icmp .ge 23, 3) := by decide +kernel
theorem d_D_init_243 : decode b_D_init 243 = .ok (.aload_n 0, 1) := by decide +kernel
theorem d_D_init_244 : decode b_D_init 244 = .ok (.getfield 42, 3) := by decide +kernel
theorem d_D_init_247 : decode b_D_init 247 = .ok (.iload_n 1, 1) := by decide +kernel
theorem d_D_init_248 : decode b_D_init 248 = .ok (.aload_n 0, 1) := by decide +kernel
theorem d_D_init_249 : decode b_D_init 249 = .ok (.getfield 45, 3) := by decide +kernel
theorem d_D_init_252 : decode b_D_init 252 = .ok (.iload_n 1, 1) := by decide +kernel
theorem d_D_init_253 : decode b_D_init 253 = .ok (.iconst (-1), 1) := by decide +kernel
theorem d_D_init_254 : decode b_D_init 254 = .ok (.dup_x2, 1) := by decide +kernel
theorem d_D_init_255 : decode b_D_init 255 = .ok (.iastore, 1) := by decide +kernel
theorem d_D_init_256 : decode b_D_init 256 = .ok (.iastore, 1) := by decide +kernel
theorem d_D_init_257 : decode b_D_init 257 = .ok (.iinc 1 1, 3) := by decide +kernel
theorem d_D_init_260 : decode b_D_init 260 = .ok (.goto (-23), 3) := by decide +kernel
theorem d_D_init_263 : decode b_D_init 263 = .ok (.return_, 1) := by decide +kernel
theorem d_D_thrown_0 : decode b_D_thrown 0 = .ok (.aload_n 0, 1) := by decide +kernel
theorem d_D_thrown_1 : decode b_D_thrown 1 = .ok (.getfield 96, 3) := by decide +kernel
theorem d_D_thrown_4 : decode b_D_thrown 4 = .ok (.ireturn, 1) := by decide +kernel
theorem d_D_in_0 : decode b_D_in 0 = .ok (.iload_n 0, 1) := by decide +kernel
theorem d_D_in_1 : decode b_D_in 1 = .ok (.iload_n 1, 1) := by decide +kernel
theorem d_D_in_2 : decode b_D_in 2 = .ok (.if_icmp .lt 12, 3) := by decide +kernel
theorem d_D_in_5 : decode b_D_in 5 = .ok (.iload_n 0, 1) := by decide +kernel
theorem d_D_in_6 : decode b_D_in 6 = .ok (.iload_n 2, 1) := by decide +kernel
theorem d_D_in_7 : decode b_D_in 7 = .ok (.if_icmp .gt 7, 3) := by decide +kernel
theorem d_D_in_10 : decode b_D_in 10 = .ok (.iconst 1, 1) := by decide +kernel
theorem d_D_in_11 : decode b_D_in 11 = .ok (.goto 4, 3) := by decide +kernel
theorem d_D_in_14 : decode b_D_in 14 = .ok (.iconst 0, 1) := by decide +kernel
theorem d_D_in_15 : decode b_D_in 15 = .ok (.ireturn, 1) := by decide +kernel
theorem d_D_bad_0 : decode b_D_bad 0 = .ok (.aload_n 0, 1) := by decide +kernel
theorem d_D_bad_1 : decode b_D_bad 1 = .ok (.iload_n 1, 1) := by decide +kernel
theorem d_D_bad_2 : decode b_D_bad 2 = .ok (.ifCond .eq 7, 3) := by decide +kernel
theorem d_D_bad_5 : decode b_D_bad 5 = .ok (.iconst 0, 1) := by decide +kernel
theorem d_D_bad_6 : decode b_D_bad 6 = .ok (.goto 4, 3) := by decide +kernel
theorem d_D_bad_9 : decode b_D_bad 9 = .ok (.iconst 1, 1) := by decide +kernel
theorem d_D_bad_10 : decode b_D_bad 10 = .ok (.putfield 96, 3) := by decide +kernel
theorem d_D_bad_13 : decode b_D_bad 13 = .ok (.iload_n 1, 1) := by decide +kernel
theorem d_D_bad_14 : decode b_D_bad 14 = .ok (.ifCond .ne 7, 3) := by decide +kernel
theorem d_D_bad_17 : decode b_D_bad 17 = .ok (.iconst 1, 1) := by decide +kernel
theorem d_D_bad_18 : decode b_D_bad 18 = .ok (.goto 4, 3) := by decide +kernel
theorem d_D_bad_21 : decode b_D_bad 21 = .ok (.iconst 0, 1) := by decide +kernel
theorem d_D_bad_22 : decode b_D_bad 22 = .ok (.ireturn, 1) := by decide +kernel
theorem d_D_forgetKey_0 : decode b_D_forgetKey 0 = .ok (.aload_n 0, 1) := by decide +kernel
theorem d_D_forgetKey_1 : decode b_D_forgetKey 1 = .ok (.getfield 42, 3) := by decide +kernel
theorem d_D_forgetKey_4 : decode b_D_forgetKey 4 = .ok (.iload_n 1, 1) := by decide +kernel
theorem d_D_forgetKey_5 : decode b_D_forgetKey 5 = .ok (.iconst (-1), 1) := by decide +kernel
theorem d_D_forgetKey_6 : decode b_D_forgetKey 6 = .ok (.iastore, 1) := by decide +kernel
theorem d_D_forgetKey_7 : decode b_D_forgetKey 7 = .ok (.aload_n 0, 1) := by decide +kernel
theorem d_D_forgetKey_8 : decode b_D_forgetKey 8 = .ok (.getfield 42, 3) := by decide +kernel
theorem d_D_forgetKey_11 : decode b_D_forgetKey 11 = .ok (.bipush 12, 2) := by decide +kernel
theorem d_D_forgetKey_13 : decode b_D_forgetKey 13 = .ok (.iload_n 1, 1) := by decide +kernel
theorem d_D_forgetKey_14 : decode b_D_forgetKey 14 = .ok (.iadd, 1) := by decide +kernel
theorem d_D_forgetKey_15 : decode b_D_forgetKey 15 = .ok (.iconst (-1), 1) := by decide +kernel
theorem d_D_forgetKey_16 : decode b_D_forgetKey 16 = .ok (.iastore, 1) := by decide +kernel
theorem d_D_forgetKey_17 : decode b_D_forgetKey 17 = .ok (.iconst 0, 1) := by decide +kernel
theorem d_D_forgetKey_18 : decode b_D_forgetKey 18 = .ok (.istore_n 2, 1) := by decide +kernel
theorem d_D_forgetKey_19 : decode b_D_forgetKey 19 = .ok (.iconst 0, 1) := by decide +kernel
theorem d_D_forgetKey_20 : decode b_D_forgetKey 20 = .ok (.istore_n 3, 1) := by decide +kernel
theorem d_D_forgetKey_21 : decode b_D_forgetKey 21 = .ok (.iload_n 3, 1) := by decide +kernel
theorem d_D_forgetKey_22 : decode b_D_forgetKey 22 = .ok (.aload_n 0, 1) := by decide +kernel
theorem d_D_forgetKey_23 : decode b_D_forgetKey 23 = .ok (.getfield 100, 3) := by decide +kernel
theorem d_D_forgetKey_26 : decode b_D_forgetKey 26 = .ok (.if_icmp .ge 42, 3) := by decide +kernel
theorem d_D_forgetKey_29 : decode b_D_forgetKey 29 = .ok (.aload_n 0, 1) := by decide +kernel
theorem d_D_forgetKey_30 : decode b_D_forgetKey 30 = .ok (.getfield 29, 3) := by decide +kernel
theorem d_D_forgetKey_33 : decode b_D_forgetKey 33 = .ok (.aload_n 0, 1) := by decide +kernel
theorem d_D_forgetKey_34 : decode b_D_forgetKey 34 = .ok (.getfield 48, 3) := by decide +kernel
theorem d_D_forgetKey_37 : decode b_D_forgetKey 37 = .ok (.iload_n 3, 1) := by decide +kernel
theorem d_D_forgetKey_38 : decode b_D_forgetKey 38 = .ok (.iaload, 1) := by decide +kernel
theorem d_D_forgetKey_39 : decode b_D_forgetKey 39 = .ok (.iaload, 1) := by decide +kernel
theorem d_D_forgetKey_40 : decode b_D_forgetKey 40 = .ok (.iload_n 1, 1) := by decide +kernel
theorem d_D_forgetKey_41 : decode b_D_forgetKey 41 = .ok (.if_icmp .ne 6, 3) := by decide +kernel
theorem d_D_forgetKey_44 : decode b_D_forgetKey 44 = .ok (.goto 18, 3) := by decide +kernel
theorem d_D_forgetKey_47 : decode b_D_forgetKey 47 = .ok (.aload_n 0, 1) := by decide +kernel
theorem d_D_forgetKey_48 : decode b_D_forgetKey 48 = .ok (.getfield 48, 3) := by decide +kernel
theorem d_D_forgetKey_51 : decode b_D_forgetKey 51 = .ok (.iload_n 2, 1) := by decide +kernel
theorem d_D_forgetKey_52 : decode b_D_forgetKey 52 = .ok (.aload_n 0, 1) := by decide +kernel
theorem d_D_forgetKey_53 : decode b_D_forgetKey 53 = .ok (.getfield 48, 3) := by decide +kernel
theorem d_D_forgetKey_56 : decode b_D_forgetKey 56 = .ok (.iload_n 3, 1) := by decide +kernel
theorem d_D_forgetKey_57 : decode b_D_forgetKey 57 = .ok (.iaload, 1) := by decide +kernel
theorem d_D_forgetKey_58 : decode b_D_forgetKey 58 = .ok (.iastore, 1) := by decide +kernel
theorem d_D_forgetKey_59 : decode b_D_forgetKey 59 = .ok (.iinc 2 1, 3) := by decide +kernel
theorem d_D_forgetKey_62 : decode b_D_forgetKey 62 = .ok (.iinc 3 1, 3) := by decide +kernel
theorem d_D_forgetKey_65 : decode b_D_forgetKey 65 = .ok (.goto (-44), 3) := by decide +kernel
theorem d_D_forgetKey_68 : decode b_D_forgetKey 68 = .ok (.aload_n 0, 1) := by decide +kernel
theorem d_D_forgetKey_69 : decode b_D_forgetKey 69 = .ok (.iload_n 2, 1) := by decide +kernel
theorem d_D_forgetKey_70 : decode b_D_forgetKey 70 = .ok (.putfield 100, 3) := by decide +kernel
theorem d_D_forgetKey_73 : decode b_D_forgetKey 73 = .ok (.return_, 1) := by decide +kernel
theorem d_D_input_0 : decode b_D_input 0 = .ok (.aload_n 0, 1) := by decide +kernel
theorem d_D_input_1 : decode b_D_input 1 = .ok (.iload_n 1, 1) := by decide +kernel
theorem d_D_input_2 : decode b_D_input 2 = .ok (.iconst 0, 1) := by decide +kernel
theorem d_D_input_3 : decode b_D_input 3 = .ok (.bipush 11, 2) := by decide +kernel
theorem d_D_input_5 : decode b_D_input 5 = .ok (.invokestatic 103, 3) := by decide +kernel
theorem d_D_input_8 : decode b_D_input 8 = .ok (.invokevirtual 107, 3) := by decide +kernel
theorem d_D_input_11 : decode b_D_input 11 = .ok (.ifCond .eq 4, 3) := by decide +kernel
theorem d_D_input_14 : decode b_D_input 14 = .ok (.return_, 1) := by decide +kernel
theorem d_D_input_15 : decode b_D_input 15 = .ok (.aload_n 0, 1) := by decide +kernel
theorem d_D_input_16 : decode b_D_input 16 = .ok (.getfield 7, 3) := by decide +kernel
theorem d_D_input_19 : decode b_D_input 19 = .ok (.iload_n 1, 1) := by decide +kernel
theorem d_D_input_20 : decode b_D_input 20 = .ok (.iaload, 1) := by decide +kernel
theorem d_D_input_21 : decode b_D_input 21 = .ok (.iconst 1, 1) := by decide +kernel
theorem d_D_input_22 : decode b_D_input 22 = .ok (.if_icmp .ne 15, 3) := by decide +kernel
theorem d_D_input_25 : decode b_D_input 25 = .ok (.aload_n 0, 1) := by decide +kernel
theorem d_D_input_26 : decode b_D_input 26 = .ok (.getfield 19, 3) := by decide +kernel
theorem d_D_input_29 : decode b_D_input 29 = .ok (.iload_n 1, 1) := by decide +kernel
theorem d_D_input_30 : decode b_D_input 30 = .ok (.laload, 1) := by decide +kernel
theorem d_D_input_31 : decode b_D_input 31 = .ok (.lload_n 2, 1) := by decide +kernel
theorem d_D_input_32 : decode b_D_input 32 = .ok (.lcmp, 1) := by decide +kernel
theorem d_D_input_33 : decode b_D_input 33 = .ok (.ifCond .ne 4, 3) := by decide +kernel
theorem d_D_input_36 : decode b_D_input 36 = .ok (.return_, 1) := by decide +kernel
theorem d_D_input_37 : decode b_D_input 37 = .ok (.aload_n 0, 1) := by decide +kernel
theorem d_D_input_38 : decode b_D_input 38 = .ok (.iload_n 1, 1) := by decide +kernel
theorem d_D_input_39 : decode b_D_input 39 = .ok (.invokevirtual 111, 3) := by decide +kernel
theorem d_D_input_42 : decode b_D_input 42 = .ok (.aload_n 0, 1) := by decide +kernel
theorem d_D_input_43 : decode b_D_input 43 = .ok (.getfield 7, 3) := by decide +kernel
theorem d_D_input_46 : decode b_D_input 46 = .ok (.iload_n 1, 1) := by decide +kernel
theorem d_D_input_47 : decode b_D_input 47 = .ok (.iconst 1, 1) := by decide +kernel
theorem d_D_input_48 : decode b_D_input 48 = .ok (.iastore, 1) := by decide +kernel
theorem d_D_input_49 : decode b_D_input 49 = .ok (.aload_n 0, 1) := by decide +kernel
theorem d_D_input_50 : decode b_D_input 50 = .ok (.getfield 19, 3) := by decide +kernel
theorem d_D_input_53 : decode b_D_input 53 = .ok (.iload_n 1, 1) := by decide +kernel
theorem d_D_input_54 : decode b_D_input 54 = .ok (.lload_n 2, 1) := by decide +kernel
theorem d_D_input_55 : decode b_D_input 55 = .ok (.lastore, 1) := by decide +kernel
theorem d_D_input_56 : decode b_D_input 56 = .ok (.return_, 1) := by decide +kernel
theorem d_D_task_0 : decode b_D_task 0 = .ok (.iload 5, 2) := by decide +kernel
theorem d_D_task_2 : decode b_D_task 2 = .ok (.ifCond .lt 7, 3) := by decide +kernel
theorem d_D_task_5 : decode b_D_task 5 = .ok (.iconst 3, 1) := by decide +kernel
theorem d_D_task_6 : decode b_D_task 6 = .ok (.goto 21, 3) := by decide +kernel
theorem d_D_task_9 : decode b_D_task 9 = .ok (.iload 4, 2) := by decide +kernel
theorem d_D_task_11 : decode b_D_task 11 = .ok (.ifCond .lt 7, 3) := by decide +kernel
theorem d_D_task_14 : decode b_D_task 14 = .ok (.iconst 2, 1) := by decide +kernel
theorem d_D_task_15 : decode b_D_task 15 = .ok (.goto 12, 3) := by decide +kernel
theorem d_D_task_18 : decode b_D_task 18 = .ok (.iload_n 3, 1) := by decide +kernel
theorem d_D_task_19 : decode b_D_task 19 = .ok (.ifCond .lt 7, 3) := by decide +kernel
theorem d_D_task_22 : decode b_D_task 22 = .ok (.iconst 1, 1) := by decide +kernel
theorem d_D_task_23 : decode b_D_task 23 = .ok (.goto 4, 3) := by decide +kernel
theorem d_D_task_26 : decode b_D_task 26 = .ok (.iconst 0, 1) := by decide +kernel
theorem d_D_task_27 : decode b_D_task 27 = .ok (.istore 6, 2) := by decide +kernel
theorem d_D_task_29 : decode b_D_task 29 = .ok (.iload_n 1, 1) := by decide +kernel
theorem d_D_task_30 : decode b_D_task 30 = .ok (.iconst 0, 1) := by decide +kernel
theorem d_D_task_31 : decode b_D_task 31 = .ok (.bipush 11, 2) := by decide +kernel
theorem d_D_task_33 : decode b_D_task 33 = .ok (.invokestatic 103, 3) := by decide +kernel
theorem d_D_task_36 : decode b_D_task 36 = .ok (.ifCond .eq 70, 3) := by decide +kernel
theorem d_D_task_39 : decode b_D_task 39 = .ok (.iload_n 2, 1) := by decide +kernel
theorem d_D_task_40 : decode b_D_task 40 = .ok (.iconst 0, 1) := by decide +kernel
theorem d_D_task_41 : decode b_D_task 41 = .ok (.bipush 9, 2) := by decide +kernel
theorem d_D_task_43 : decode b_D_task 43 = .ok (.invokestatic 103, 3) := by decide +kernel
theorem d_D_task_46 : decode b_D_task 46 = .ok (.ifCond .eq 60, 3) := by decide +kernel
theorem d_D_task_49 : decode b_D_task 49 = .ok (.iload_n 3, 1) := by decide +kernel
theorem d_D_task_50 : decode b_D_task 50 = .ok (.iconst (-1), 1) := by decide +kernel
theorem d_D_task_51 : decode b_D_task 51 = .ok (.bipush 11, 2) := by decide +kernel
theorem d_D_task_53 : decode b_D_task 53 = .ok (.invokestatic 103, 3) := by decide +kernel
theorem d_D_task_56 : decode b_D_task 56 = .ok (.ifCond .eq 50, 3) := by decide +kernel
theorem d_D_task_59 : decode b_D_task 59 = .ok (.iload 4, 2) := by decide +kernel
theorem d_D_task_61 : decode b_D_task 61 = .ok (.iconst (-1), 1) := by decide +kernel
theorem d_D_task_62 : decode b_D_task 62 = .ok (.bipush 11, 2) := by decide +kernel
theorem d_D_task_64 : decode b_D_task 64 = .ok (.invokestatic 103, 3) := by decide +kernel
theorem d_D_task_67 : decode b_D_task 67 = .ok (.ifCond .eq 39, 3) := by decide +kernel
theorem d_D_task_70 : decode b_D_task 70 = .ok (.iload 5, 2) := by decide +kernel
theorem d_D_task_72 : decode b_D_task 72 = .ok (.iconst (-1), 1) := by decide +kernel
theorem d_D_task_73 : decode b_D_task 73 = .ok (.bipush 11, 2) := by decide +kernel
theorem d_D_task_75 : decode b_D_task 75 = .ok (.invokestatic 103, 3) := by decide +kernel
theorem d_D_task_78 : decode b_D_task 78 = .ok (.ifCond .eq 28, 3) := by decide +kernel
theorem d_D_task_81 : decode b_D_task 81 = .ok (.iload 6, 2) := by decide +kernel
theorem d_D_task_83 : decode b_D_task 83 = .ok (.iconst 2, 1) := by decide +kernel
theorem d_D_task_84 : decode b_D_task 84 = .ok (.if_icmp .lt 7, 3) := by decide +kernel
theorem d_D_task_87 : decode b_D_task 87 = .ok (.iload_n 3, 1) := by decide +kernel
theorem d_D_task_88 : decode b_D_task 88 = .ok (.ifCond .lt 18, 3) := by decide +kernel
theorem d_D_task_91 : decode b_D_task 91 = .ok (.iload 6, 2) := by decide +kernel
theorem d_D_task_93 : decode b_D_task 93 = .ok (.iconst 3, 1) := by decide +kernel
theorem d_D_task_94 : decode b_D_task 94 = .ok (.if_icmp .lt 8, 3) := by decide +kernel
theorem d_D_task_97 : decode b_D_task 97 = .ok (.iload 4, 2) := by decide +kernel
theorem d_D_task_99 : decode b_D_task 99 = .ok (.ifCond .lt 7, 3) := by decide +kernel
theorem d_D_task_102 : decode b_D_task 102 = .ok (.iconst 1, 1) := by decide +kernel
theorem d_D_task_103 : decode b_D_task 103 = .ok (.goto 4, 3) := by decide +kernel
theorem d_D_task_106 : decode b_D_task 106 = .ok (.iconst 0, 1) := by decide +kernel
theorem d_D_task_107 : decode b_D_task 107 = .ok (.istore 7, 2) := by decide +kernel
theorem d_D_task_109 : decode b_D_task 109 = .ok (.iload_n 2, 1) := by decide +kernel
theorem d_D_task_110 : decode b_D_task 110 = .ok (.iconst 2, 1) := by decide +kernel
theorem d_D_task_111 : decode b_D_task 111 = .ok (.if_icmp .ne 7, 3) := by decide +kernel
theorem d_D_task_114 : decode b_D_task 114 = .ok (.iconst 3, 1) := by decide +kernel
theorem d_D_task_115 : decode b_D_task 115 = .ok (.goto 45, 3) := by decide +kernel
theorem d_D_task_118 : decode b_D_task 118 = .ok (.iload_n 2, 1) := by decide +kernel
theorem d_D_task_119 : decode b_D_task 119 = .ok (.iconst 3, 1) := by decide +kernel
theorem d_D_task_120 : decode b_D_task 120 = .ok (.if_icmp .eq 20, 3) := by decide +kernel
theorem d_D_task_123 : decode b_D_task 123 = .ok (.iload_n 2, 1) := by decide +kernel
theorem d_D_task_124 : decode b_D_task 124 = .ok (.iconst 5, 1) := by decide +kernel
theorem d_D_task_125 : decode b_D_task 125 = .ok (.if_icmp .eq 15, 3) := by decide +kernel
theorem d_D_task_128 : decode b_D_task 128 = .ok (.iload_n 2, 1) := by decide +kernel
theorem d_D_task_129 : decode b_D_task 129 = .ok (.bipush 7, 2) := by decide +kernel
theorem d_D_task_131 : decode b_D_task 131 = .ok (.if_icmp .eq 9, 3) := by decide +kernel
theorem d_D_task_134 : decode b_D_task 134 = .ok (.iload_n 2, 1) := by decide +kernel
theorem d_D_task_135 : decode b_D_task 135 = .ok (.bipush 9, 2) := by decide +kernel
theorem d_D_task_137 : decode b_D_task 137 = .ok (.if_icmp .ne 7, 3) := by decide +kernel
theorem d_D_task_140 : decode b_D_task 140 = .ok (.iconst 2, 1) := by decide +kernel
theorem d_D_task_141 : decode b_D_task 141 = .ok (.goto 19, 3) := by decide +kernel
theorem d_D_task_144 : decode b_D_task 144 = .ok (.iload_n 2, 1) := by decide +kernel
theorem d_D_task_145 : decode b_D_task 145 = .ok (.iconst 4, 1) := by decide +kernel
theorem d_D_task_146 : decode b_D_task 146 = .ok (.if_icmp .eq 9, 3) := by decide +kernel
theorem d_D_task_149 : decode b_D_task 149 = .ok (.iload_n 2, 1) := by decide +kernel
theorem d_D_task_150 : decode b_D_task 150 = .ok (.bipush 8, 2) := by decide +kernel
theorem d_D_task_152 : decode b_D_task 152 = .ok (.if_icmp .ne 7, 3) := by decide +kernel
theorem d_D_task_155 : decode b_D_task 155 = .ok (.iconst 1, 1) := by decide +kernel
theorem d_D_task_156 : decode b_D_task 156 = .ok (.goto 4, 3) := by decide +kernel
theorem d_D_task_159 : decode b_D_task 159 = .ok (.iconst 0, 1) := by decide +kernel
theorem d_D_task_160 : decode b_D_task 160 = .ok (.istore 8, 2) := by decide +kernel
theorem d_D_task_162 : decode b_D_task 162 = .ok (.aload_n 0, 1) := by decide +kernel
theorem d_D_task_163 : decode b_D_task 163 = .ok (.iload 7, 2) := by decide +kernel
theorem d_D_task_165 : decode b_D_task 165 = .ok (.ifCond .eq 14, 3) := by decide +kernel
theorem d_D_task_168 : decode b_D_task 168 = .ok (.iload 6, 2) := by decide +kernel
theorem d_D_task_170 : decode b_D_task 170 = .ok (.iload 8, 2) := by decide +kernel
end
section
theorem d_D_task_172 : decode b_D_task 172 = .ok (.if_icmp .lt 7, 3) := by decide +kernel
theorem d_D_task_175 : decode b_D_task 175 = .ok (.iconst 1, 1) := by decide +kernel
theorem d_D_task_176 : decode b_D_task 176 = .ok (.goto 4, 3) := by decide +kernel
theorem d_D_task_179 : decode b_D_task 179 = .ok (.iconst 0, 1) := by decide +kernel
theorem d_D_task_180 : decode b_D_task 180 = .ok (.invokevirtual 107, 3) := by decide +kernel
theorem d_D_task_183 : decode b_D_task 183 = .ok (.ifCond .eq 4, 3) := by decide +kernel
theorem d_D_task_186 : decode b_D_task 186 = .ok (.return_, 1) := by decide +kernel
theorem d_D_task_187 : decode b_D_task 187 = .ok (.aload_n 0, 1) := by decide +kernel
theorem d_D_task_188 : decode b_D_task 188 = .ok (.getfield 7, 3) := by decide +kernel
theorem d_D_task_191 : decode b_D_task 191 = .ok (.iload_n 1, 1) := by decide +kernel
theorem d_D_task_192 : decode b_D_task 192 = .ok (.iaload, 1) := by decide +kernel
theorem d_D_task_193 : decode b_D_task 193 = .ok (.iconst 2, 1) := by decide +kernel
theorem d_D_task_194 : decode b_D_task 194 = .ok (.if_icmp .ne 56, 3) := by decide +kernel
theorem d_D_task_197 : decode b_D_task 197 = .ok (.aload_n 0, 1) := by decide +kernel
theorem d_D_task_198 : decode b_D_task 198 = .ok (.getfield 13, 3) := by decide +kernel
theorem d_D_task_201 : decode b_D_task 201 = .ok (.iload_n 1, 1) := by decide +kernel
theorem d_D_task_202 : decode b_D_task 202 = .ok (.iaload, 1) := by decide +kernel
theorem d_D_task_203 : decode b_D_task 203 = .ok (.iload_n 2, 1) := by decide +kernel
theorem d_D_task_204 : decode b_D_task 204 = .ok (.if_icmp .ne 46, 3) := by decide +kernel
theorem d_D_task_207 : decode b_D_task 207 = .ok (.aload_n 0, 1) := by decide +kernel
theorem d_D_task_208 : decode b_D_task 208 = .ok (.getfield 16, 3) := by decide +kernel
theorem d_D_task_211 : decode b_D_task 211 = .ok (.iload_n 1, 1) := by decide +kernel
theorem d_D_task_212 : decode b_D_task 212 = .ok (.iconst 3, 1) := by decide +kernel
theorem d_D_task_213 : decode b_D_task 213 = .ok (.imul, 1) := by decide +kernel
theorem d_D_task_214 : decode b_D_task 214 = .ok (.iaload, 1) := by decide +kernel
theorem d_D_task_215 : decode b_D_task 215 = .ok (.iload_n 3, 1) := by decide +kernel
theorem d_D_task_216 : decode b_D_task 216 = .ok (.if_icmp .ne 34, 3) := by decide +kernel
theorem d_D_task_219 : decode b_D_task 219 = .ok (.aload_n 0, 1) := by decide +kernel
theorem d_D_task_220 : decode b_D_task 220 = .ok (.getfield 16, 3) := by decide +kernel
theorem d_D_task_223 : decode b_D_task 223 = .ok (.iload_n 1, 1) := by decide +kernel
theorem d_D_task_224 : decode b_D_task 224 = .ok (.iconst 3, 1) := by decide +kernel
theorem d_D_task_225 : decode b_D_task 225 = .ok (.imul, 1) := by decide +kernel
theorem d_D_task_226 : decode b_D_task 226 = .ok (.iconst 1, 1) := by decide +kernel
theorem d_D_task_227 : decode b_D_task 227 = .ok (.iadd, 1) := by decide +kernel
theorem d_D_task_228 : decode b_D_task 228 = .ok (.iaload, 1) := by decide +kernel
theorem d_D_task_229 : decode b_D_task 229 = .ok (.iload 4, 2) := by decide +kernel
theorem d_D_task_231 : decode b_D_task 231 = .ok (.if_icmp .ne 19, 3) := by decide +kernel
theorem d_D_task_234 : decode b_D_task 234 = .ok (.aload_n 0, 1) := by decide +kernel
theorem d_D_task_235 : decode b_D_task 235 = .ok (.getfield 16, 3) := by decide +kernel
theorem d_D_task_238 : decode b_D_task 238 = .ok (.iload_n 1, 1) := by decide +kernel
theorem d_D_task_239 : decode b_D_task 239 = .ok (.iconst 3, 1) := by decide +kernel
theorem d_D_task_240 : decode b_D_task 240 = .ok (.imul, 1) := by decide +kernel
theorem d_D_task_241 : decode b_D_task 241 = .ok (.iconst 2, 1) := by decide +kernel
theorem d_D_task_242 : decode b_D_task 242 = .ok (.iadd, 1) := by decide +kernel
theorem d_D_task_243 : decode b_D_task 243 = .ok (.iaload, 1) := by decide +kernel
theorem d_D_task_244 : decode b_D_task 244 = .ok (.iload 5, 2) := by decide +kernel
theorem d_D_task_246 : decode b_D_task 246 = .ok (.if_icmp .ne 4, 3) := by decide +kernel
theorem d_D_task_249 : decode b_D_task 249 = .ok (.return_, 1) := by decide +kernel
theorem d_D_task_250 : decode b_D_task 250 = .ok (.aload_n 0, 1) := by decide +kernel
theorem d_D_task_251 : decode b_D_task 251 = .ok (.iload_n 1, 1) := by decide +kernel
theorem d_D_task_252 : decode b_D_task 252 = .ok (.invokevirtual 111, 3) := by decide +kernel
theorem d_D_task_255 : decode b_D_task 255 = .ok (.aload_n 0, 1) := by decide +kernel
theorem d_D_task_256 : decode b_D_task 256 = .ok (.getfield 7, 3) := by decide +kernel
theorem d_D_task_259 : decode b_D_task 259 = .ok (.iload_n 1, 1) := by decide +kernel
theorem d_D_task_260 : decode b_D_task 260 = .ok (.iconst 2, 1) := by decide +kernel
theorem d_D_task_261 : decode b_D_task 261 = .ok (.iastore, 1) := by decide +kernel
theorem d_D_task_262 : decode b_D_task 262 = .ok (.aload_n 0, 1) := by decide +kernel
theorem d_D_task_263 : decode b_D_task 263 = .ok (.getfield 13, 3) := by decide +kernel
theorem d_D_task_266 : decode b_D_task 266 = .ok (.iload_n 1, 1) := by decide +kernel
theorem d_D_task_267 : decode b_D_task 267 = .ok (.iload_n 2, 1) := by decide +kernel
theorem d_D_task_268 : decode b_D_task 268 = .ok (.iastore, 1) := by decide +kernel
theorem d_D_task_269 : decode b_D_task 269 = .ok (.aload_n 0, 1) := by decide +kernel
theorem d_D_task_270 : decode b_D_task 270 = .ok (.getfield 16, 3) := by decide +kernel
theorem d_D_task_273 : decode b_D_task 273 = .ok (.iload_n 1, 1) := by decide +kernel
theorem d_D_task_274 : decode b_D_task 274 = .ok (.iconst 3, 1) := by decide +kernel
theorem d_D_task_275 : decode b_D_task 275 = .ok (.imul, 1) := by decide +kernel
theorem d_D_task_276 : decode b_D_task 276 = .ok (.iload_n 3, 1) := by decide +kernel
theorem d_D_task_277 : decode b_D_task 277 = .ok (.iastore, 1) := by decide +kernel
theorem d_D_task_278 : decode b_D_task 278 = .ok (.aload_n 0, 1) := by decide +kernel
theorem d_D_task_279 : decode b_D_task 279 = .ok (.getfield 16, 3) := by decide +kernel
theorem d_D_task_282 : decode b_D_task 282 = .ok (.iload_n 1, 1) := by decide +kernel
theorem d_D_task_283 : decode b_D_task 283 = .ok (.iconst 3, 1) := by decide +kernel
theorem d_D_task_284 : decode b_D_task 284 = .ok (.imul, 1) := by decide +kernel
theorem d_D_task_285 : decode b_D_task 285 = .ok (.iconst 1, 1) := by decide +kernel
theorem d_D_task_286 : decode b_D_task 286 = .ok (.iadd, 1) := by decide +kernel
theorem d_D_task_287 : decode b_D_task 287 = .ok (.iload 4, 2) := by decide +kernel
theorem d_D_task_289 : decode b_D_task 289 = .ok (.iastore, 1) := by decide +kernel
theorem d_D_task_290 : decode b_D_task 290 = .ok (.aload_n 0, 1) := by decide +kernel
theorem d_D_task_291 : decode b_D_task 291 = .ok (.getfield 16, 3) := by decide +kernel
theorem d_D_task_294 : decode b_D_task 294 = .ok (.iload_n 1, 1) := by decide +kernel
theorem d_D_task_295 : decode b_D_task 295 = .ok (.iconst 3, 1) := by decide +kernel
theorem d_D_task_296 : decode b_D_task 296 = .ok (.imul, 1) := by decide +kernel
theorem d_D_task_297 : decode b_D_task 297 = .ok (.iconst 2, 1) := by decide +kernel
theorem d_D_task_298 : decode b_D_task 298 = .ok (.iadd, 1) := by decide +kernel
theorem d_D_task_299 : decode b_D_task 299 = .ok (.iload 5, 2) := by decide +kernel
theorem d_D_task_301 : decode b_D_task 301 = .ok (.iastore, 1) := by decide +kernel
theorem d_D_task_302 : decode b_D_task 302 = .ok (.return_, 1) := by decide +kernel
theorem d_D_remove_0 : decode b_D_remove 0 = .ok (.aload_n 0, 1) := by decide +kernel
theorem d_D_remove_1 : decode b_D_remove 1 = .ok (.iload_n 1, 1) := by decide +kernel
theorem d_D_remove_2 : decode b_D_remove 2 = .ok (.iconst 0, 1) := by decide +kernel
theorem d_D_remove_3 : decode b_D_remove 3 = .ok (.bipush 11, 2) := by decide +kernel
theorem d_D_remove_5 : decode b_D_remove 5 = .ok (.invokestatic 103, 3) := by decide +kernel
theorem d_D_remove_8 : decode b_D_remove 8 = .ok (.invokevirtual 107, 3) := by decide +kernel
theorem d_D_remove_11 : decode b_D_remove 11 = .ok (.ifCond .eq 4, 3) := by decide +kernel
theorem d_D_remove_14 : decode b_D_remove 14 = .ok (.return_, 1) := by decide +kernel
theorem d_D_remove_15 : decode b_D_remove 15 = .ok (.aload_n 0, 1) := by decide +kernel
theorem d_D_remove_16 : decode b_D_remove 16 = .ok (.getfield 7, 3) := by decide +kernel
theorem d_D_remove_19 : decode b_D_remove 19 = .ok (.iload_n 1, 1) := by decide +kernel
theorem d_D_remove_20 : decode b_D_remove 20 = .ok (.iaload, 1) := by decide +kernel
theorem d_D_remove_21 : decode b_D_remove 21 = .ok (.ifCond .ne 8, 3) := by decide +kernel
theorem d_D_remove_24 : decode b_D_remove 24 = .ok (.aload_n 0, 1) := by decide +kernel
theorem d_D_remove_25 : decode b_D_remove 25 = .ok (.iconst 2, 1) := by decide +kernel
theorem d_D_remove_26 : decode b_D_remove 26 = .ok (.putfield 96, 3) := by decide +kernel
theorem d_D_remove_29 : decode b_D_remove 29 = .ok (.aload_n 0, 1) := by decide +kernel
theorem d_D_remove_30 : decode b_D_remove 30 = .ok (.iload_n 1, 1) := by decide +kernel
theorem d_D_remove_31 : decode b_D_remove 31 = .ok (.invokevirtual 111, 3) := by decide +kernel
theorem d_D_remove_34 : decode b_D_remove 34 = .ok (.aload_n 0, 1) := by decide +kernel
theorem d_D_remove_35 : decode b_D_remove 35 = .ok (.getfield 7, 3) := by decide +kernel
theorem d_D_remove_38 : decode b_D_remove 38 = .ok (.iload_n 1, 1) := by decide +kernel
theorem d_D_remove_39 : decode b_D_remove 39 = .ok (.iconst 0, 1) := by decide +kernel
theorem d_D_remove_40 : decode b_D_remove 40 = .ok (.iastore, 1) := by decide +kernel
theorem d_D_remove_41 : decode b_D_remove 41 = .ok (.return_, 1) := by decide +kernel
theorem d_D_freeTrace_0 : decode b_D_freeTrace 0 = .ok (.iconst 0, 1) := by decide +kernel
theorem d_D_freeTrace_1 : decode b_D_freeTrace 1 = .ok (.istore_n 1, 1) := by decide +kernel
theorem d_D_freeTrace_2 : decode b_D_freeTrace 2 = .ok (.iload_n 1, 1) := by decide +kernel
theorem d_D_freeTrace_3 : decode b_D_freeTrace 3 = .ok (.sipush 320, 3) := by decide +kernel
theorem d_D_freeTrace_6 : decode b_D_freeTrace 6 = .ok (.if_icmp .ge 16, 3) := by decide +kernel
theorem d_D_freeTrace_9 : decode b_D_freeTrace 9 = .ok (.aload_n 0, 1) := by decide +kernel
theorem d_D_freeTrace_10 : decode b_D_freeTrace 10 = .ok (.getfield 38, 3) := by decide +kernel
theorem d_D_freeTrace_13 : decode b_D_freeTrace 13 = .ok (.iload_n 1, 1) := by decide +kernel
theorem d_D_freeTrace_14 : decode b_D_freeTrace 14 = .ok (.iconst 0, 1) := by decide +kernel
theorem d_D_freeTrace_15 : decode b_D_freeTrace 15 = .ok (.bastore, 1) := by decide +kernel
theorem d_D_freeTrace_16 : decode b_D_freeTrace 16 = .ok (.iinc 1 1, 3) := by decide +kernel
theorem d_D_freeTrace_19 : decode b_D_freeTrace 19 = .ok (.goto (-17), 3) := by decide +kernel
theorem d_D_freeTrace_22 : decode b_D_freeTrace 22 = .ok (.iconst 0, 1) := by decide +kernel
theorem d_D_freeTrace_23 : decode b_D_freeTrace 23 = .ok (.istore_n 1, 1) := by decide +kernel
theorem d_D_freeTrace_24 : decode b_D_freeTrace 24 = .ok (.iload_n 1, 1) := by decide +kernel
theorem d_D_freeTrace_25 : decode b_D_freeTrace 25 = .ok (.bipush 24, 2) := by decide +kernel
theorem d_D_freeTrace_27 : decode b_D_freeTrace 27 = .ok (.if_icmp .ge 51, 3) := by decide +kernel
theorem d_D_freeTrace_30 : decode b_D_freeTrace 30 = .ok (.aload_n 0, 1) := by decide +kernel
theorem d_D_freeTrace_31 : decode b_D_freeTrace 31 = .ok (.getfield 42, 3) := by decide +kernel
theorem d_D_freeTrace_34 : decode b_D_freeTrace 34 = .ok (.iload_n 1, 1) := by decide +kernel
theorem d_D_freeTrace_35 : decode b_D_freeTrace 35 = .ok (.iaload, 1) := by decide +kernel
theorem d_D_freeTrace_36 : decode b_D_freeTrace 36 = .ok (.ifCond .lt 15, 3) := by decide +kernel
theorem d_D_freeTrace_39 : decode b_D_freeTrace 39 = .ok (.aload_n 0, 1) := by decide +kernel
theorem d_D_freeTrace_40 : decode b_D_freeTrace 40 = .ok (.getfield 38, 3) := by decide +kernel
theorem d_D_freeTrace_43 : decode b_D_freeTrace 43 = .ok (.aload_n 0, 1) := by decide +kernel
theorem d_D_freeTrace_44 : decode b_D_freeTrace 44 = .ok (.getfield 42, 3) := by decide +kernel
theorem d_D_freeTrace_47 : decode b_D_freeTrace 47 = .ok (.iload_n 1, 1) := by decide +kernel
theorem d_D_freeTrace_48 : decode b_D_freeTrace 48 = .ok (.iaload, 1) := by decide +kernel
theorem d_D_freeTrace_49 : decode b_D_freeTrace 49 = .ok (.iconst 1, 1) := by decide +kernel
theorem d_D_freeTrace_50 : decode b_D_freeTrace 50 = .ok (.bastore, 1) := by decide +kernel
theorem d_D_freeTrace_51 : decode b_D_freeTrace 51 = .ok (.aload_n 0, 1) := by decide +kernel
theorem d_D_freeTrace_52 : decode b_D_freeTrace 52 = .ok (.getfield 45, 3) := by decide +kernel
theorem d_D_freeTrace_55 : decode b_D_freeTrace 55 = .ok (.iload_n 1, 1) := by decide +kernel
theorem d_D_freeTrace_56 : decode b_D_freeTrace 56 = .ok (.iaload, 1) := by decide +kernel
theorem d_D_freeTrace_57 : decode b_D_freeTrace 57 = .ok (.ifCond .lt 15, 3) := by decide +kernel
theorem d_D_freeTrace_60 : decode b_D_freeTrace 60 = .ok (.aload_n 0, 1) := by decide +kernel
theorem d_D_freeTrace_61 : decode b_D_freeTrace 61 = .ok (.getfield 38, 3) := by decide +kernel
theorem d_D_freeTrace_64 : decode b_D_freeTrace 64 = .ok (.aload_n 0, 1) := by decide +kernel
theorem d_D_freeTrace_65 : decode b_D_freeTrace 65 = .ok (.getfield 45, 3) := by decide +kernel
theorem d_D_freeTrace_68 : decode b_D_freeTrace 68 = .ok (.iload_n 1, 1) := by decide +kernel
theorem d_D_freeTrace_69 : decode b_D_freeTrace 69 = .ok (.iaload, 1) := by decide +kernel
theorem d_D_freeTrace_70 : decode b_D_freeTrace 70 = .ok (.iconst 1, 1) := by decide +kernel
theorem d_D_freeTrace_71 : decode b_D_freeTrace 71 = .ok (.bastore, 1) := by decide +kernel
theorem d_D_freeTrace_72 : decode b_D_freeTrace 72 = .ok (.iinc 1 1, 3) := by decide +kernel
theorem d_D_freeTrace_75 : decode b_D_freeTrace 75 = .ok (.goto (-51), 3) := by decide +kernel
theorem d_D_freeTrace_78 : decode b_D_freeTrace 78 = .ok (.iconst 0, 1) := by decide +kernel
theorem d_D_freeTrace_79 : decode b_D_freeTrace 79 = .ok (.istore_n 1, 1) := by decide +kernel
theorem d_D_freeTrace_80 : decode b_D_freeTrace 80 = .ok (.iload_n 1, 1) := by decide +kernel
theorem d_D_freeTrace_81 : decode b_D_freeTrace 81 = .ok (.aload_n 0, 1) := by decide +kernel
theorem d_D_freeTrace_82 : decode b_D_freeTrace 82 = .ok (.getfield 100, 3) := by decide +kernel
theorem d_D_freeTrace_85 : decode b_D_freeTrace 85 = .ok (.if_icmp .ge 21, 3) := by decide +kernel
theorem d_D_freeTrace_88 : decode b_D_freeTrace 88 = .ok (.aload_n 0, 1) := by decide +kernel
theorem d_D_freeTrace_89 : decode b_D_freeTrace 89 = .ok (.getfield 38, 3) := by decide +kernel
theorem d_D_freeTrace_92 : decode b_D_freeTrace 92 = .ok (.aload_n 0, 1) := by decide +kernel
theorem d_D_freeTrace_93 : decode b_D_freeTrace 93 = .ok (.getfield 48, 3) := by decide +kernel
theorem d_D_freeTrace_96 : decode b_D_freeTrace 96 = .ok (.iload_n 1, 1) := by decide +kernel
theorem d_D_freeTrace_97 : decode b_D_freeTrace 97 = .ok (.iaload, 1) := by decide +kernel
theorem d_D_freeTrace_98 : decode b_D_freeTrace 98 = .ok (.iconst 1, 1) := by decide +kernel
theorem d_D_freeTrace_99 : decode b_D_freeTrace 99 = .ok (.bastore, 1) := by decide +kernel
theorem d_D_freeTrace_100 : decode b_D_freeTrace 100 = .ok (.iinc 1 1, 3) := by decide +kernel
theorem d_D_freeTrace_103 : decode b_D_freeTrace 103 = .ok (.goto (-23), 3) := by decide +kernel
theorem d_D_freeTrace_106 : decode b_D_freeTrace 106 = .ok (.iconst 0, 1) := by decide +kernel
theorem d_D_freeTrace_107 : decode b_D_freeTrace 107 = .ok (.istore_n 1, 1) := by decide +kernel
theorem d_D_freeTrace_108 : decode b_D_freeTrace 108 = .ok (.iload_n 1, 1) := by decide +kernel
theorem d_D_freeTrace_109 : decode b_D_freeTrace 109 = .ok (.aload_n 0, 1) := by decide +kernel
theorem d_D_freeTrace_110 : decode b_D_freeTrace 110 = .ok (.getfield 115, 3) := by decide +kernel
theorem d_D_freeTrace_113 : decode b_D_freeTrace 113 = .ok (.if_icmp .ge 21, 3) := by decide +kernel
theorem d_D_freeTrace_116 : decode b_D_freeTrace 116 = .ok (.aload_n 0, 1) := by decide +kernel
theorem d_D_freeTrace_117 : decode b_D_freeTrace 117 = .ok (.getfield 38, 3) := by decide +kernel
theorem d_D_freeTrace_120 : decode b_D_freeTrace 120 = .ok (.aload_n 0, 1) := by decide +kernel
theorem d_D_freeTrace_121 : decode b_D_freeTrace 121 = .ok (.getfield 51, 3) := by decide +kernel
theorem d_D_freeTrace_124 : decode b_D_freeTrace 124 = .ok (.iload_n 1, 1) := by decide +kernel
theorem d_D_freeTrace_125 : decode b_D_freeTrace 125 = .ok (.iaload, 1) := by decide +kernel
theorem d_D_freeTrace_126 : decode b_D_freeTrace 126 = .ok (.iconst 1, 1) := by decide +kernel
theorem d_D_freeTrace_127 : decode b_D_freeTrace 127 = .ok (.bastore, 1) := by decide +kernel
theorem d_D_freeTrace_128 : decode b_D_freeTrace 128 = .ok (.iinc 1 1, 3) := by decide +kernel
theorem d_D_freeTrace_131 : decode b_D_freeTrace 131 = .ok (.goto (-23), 3) := by decide +kernel
theorem d_D_freeTrace_134 : decode b_D_freeTrace 134 = .ok (.iconst 0, 1) := by decide +kernel
theorem d_D_freeTrace_135 : decode b_D_freeTrace 135 = .ok (.istore_n 1, 1) := by decide +kernel
theorem d_D_freeTrace_136 : decode b_D_freeTrace 136 = .ok (.iload_n 1, 1) := by decide +kernel
theorem d_D_freeTrace_137 : decode b_D_freeTrace 137 = .ok (.aload_n 0, 1) := by decide +kernel
theorem d_D_freeTrace_138 : decode b_D_freeTrace 138 = .ok (.getfield 118, 3) := by decide +kernel
theorem d_D_freeTrace_141 : decode b_D_freeTrace 141 = .ok (.if_icmp .ge 66, 3) := by decide +kernel
theorem d_D_freeTrace_144 : decode b_D_freeTrace 144 = .ok (.iconst 0, 1) := by decide +kernel
theorem d_D_freeTrace_145 : decode b_D_freeTrace 145 = .ok (.istore_n 2, 1) := by decide +kernel
theorem d_D_freeTrace_146 : decode b_D_freeTrace 146 = .ok (.iload_n 2, 1) := by decide +kernel
theorem d_D_freeTrace_147 : decode b_D_freeTrace 147 = .ok (.aload_n 0, 1) := by decide +kernel
theorem d_D_freeTrace_148 : decode b_D_freeTrace 148 = .ok (.getfield 81, 3) := by decide +kernel
theorem d_D_freeTrace_151 : decode b_D_freeTrace 151 = .ok (.iload_n 1, 1) := by decide +kernel
theorem d_D_freeTrace_152 : decode b_D_freeTrace 152 = .ok (.iaload, 1) := by decide +kernel
theorem d_D_freeTrace_153 : decode b_D_freeTrace 153 = .ok (.if_icmp .ge 26, 3) := by decide +kernel
theorem d_D_freeTrace_156 : decode b_D_freeTrace 156 = .ok (.aload_n 0, 1) := by decide +kernel
theorem d_D_freeTrace_157 : decode b_D_freeTrace 157 = .ok (.getfield 38, 3) := by decide +kernel
theorem d_D_freeTrace_160 : decode b_D_freeTrace 160 = .ok (.aload_n 0, 1) := by decide +kernel
theorem d_D_freeTrace_161 : decode b_D_freeTrace 161 = .ok (.getfield 78, 3) := by decide +kernel
theorem d_D_freeTrace_164 : decode b_D_freeTrace 164 = .ok (.iload_n 1, 1) := by decide +kernel
theorem d_D_freeTrace_165 : decode b_D_freeTrace 165 = .ok (.bipush 16, 2) := by decide +kernel
theorem d_D_freeTrace_167 : decode b_D_freeTrace 167 = .ok (.imul, 1) := by decide +kernel
theorem d_D_freeTrace_168 : decode b_D_freeTrace 168 = .ok (.iload_n 2, 1) := by decide +kernel
theorem d_D_freeTrace_169 : decode b_D_freeTrace 169 = .ok (.iadd, 1) := by decide +kernel
theorem d_D_freeTrace_170 : decode b_D_freeTrace 170 = .ok (.iaload, 1) := by decide +kernel
theorem d_D_freeTrace_171 : decode b_D_freeTrace 171 = .ok (.iconst 1, 1) := by decide +kernel
theorem d_D_freeTrace_172 : decode b_D_freeTrace 172 = .ok (.bastore, 1) := by decide +kernel
theorem d_D_freeTrace_173 : decode b_D_freeTrace 173 = .ok (.iinc 2 1, 3) := by decide +kernel
theorem d_D_freeTrace_176 : decode b_D_freeTrace 176 = .ok (.goto (-30), 3) := by decide +kernel
theorem d_D_freeTrace_179 : decode b_D_freeTrace 179 = .ok (.aload_n 0, 1) := by decide +kernel
theorem d_D_freeTrace_180 : decode b_D_freeTrace 180 = .ok (.getfield 69, 3) := by decide +kernel
theorem d_D_freeTrace_183 : decode b_D_freeTrace 183 = .ok (.iload_n 1, 1) := by decide +kernel
theorem d_D_freeTrace_184 : decode b_D_freeTrace 184 = .ok (.iaload, 1) := by decide +kernel
theorem d_D_freeTrace_185 : decode b_D_freeTrace 185 = .ok (.iconst 1, 1) := by decide +kernel
theorem d_D_freeTrace_186 : decode b_D_freeTrace 186 = .ok (.if_icmp .le 15, 3) := by decide +kernel
theorem d_D_freeTrace_189 : decode b_D_freeTrace 189 = .ok (.aload_n 0, 1) := by decide +kernel
theorem d_D_freeTrace_190 : decode b_D_freeTrace 190 = .ok (.getfield 38, 3) := by decide +kernel
theorem d_D_freeTrace_193 : decode b_D_freeTrace 193 = .ok (.aload_n 0, 1) := by decide +kernel
theorem d_D_freeTrace_194 : decode b_D_freeTrace 194 = .ok (.getfield 84, 3) := by decide +kernel
theorem d_D_freeTrace_197 : decode b_D_freeTrace 197 = .ok (.iload_n 1, 1) := by decide +kernel
theorem d_D_freeTrace_198 : decode b_D_freeTrace 198 = .ok (.iaload, 1) := by decide +kernel
theorem d_D_freeTrace_199 : decode b_D_freeTrace 199 = .ok (.iconst 1, 1) := by decide +kernel
theorem d_D_freeTrace_200 : decode b_D_freeTrace 200 = .ok (.bastore, 1) := by decide +kernel
theorem d_D_freeTrace_201 : decode b_D_freeTrace 201 = .ok (.iinc 1 1, 3) := by decide +kernel
theorem d_D_freeTrace_204 : decode b_D_freeTrace 204 = .ok (.goto (-68), 3) := by decide +kernel
theorem d_D_freeTrace_207 : decode b_D_freeTrace 207 = .ok (.iconst 0, 1) := by decide +kernel
theorem d_D_freeTrace_208 : decode b_D_freeTrace 208 = .ok (.istore_n 1, 1) := by decide +kernel
theorem d_D_freeTrace_209 : decode b_D_freeTrace 209 = .ok (.aload_n 0, 1) := by decide +kernel
theorem d_D_freeTrace_210 : decode b_D_freeTrace 210 = .ok (.getfield 38, 3) := by decide +kernel
theorem d_D_freeTrace_213 : decode b_D_freeTrace 213 = .ok (.iload_n 1, 1) := by decide +kernel
theorem d_D_freeTrace_214 : decode b_D_freeTrace 214 = .ok (.baload, 1) := by decide +kernel
theorem d_D_freeTrace_215 : decode b_D_freeTrace 215 = .ok (.ifCond .eq 9, 3) := by decide +kernel
theorem d_D_freeTrace_218 : decode b_D_freeTrace 218 = .ok (.iinc 1 1, 3) := by decide +kernel
theorem d_D_freeTrace_221 : decode b_D_freeTrace 221 = .ok (.goto (-12), 3) := by decide +kernel
theorem d_D_freeTrace_224 : decode b_D_freeTrace 224 = .ok (.iload_n 1, 1) := by decide +kernel
theorem d_D_freeTrace_225 : decode b_D_freeTrace 225 = .ok (.ireturn, 1) := by decide +kernel
theorem d_D_ask_0 : decode b_D_ask 0 = .ok (.aload_n 0, 1) := by decide +kernel
theorem d_D_ask_1 : decode b_D_ask 1 = .ok (.getfield 60, 3) := by decide +kernel
theorem d_D_ask_4 : decode b_D_ask 4 = .ok (.iload_n 1, 1) := by decide +kernel
theorem d_D_ask_5 : decode b_D_ask 5 = .ok (.iaload, 1) := by decide +kernel
theorem d_D_ask_6 : decode b_D_ask 6 = .ok (.iconst 2, 1) := by decide +kernel
theorem d_D_ask_7 : decode b_D_ask 7 = .ok (.if_icmp .ne 5, 3) := by decide +kernel
theorem d_D_ask_10 : decode b_D_ask 10 = .ok (.iconst 1, 1) := by decide +kernel
theorem d_D_ask_11 : decode b_D_ask 11 = .ok (.ireturn, 1) := by decide +kernel
theorem d_D_ask_12 : decode b_D_ask 12 = .ok (.aload_n 0, 1) := by decide +kernel
theorem d_D_ask_13 : decode b_D_ask 13 = .ok (.getfield 60, 3) := by decide +kernel
theorem d_D_ask_16 : decode b_D_ask 16 = .ok (.iload_n 1, 1) := by decide +kernel
theorem d_D_ask_17 : decode b_D_ask 17 = .ok (.iaload, 1) := by decide +kernel
theorem d_D_ask_18 : decode b_D_ask 18 = .ok (.iconst 1, 1) := by decide +kernel
theorem d_D_ask_19 : decode b_D_ask 19 = .ok (.if_icmp .ne 20, 3) := by decide +kernel
theorem d_D_ask_22 : decode b_D_ask 22 = .ok (.aload_n 0, 1) := by decide +kernel
theorem d_D_ask_23 : decode b_D_ask 23 = .ok (.dup, 1) := by decide +kernel
theorem d_D_ask_24 : decode b_D_ask 24 = .ok (.getfield 121, 3) := by decide +kernel
theorem d_D_ask_27 : decode b_D_ask 27 = .ok (.iconst 1, 1) := by decide +kernel
theorem d_D_ask_28 : decode b_D_ask 28 = .ok (.iadd, 1) := by decide +kernel
theorem d_D_ask_29 : decode b_D_ask 29 = .ok (.putfield 121, 3) := by decide +kernel
theorem d_D_ask_32 : decode b_D_ask 32 = .ok (.aload_n 0, 1) := by decide +kernel
theorem d_D_ask_33 : decode b_D_ask 33 = .ok (.iconst 4, 1) := by decide +kernel
theorem d_D_ask_34 : decode b_D_ask 34 = .ok (.putfield 96, 3) := by decide +kernel
theorem d_D_ask_37 : decode b_D_ask 37 = .ok (.iconst 0, 1) := by decide +kernel
theorem d_D_ask_38 : decode b_D_ask 38 = .ok (.ireturn, 1) := by decide +kernel
theorem d_D_ask_39 : decode b_D_ask 39 = .ok (.aload_n 0, 1) := by decide +kernel
theorem d_D_ask_40 : decode b_D_ask 40 = .ok (.getfield 7, 3) := by decide +kernel
theorem d_D_ask_43 : decode b_D_ask 43 = .ok (.iload_n 1, 1) := by decide +kernel
theorem d_D_ask_44 : decode b_D_ask 44 = .ok (.iaload, 1) := by decide +kernel
theorem d_D_ask_45 : decode b_D_ask 45 = .ok (.ifCond .ne 10, 3) := by decide +kernel
theorem d_D_ask_48 : decode b_D_ask 48 = .ok (.aload_n 0, 1) := by decide +kernel
theorem d_D_ask_49 : decode b_D_ask 49 = .ok (.iconst 2, 1) := by decide +kernel
theorem d_D_ask_50 : decode b_D_ask 50 = .ok (.putfield 96, 3) := by decide +kernel
theorem d_D_ask_53 : decode b_D_ask 53 = .ok (.iconst 0, 1) := by decide +kernel
theorem d_D_ask_54 : decode b_D_ask 54 = .ok (.ireturn, 1) := by decide +kernel
theorem d_D_ask_55 : decode b_D_ask 55 = .ok (.aload_n 0, 1) := by decide +kernel
theorem d_D_ask_56 : decode b_D_ask 56 = .ok (.getfield 7, 3) := by decide +kernel
theorem d_D_ask_59 : decode b_D_ask 59 = .ok (.iload_n 1, 1) := by decide +kernel
theorem d_D_ask_60 : decode b_D_ask 60 = .ok (.iaload, 1) := by decide +kernel
theorem d_D_ask_61 : decode b_D_ask 61 = .ok (.iconst 1, 1) := by decide +kernel
theorem d_D_ask_62 : decode b_D_ask 62 = .ok (.if_icmp .ne 24, 3) := by decide +kernel
theorem d_D_ask_65 : decode b_D_ask 65 = .ok (.aload_n 0, 1) := by decide +kernel
theorem d_D_ask_66 : decode b_D_ask 66 = .ok (.getfield 60, 3) := by decide +kernel
theorem d_D_ask_69 : decode b_D_ask 69 = .ok (.iload_n 1, 1) := by decide +kernel
theorem d_D_ask_70 : decode b_D_ask 70 = .ok (.iconst 2, 1) := by decide +kernel
theorem d_D_ask_71 : decode b_D_ask 71 = .ok (.iastore, 1) := by decide +kernel
theorem d_D_ask_72 : decode b_D_ask 72 = .ok (.aload_n 0, 1) := by decide +kernel
theorem d_D_ask_73 : decode b_D_ask 73 = .ok (.getfield 63, 3) := by decide +kernel
theorem d_D_ask_76 : decode b_D_ask 76 = .ok (.iload_n 1, 1) := by decide +kernel
theorem d_D_ask_77 : decode b_D_ask 77 = .ok (.aload_n 0, 1) := by decide +kernel
theorem d_D_ask_78 : decode b_D_ask 78 = .ok (.getfield 19, 3) := by decide +kernel
theorem d_D_ask_81 : decode b_D_ask 81 = .ok (.iload_n 1, 1) := by decide +kernel
theorem d_D_ask_82 : decode b_D_ask 82 = .ok (.laload, 1) := by decide +kernel
theorem d_D_ask_83 : decode b_D_ask 83 = .ok (.lastore, 1) := by decide +kernel
theorem d_D_ask_84 : decode b_D_ask 84 = .ok (.iconst 1, 1) := by decide +kernel
theorem d_D_ask_85 : decode b_D_ask 85 = .ok (.ireturn, 1) := by decide +kernel
theorem d_D_ask_86 : decode b_D_ask 86 = .ok (.aload_n 0, 1) := by decide +kernel
theorem d_D_ask_87 : decode b_D_ask 87 = .ok (.getfield 60, 3) := by decide +kernel
theorem d_D_ask_90 : decode b_D_ask 90 = .ok (.iload_n 1, 1) := by decide +kernel
theorem d_D_ask_91 : decode b_D_ask 91 = .ok (.iconst 1, 1) := by decide +kernel
theorem d_D_ask_92 : decode b_D_ask 92 = .ok (.iastore, 1) := by decide +kernel
theorem d_D_ask_93 : decode b_D_ask 93 = .ok (.aload_n 0, 1) := by decide +kernel
theorem d_D_ask_94 : decode b_D_ask 94 = .ok (.getfield 66, 3) := by decide +kernel
theorem d_D_ask_97 : decode b_D_ask 97 = .ok (.aload_n 0, 1) := by decide +kernel
theorem d_D_ask_98 : decode b_D_ask 98 = .ok (.getfield 118, 3) := by decide +kernel
theorem d_D_ask_101 : decode b_D_ask 101 = .ok (.iload_n 1, 1) := by decide +kernel
theorem d_D_ask_102 : decode b_D_ask 102 = .ok (.iastore, 1) := by decide +kernel
theorem d_D_ask_103 : decode b_D_ask 103 = .ok (.aload_n 0, 1) := by decide +kernel
theorem d_D_ask_104 : decode b_D_ask 104 = .ok (.getfield 81, 3) := by decide +kernel
theorem d_D_ask_107 : decode b_D_ask 107 = .ok (.aload_n 0, 1) := by decide +kernel
theorem d_D_ask_108 : decode b_D_ask 108 = .ok (.getfield 118, 3) := by decide +kernel
theorem d_D_ask_111 : decode b_D_ask 111 = .ok (.iconst 0, 1) := by decide +kernel
theorem d_D_ask_112 : decode b_D_ask 112 = .ok (.iastore, 1) := by decide +kernel
theorem d_D_ask_113 : decode b_D_ask 113 = .ok (.aload_n 0, 1) := by decide +kernel
theorem d_D_ask_114 : decode b_D_ask 114 = .ok (.getfield 69, 3) := by decide +kernel
theorem d_D_ask_117 : decode b_D_ask 117 = .ok (.aload_n 0, 1) := by decide +kernel
theorem d_D_ask_118 : decode b_D_ask 118 = .ok (.getfield 118, 3) := by decide +kernel
theorem d_D_ask_121 : decode b_D_ask 121 = .ok (.iconst 1, 1) := by decide +kernel
theorem d_D_ask_122 : decode b_D_ask 122 = .ok (.iastore, 1) := by decide +kernel
theorem d_D_ask_123 : decode b_D_ask 123 = .ok (.aload_n 0, 1) := by decide +kernel
theorem d_D_ask_124 : decode b_D_ask 124 = .ok (.getfield 72, 3) := by decide +kernel
theorem d_D_ask_127 : decode b_D_ask 127 = .ok (.aload_n 0, 1) := by decide +kernel
theorem d_D_ask_128 : decode b_D_ask 128 = .ok (.getfield 118, 3) := by decide +kernel
theorem d_D_ask_131 : decode b_D_ask 131 = .ok (.aload_n 0, 1) := by decide +kernel
theorem d_D_ask_132 : decode b_D_ask 132 = .ok (.getfield 42, 3) := by decide +kernel
theorem d_D_ask_135 : decode b_D_ask 135 = .ok (.aload_n 0, 1) := by decide +kernel
theorem d_D_ask_136 : decode b_D_ask 136 = .ok (.getfield 124, 3) := by decide +kernel
theorem d_D_ask_139 : decode b_D_ask 139 = .ok (.bipush 12, 2) := by decide +kernel
theorem d_D_ask_141 : decode b_D_ask 141 = .ok (.imul, 1) := by decide +kernel
theorem d_D_ask_142 : decode b_D_ask 142 = .ok (.iload_n 1, 1) := by decide +kernel
theorem d_D_ask_143 : decode b_D_ask 143 = .ok (.iadd, 1) := by decide +kernel
theorem d_D_ask_144 : decode b_D_ask 144 = .ok (.iaload, 1) := by decide +kernel
theorem d_D_ask_145 : decode b_D_ask 145 = .ok (.iastore, 1) := by decide +kernel
theorem d_D_ask_146 : decode b_D_ask 146 = .ok (.aload_n 0, 1) := by decide +kernel
theorem d_D_ask_147 : decode b_D_ask 147 = .ok (.getfield 75, 3) := by decide +kernel
theorem d_D_ask_150 : decode b_D_ask 150 = .ok (.aload_n 0, 1) := by decide +kernel
theorem d_D_ask_151 : decode b_D_ask 151 = .ok (.getfield 118, 3) := by decide +kernel
theorem d_D_ask_154 : decode b_D_ask 154 = .ok (.iconst 0, 1) := by decide +kernel
theorem d_D_ask_155 : decode b_D_ask 155 = .ok (.iastore, 1) := by decide +kernel
theorem d_D_ask_156 : decode b_D_ask 156 = .ok (.aload_n 0, 1) := by decide +kernel
theorem d_D_ask_157 : decode b_D_ask 157 = .ok (.dup, 1) := by decide +kernel
theorem d_D_ask_158 : decode b_D_ask 158 = .ok (.getfield 118, 3) := by decide +kernel
theorem d_D_ask_161 : decode b_D_ask 161 = .ok (.iconst 1, 1) := by decide +kernel
theorem d_D_ask_162 : decode b_D_ask 162 = .ok (.iadd, 1) := by decide +kernel
theorem d_D_ask_163 : decode b_D_ask 163 = .ok (.putfield 118, 3) := by decide +kernel
theorem d_D_ask_166 : decode b_D_ask 166 = .ok (.iconst 0, 1) := by decide +kernel
theorem d_D_ask_167 : decode b_D_ask 167 = .ok (.ireturn, 1) := by decide +kernel
theorem d_D_finish_0 : decode b_D_finish 0 = .ok (.aload_n 0, 1) := by decide +kernel
theorem d_D_finish_1 : decode b_D_finish 1 = .ok (.getfield 60, 3) := by decide +kernel
theorem d_D_finish_4 : decode b_D_finish 4 = .ok (.aload_n 0, 1) := by decide +kernel
theorem d_D_finish_5 : decode b_D_finish 5 = .ok (.getfield 66, 3) := by decide +kernel
theorem d_D_finish_8 : decode b_D_finish 8 = .ok (.iload_n 1, 1) := by decide +kernel
theorem d_D_finish_9 : decode b_D_finish 9 = .ok (.iaload, 1) := by decide +kernel
theorem d_D_finish_10 : decode b_D_finish 10 = .ok (.iconst 2, 1) := by decide +kernel
theorem d_D_finish_11 : decode b_D_finish 11 = .ok (.iastore, 1) := by decide +kernel
theorem d_D_finish_12 : decode b_D_finish 12 = .ok (.aload_n 0, 1) := by decide +kernel
theorem d_D_finish_13 : decode b_D_finish 13 = .ok (.getfield 63, 3) := by decide +kernel
theorem d_D_finish_16 : decode b_D_finish 16 = .ok (.aload_n 0, 1) := by decide +kernel
theorem d_D_finish_17 : decode b_D_finish 17 = .ok (.getfield 66, 3) := by decide +kernel
theorem d_D_finish_20 : decode b_D_finish 20 = .ok (.iload_n 1, 1) := by decide +kernel
theorem d_D_finish_21 : decode b_D_finish 21 = .ok (.iaload, 1) := by decide +kernel
theorem d_D_finish_22 : decode b_D_finish 22 = .ok (.lload_n 2, 1) := by decide +kernel
theorem d_D_finish_23 : decode b_D_finish 23 = .ok (.lastore, 1) := by decide +kernel
theorem d_D_finish_24 : decode b_D_finish 24 = .ok (.aload_n 0, 1) := by decide +kernel
theorem d_D_finish_25 : decode b_D_finish 25 = .ok (.dup, 1) := by decide +kernel
theorem d_D_finish_26 : decode b_D_finish 26 = .ok (.getfield 118, 3) := by decide +kernel
theorem d_D_finish_29 : decode b_D_finish 29 = .ok (.iconst 1, 1) := by decide +kernel
theorem d_D_finish_30 : decode b_D_finish 30 = .ok (.isub, 1) := by decide +kernel
theorem d_D_finish_31 : decode b_D_finish 31 = .ok (.putfield 118, 3) := by decide +kernel
theorem d_D_finish_34 : decode b_D_finish 34 = .ok (.return_, 1) := by decide +kernel
theorem d_D_nextCandidate_0 : decode b_D_nextCandidate 0 = .ok (.aload_n 0, 1) := by decide +kernel
theorem d_D_nextCandidate_1 : decode b_D_nextCandidate 1 = .ok (.getfield 66, 3) := by decide +kernel
theorem d_D_nextCandidate_4 : decode b_D_nextCandidate 4 = .ok (.iload_n 1, 1) := by decide +kernel
theorem d_D_nextCandidate_5 : decode b_D_nextCandidate 5 = .ok (.iaload, 1) := by decide +kernel
theorem d_D_nextCandidate_6 : decode b_D_nextCandidate 6 = .ok (.istore_n 2, 1) := by decide +kernel
theorem d_D_nextCandidate_7 : decode b_D_nextCandidate 7 = .ok (.aload_n 0, 1) := by decide +kernel
theorem d_D_nextCandidate_8 : decode b_D_nextCandidate 8 = .ok (.getfield 69, 3) := by decide +kernel
theorem d_D_nextCandidate_11 : decode b_D_nextCandidate 11 = .ok (.iload_n 1, 1) := by decide +kernel
theorem d_D_nextCandidate_12 : decode b_D_nextCandidate 12 = .ok (.iaload, 1) := by decide +kernel
theorem d_D_nextCandidate_13 : decode b_D_nextCandidate 13 = .ok (.iconst 1, 1) := by decide +kernel
theorem d_D_nextCandidate_14 : decode b_D_nextCandidate 14 = .ok (.if_icmp .ne 76, 3) := by decide +kernel
theorem d_D_nextCandidate_17 : decode b_D_nextCandidate 17 = .ok (.aload_n 0, 1) := by decide +kernel
theorem d_D_nextCandidate_18 : decode b_D_nextCandidate 18 = .ok (.getfield 69, 3) := by decide +kernel
theorem d_D_nextCandidate_21 : decode b_D_nextCandidate 21 = .ok (.iload_n 1, 1) := by decide +kernel
theorem d_D_nextCandidate_22 : decode b_D_nextCandidate 22 = .ok (.iconst 2, 1) := by decide +kernel
theorem d_D_nextCandidate_23 : decode b_D_nextCandidate 23 = .ok (.iastore, 1) := by decide +kernel
theorem d_D_nextCandidate_24 : decode b_D_nextCandidate 24 = .ok (.iconst 0, 1) := by decide +kernel
theorem d_D_nextCandidate_25 : decode b_D_nextCandidate 25 = .ok (.istore_n 3, 1) := by decide +kernel
theorem d_D_nextCandidate_26 : decode b_D_nextCandidate 26 = .ok (.iload_n 3, 1) := by decide +kernel
theorem d_D_nextCandidate_27 : decode b_D_nextCandidate 27 = .ok (.aload_n 0, 1) := by decide +kernel
theorem d_D_nextCandidate_28 : decode b_D_nextCandidate 28 = .ok (.getfield 100, 3) := by decide +kernel
theorem d_D_nextCandidate_31 : decode b_D_nextCandidate 31 = .ok (.if_icmp .ge 59, 3) := by decide +kernel
theorem d_D_nextCandidate_34 : decode b_D_nextCandidate 34 = .ok (.aload_n 0, 1) := by decide +kernel
theorem d_D_nextCandidate_35 : decode b_D_nextCandidate 35 = .ok (.getfield 29, 3) := by decide +kernel
theorem d_D_nextCandidate_38 : decode b_D_nextCandidate 38 = .ok (.aload_n 0, 1) := by decide +kernel
theorem d_D_nextCandidate_39 : decode b_D_nextCandidate 39 = .ok (.getfield 48, 3) := by decide +kernel
theorem d_D_nextCandidate_42 : decode b_D_nextCandidate 42 = .ok (.iload_n 3, 1) := by decide +kernel
theorem d_D_nextCandidate_43 : decode b_D_nextCandidate 43 = .ok (.iaload, 1) := by decide +kernel
theorem d_D_nextCandidate_44 : decode b_D_nextCandidate 44 = .ok (.iaload, 1) := by decide +kernel
theorem d_D_nextCandidate_45 : decode b_D_nextCandidate 45 = .ok (.iload_n 2, 1) := by decide +kernel
theorem d_D_nextCandidate_46 : decode b_D_nextCandidate 46 = .ok (.if_icmp .eq 6, 3) := by decide +kernel
theorem d_D_nextCandidate_49 : decode b_D_nextCandidate 49 = .ok (.goto 35, 3) := by decide +kernel
theorem d_D_nextCandidate_52 : decode b_D_nextCandidate 52 = .ok (.aload_n 0, 1) := by decide +kernel
theorem d_D_nextCandidate_53 : decode b_D_nextCandidate 53 = .ok (.getfield 78, 3) := by decide +kernel
theorem d_D_nextCandidate_56 : decode b_D_nextCandidate 56 = .ok (.iload_n 1, 1) := by decide +kernel
theorem d_D_nextCandidate_57 : decode b_D_nextCandidate 57 = .ok (.bipush 16, 2) := by decide +kernel
theorem d_D_nextCandidate_59 : decode b_D_nextCandidate 59 = .ok (.imul, 1) := by decide +kernel
theorem d_D_nextCandidate_60 : decode b_D_nextCandidate 60 = .ok (.aload_n 0, 1) := by decide +kernel
theorem d_D_nextCandidate_61 : decode b_D_nextCandidate 61 = .ok (.getfield 81, 3) := by decide +kernel
theorem d_D_nextCandidate_64 : decode b_D_nextCandidate 64 = .ok (.iload_n 1, 1) := by decide +kernel
theorem d_D_nextCandidate_65 : decode b_D_nextCandidate 65 = .ok (.iaload, 1) := by decide +kernel
theorem d_D_nextCandidate_66 : decode b_D_nextCandidate 66 = .ok (.iadd, 1) := by decide +kernel
theorem d_D_nextCandidate_67 : decode b_D_nextCandidate 67 = .ok (.aload_n 0, 1) := by decide +kernel
theorem d_D_nextCandidate_68 : decode b_D_nextCandidate 68 = .ok (.getfield 48, 3) := by decide +kernel
theorem d_D_nextCandidate_71 : decode b_D_nextCandidate 71 = .ok (.iload_n 3, 1) := by decide +kernel
theorem d_D_nextCandidate_72 : decode b_D_nextCandidate 72 = .ok (.iaload, 1) := by decide +kernel
theorem d_D_nextCandidate_73 : decode b_D_nextCandidate 73 = .ok (.iastore, 1) := by decide +kernel
theorem d_D_nextCandidate_74 : decode b_D_nextCandidate 74 = .ok (.aload_n 0, 1) := by decide +kernel
theorem d_D_nextCandidate_75 : decode b_D_nextCandidate 75 = .ok (.getfield 81, 3) := by decide +kernel
theorem d_D_nextCandidate_78 : decode b_D_nextCandidate 78 = .ok (.iload_n 1, 1) := by decide +kernel
theorem d_D_nextCandidate_79 : decode b_D_nextCandidate 79 = .ok (.dup2, 1) := by decide +kernel
theorem d_D_nextCandidate_80 : decode b_D_nextCandidate 80 = .ok (.iaload, 1) := by decide +kernel
theorem d_D_nextCandidate_81 : decode b_D_nextCandidate 81 = .ok (.iconst 1, 1) := by decide +kernel
theorem d_D_nextCandidate_82 : decode b_D_nextCandidate 82 = .ok (.iadd, 1) := by decide +kernel
theorem d_D_nextCandidate_83 : decode b_D_nextCandidate 83 = .ok (.iastore, 1) := by decide +kernel
theorem d_D_nextCandidate_84 : decode b_D_nextCandidate 84 = .ok (.iinc 3 1, 3) := by decide +kernel
theorem d_D_nextCandidate_87 : decode b_D_nextCandidate 87 = .ok (.goto (-61), 3) := by decide +kernel
theorem d_D_nextCandidate_90 : decode b_D_nextCandidate 90 = .ok (.aload_n 0, 1) := by decide +kernel
theorem d_D_nextCandidate_91 : decode b_D_nextCandidate 91 = .ok (.getfield 75, 3) := by decide +kernel
theorem d_D_nextCandidate_94 : decode b_D_nextCandidate 94 = .ok (.iload_n 1, 1) := by decide +kernel
theorem d_D_nextCandidate_95 : decode b_D_nextCandidate 95 = .ok (.iconst 0, 1) := by decide +kernel
theorem d_D_nextCandidate_96 : decode b_D_nextCandidate 96 = .ok (.iastore, 1) := by decide +kernel
theorem d_D_nextCandidate_97 : decode b_D_nextCandidate 97 = .ok (.aload_n 0, 1) := by decide +kernel
theorem d_D_nextCandidate_98 : decode b_D_nextCandidate 98 = .ok (.getfield 81, 3) := by decide +kernel
theorem d_D_nextCandidate_101 : decode b_D_nextCandidate 101 = .ok (.iload_n 1, 1) := by decide +kernel
theorem d_D_nextCandidate_102 : decode b_D_nextCandidate 102 = .ok (.iaload, 1) := by decide +kernel
theorem d_D_nextCandidate_103 : decode b_D_nextCandidate 103 = .ok (.ifCond .le 48, 3) := by decide +kernel
theorem d_D_nextCandidate_106 : decode b_D_nextCandidate 106 = .ok (.aload_n 0, 1) := by decide +kernel
theorem d_D_nextCandidate_107 : decode b_D_nextCandidate 107 = .ok (.getfield 81, 3) := by decide +kernel
theorem d_D_nextCandidate_110 : decode b_D_nextCandidate 110 = .ok (.iload_n 1, 1) := by decide +kernel
theorem d_D_nextCandidate_111 : decode b_D_nextCandidate 111 = .ok (.dup2, 1) := by decide +kernel
theorem d_D_nextCandidate_112 : decode b_D_nextCandidate 112 = .ok (.iaload, 1) := by decide +kernel
theorem d_D_nextCandidate_113 : decode b_D_nextCandidate 113 = .ok (.iconst 1, 1) := by decide +kernel
theorem d_D_nextCandidate_114 : decode b_D_nextCandidate 114 = .ok (.isub, 1) := by decide +kernel
theorem d_D_nextCandidate_115 : decode b_D_nextCandidate 115 = .ok (.iastore, 1) := by decide +kernel
theorem d_D_nextCandidate_116 : decode b_D_nextCandidate 116 = .ok (.aload_n 0, 1) := by decide +kernel
theorem d_D_nextCandidate_117 : decode b_D_nextCandidate 117 = .ok (.getfield 72, 3) := by decide +kernel
theorem d_D_nextCandidate_120 : decode b_D_nextCandidate 120 = .ok (.iload_n 1, 1) := by decide +kernel
theorem d_D_nextCandidate_121 : decode b_D_nextCandidate 121 = .ok (.aload_n 0, 1) := by decide +kernel
theorem d_D_nextCandidate_122 : decode b_D_nextCandidate 122 = .ok (.getfield 78, 3) := by decide +kernel
theorem d_D_nextCandidate_125 : decode b_D_nextCandidate 125 = .ok (.iload_n 1, 1) := by decide +kernel
theorem d_D_nextCandidate_126 : decode b_D_nextCandidate 126 = .ok (.bipush 16, 2) := by decide +kernel
theorem d_D_nextCandidate_128 : decode b_D_nextCandidate 128 = .ok (.imul, 1) := by decide +kernel
theorem d_D_nextCandidate_129 : decode b_D_nextCandidate 129 = .ok (.aload_n 0, 1) := by decide +kernel
theorem d_D_nextCandidate_130 : decode b_D_nextCandidate 130 = .ok (.getfield 81, 3) := by decide +kernel
theorem d_D_nextCandidate_133 : decode b_D_nextCandidate 133 = .ok (.iload_n 1, 1) := by decide +kernel
theorem d_D_nextCandidate_134 : decode b_D_nextCandidate 134 = .ok (.iaload, 1) := by decide +kernel
theorem d_D_nextCandidate_135 : decode b_D_nextCandidate 135 = .ok (.iadd, 1) := by decide +kernel
theorem d_D_nextCandidate_136 : decode b_D_nextCandidate 136 = .ok (.iaload, 1) := by decide +kernel
theorem d_D_nextCandidate_137 : decode b_D_nextCandidate 137 = .ok (.iastore, 1) := by decide +kernel
theorem d_D_nextCandidate_138 : decode b_D_nextCandidate 138 = .ok (.aload_n 0, 1) := by decide +kernel
theorem d_D_nextCandidate_139 : decode b_D_nextCandidate 139 = .ok (.getfield 84, 3) := by decide +kernel
theorem d_D_nextCandidate_142 : decode b_D_nextCandidate 142 = .ok (.iload_n 1, 1) := by decide +kernel
theorem d_D_nextCandidate_143 : decode b_D_nextCandidate 143 = .ok (.aload_n 0, 1) := by decide +kernel
theorem d_D_nextCandidate_144 : decode b_D_nextCandidate 144 = .ok (.getfield 72, 3) := by decide +kernel
theorem d_D_nextCandidate_147 : decode b_D_nextCandidate 147 = .ok (.iload_n 1, 1) := by decide +kernel
theorem d_D_nextCandidate_148 : decode b_D_nextCandidate 148 = .ok (.iaload, 1) := by decide +kernel
theorem d_D_nextCandidate_149 : decode b_D_nextCandidate 149 = .ok (.iastore, 1) := by decide +kernel
theorem d_D_nextCandidate_150 : decode b_D_nextCandidate 150 = .ok (.return_, 1) := by decide +kernel
theorem d_D_nextCandidate_151 : decode b_D_nextCandidate 151 = .ok (.aload_n 0, 1) := by decide +kernel
theorem d_D_nextCandidate_152 : decode b_D_nextCandidate 152 = .ok (.invokevirtual 127, 3) := by decide +kernel
theorem d_D_nextCandidate_155 : decode b_D_nextCandidate 155 = .ok (.istore_n 3, 1) := by decide +kernel
theorem d_D_nextCandidate_156 : decode b_D_nextCandidate 156 = .ok (.aload_n 0, 1) := by decide +kernel
theorem d_D_nextCandidate_157 : decode b_D_nextCandidate 157 = .ok (.getfield 69, 3) := by decide +kernel
theorem d_D_nextCandidate_160 : decode b_D_nextCandidate 160 = .ok (.iload_n 1, 1) := by decide +kernel
theorem d_D_nextCandidate_161 : decode b_D_nextCandidate 161 = .ok (.iconst 3, 1) := by decide +kernel
theorem d_D_nextCandidate_162 : decode b_D_nextCandidate 162 = .ok (.iastore, 1) := by decide +kernel
theorem d_D_nextCandidate_163 : decode b_D_nextCandidate 163 = .ok (.aload_n 0, 1) := by decide +kernel
theorem d_D_nextCandidate_164 : decode b_D_nextCandidate 164 = .ok (.getfield 84, 3) := by decide +kernel
theorem d_D_nextCandidate_167 : decode b_D_nextCandidate 167 = .ok (.iload_n 1, 1) := by decide +kernel
theorem d_D_nextCandidate_168 : decode b_D_nextCandidate 168 = .ok (.iload_n 3, 1) := by decide +kernel
theorem d_D_nextCandidate_169 : decode b_D_nextCandidate 169 = .ok (.iastore, 1) := by decide +kernel
theorem d_D_nextCandidate_170 : decode b_D_nextCandidate 170 = .ok (.aload_n 0, 1) := by decide +kernel
theorem d_D_nextCandidate_171 : decode b_D_nextCandidate 171 = .ok (.getfield 23, 3) := by decide +kernel
theorem d_D_nextCandidate_174 : decode b_D_nextCandidate 174 = .ok (.iload_n 3, 1) := by decide +kernel
theorem d_D_nextCandidate_175 : decode b_D_nextCandidate 175 = .ok (.iconst 0, 1) := by decide +kernel
theorem d_D_nextCandidate_176 : decode b_D_nextCandidate 176 = .ok (.iastore, 1) := by decide +kernel
theorem d_D_nextCandidate_177 : decode b_D_nextCandidate 177 = .ok (.aload_n 0, 1) := by decide +kernel
theorem d_D_nextCandidate_178 : decode b_D_nextCandidate 178 = .ok (.getfield 29, 3) := by decide +kernel
theorem d_D_nextCandidate_181 : decode b_D_nextCandidate 181 = .ok (.iload_n 3, 1) := by decide +kernel
theorem d_D_nextCandidate_182 : decode b_D_nextCandidate 182 = .ok (.iload_n 2, 1) := by decide +kernel
theorem d_D_nextCandidate_183 : decode b_D_nextCandidate 183 = .ok (.iastore, 1) := by decide +kernel
theorem d_D_nextCandidate_184 : decode b_D_nextCandidate 184 = .ok (.aload_n 0, 1) := by decide +kernel
theorem d_D_nextCandidate_185 : decode b_D_nextCandidate 185 = .ok (.getfield 87, 3) := by decide +kernel
theorem d_D_nextCandidate_188 : decode b_D_nextCandidate 188 = .ok (.iload_n 1, 1) := by decide +kernel
theorem d_D_nextCandidate_189 : decode b_D_nextCandidate 189 = .ok (.iconst 0, 1) := by decide +kernel
theorem d_D_nextCandidate_190 : decode b_D_nextCandidate 190 = .ok (.iastore, 1) := by decide +kernel
theorem d_D_nextCandidate_191 : decode b_D_nextCandidate 191 = .ok (.aload_n 0, 1) := by decide +kernel
theorem d_D_nextCandidate_192 : decode b_D_nextCandidate 192 = .ok (.getfield 93, 3) := by decide +kernel
theorem d_D_nextCandidate_195 : decode b_D_nextCandidate 195 = .ok (.iload_n 1, 1) := by decide +kernel
theorem d_D_nextCandidate_196 : decode b_D_nextCandidate 196 = .ok (.aload_n 0, 1) := by decide +kernel
theorem d_D_nextCandidate_197 : decode b_D_nextCandidate 197 = .ok (.getfield 13, 3) := by decide +kernel
theorem d_D_nextCandidate_200 : decode b_D_nextCandidate 200 = .ok (.iload_n 2, 1) := by decide +kernel
theorem d_D_nextCandidate_201 : decode b_D_nextCandidate 201 = .ok (.iaload, 1) := by decide +kernel
theorem d_D_nextCandidate_202 : decode b_D_nextCandidate 202 = .ok (.iconst 1, 1) := by decide +kernel
theorem d_D_nextCandidate_203 : decode b_D_nextCandidate 203 = .ok (.if_icmp .ne 7, 3) := by decide +kernel
theorem d_D_nextCandidate_206 : decode b_D_nextCandidate 206 = .ok (.lconst 1, 1) := by decide +kernel
theorem d_D_nextCandidate_207 : decode b_D_nextCandidate 207 = .ok (.goto 4, 3) := by decide +kernel
theorem d_D_nextCandidate_210 : decode b_D_nextCandidate 210 = .ok (.lconst 0, 1) := by decide +kernel
theorem d_D_nextCandidate_211 : decode b_D_nextCandidate 211 = .ok (.lastore, 1) := by decide +kernel
theorem d_D_nextCandidate_212 : decode b_D_nextCandidate 212 = .ok (.aload_n 0, 1) := by decide +kernel
theorem d_D_nextCandidate_213 : decode b_D_nextCandidate 213 = .ok (.iconst 1, 1) := by decide +kernel
theorem d_D_nextCandidate_214 : decode b_D_nextCandidate 214 = .ok (.putfield 131, 3) := by decide +kernel
theorem d_D_nextCandidate_217 : decode b_D_nextCandidate 217 = .ok (.return_, 1) := by decide +kernel
theorem d_D_check_0 : decode b_D_check 0 = .ok (.aload_n 0, 1) := by decide +kernel
theorem d_D_check_1 : decode b_D_check 1 = .ok (.getfield 72, 3) := by decide +kernel
theorem d_D_check_4 : decode b_D_check 4 = .ok (.iload_n 1, 1) := by decide +kernel
theorem d_D_check_5 : decode b_D_check 5 = .ok (.iaload, 1) := by decide +kernel
theorem d_D_check_6 : decode b_D_check 6 = .ok (.istore_n 2, 1) := by decide +kernel
theorem d_D_check_7 : decode b_D_check 7 = .ok (.iload_n 2, 1) := by decide +kernel
theorem d_D_check_8 : decode b_D_check 8 = .ok (.ifCond .ge 9, 3) := by decide +kernel
theorem d_D_check_11 : decode b_D_check 11 = .ok (.aload_n 0, 1) := by decide +kernel
theorem d_D_check_12 : decode b_D_check 12 = .ok (.iload_n 1, 1) := by decide +kernel
theorem d_D_check_13 : decode b_D_check 13 = .ok (.invokevirtual 135, 3) := by decide +kernel
theorem d_D_check_16 : decode b_D_check 16 = .ok (.return_, 1) := by decide +kernel
theorem d_D_check_17 : decode b_D_check 17 = .ok (.aload_n 0, 1) := by decide +kernel
theorem d_D_check_18 : decode b_D_check 18 = .ok (.getfield 75, 3) := by decide +kernel
theorem d_D_check_21 : decode b_D_check 21 = .ok (.iload_n 1, 1) := by decide +kernel
theorem d_D_check_22 : decode b_D_check 22 = .ok (.iaload, 1) := by decide +kernel
theorem d_D_check_23 : decode b_D_check 23 = .ok (.aload_n 0, 1) := by decide +kernel
theorem d_D_check_24 : decode b_D_check 24 = .ok (.getfield 23, 3) := by decide +kernel
theorem d_D_check_27 : decode b_D_check 27 = .ok (.iload_n 2, 1) := by decide +kernel
theorem d_D_check_28 : decode b_D_check 28 = .ok (.iaload, 1) := by decide +kernel
theorem d_D_check_29 : decode b_D_check 29 = .ok (.if_icmp .ne 50, 3) := by decide +kernel
theorem d_D_check_32 : decode b_D_check 32 = .ok (.aload_n 0, 1) := by decide +kernel
theorem d_D_check_33 : decode b_D_check 33 = .ok (.getfield 54, 3) := by decide +kernel
theorem d_D_check_36 : decode b_D_check 36 = .ok (.aload_n 0, 1) := by decide +kernel
theorem d_D_check_37 : decode b_D_check 37 = .ok (.getfield 69, 3) := by decide +kernel
theorem d_D_check_40 : decode b_D_check 40 = .ok (.iload_n 1, 1) := by decide +kernel
theorem d_D_check_41 : decode b_D_check 41 = .ok (.iaload, 1) := by decide +kernel
theorem d_D_check_42 : decode b_D_check 42 = .ok (.dup2, 1) := by decide +kernel
theorem d_D_check_43 : decode b_D_check 43 = .ok (.iaload, 1) := by decide +kernel
theorem d_D_check_44 : decode b_D_check 44 = .ok (.iconst 1, 1) := by decide +kernel
theorem d_D_check_45 : decode b_D_check 45 = .ok (.iadd, 1) := by decide +kernel
theorem d_D_check_46 : decode b_D_check 46 = .ok (.iastore, 1) := by decide +kernel
theorem d_D_check_47 : decode b_D_check 47 = .ok (.aload_n 0, 1) := by decide +kernel
theorem d_D_check_48 : decode b_D_check 48 = .ok (.getfield 42, 3) := by decide +kernel
theorem d_D_check_51 : decode b_D_check 51 = .ok (.aload_n 0, 1) := by decide +kernel
theorem d_D_check_52 : decode b_D_check 52 = .ok (.getfield 124, 3) := by decide +kernel
theorem d_D_check_55 : decode b_D_check 55 = .ok (.bipush 12, 2) := by decide +kernel
theorem d_D_check_57 : decode b_D_check 57 = .ok (.imul, 1) := by decide +kernel
theorem d_D_check_58 : decode b_D_check 58 = .ok (.aload_n 0, 1) := by decide +kernel
theorem d_D_check_59 : decode b_D_check 59 = .ok (.getfield 66, 3) := by decide +kernel
theorem d_D_check_62 : decode b_D_check 62 = .ok (.iload_n 1, 1) := by decide +kernel
theorem d_D_check_63 : decode b_D_check 63 = .ok (.iaload, 1) := by decide +kernel
theorem d_D_check_64 : decode b_D_check 64 = .ok (.iadd, 1) := by decide +kernel
theorem d_D_check_65 : decode b_D_check 65 = .ok (.iload_n 2, 1) := by decide +kernel
theorem d_D_check_66 : decode b_D_check 66 = .ok (.iastore, 1) := by decide +kernel
theorem d_D_check_67 : decode b_D_check 67 = .ok (.aload_n 0, 1) := by decide +kernel
theorem d_D_check_68 : decode b_D_check 68 = .ok (.iload_n 1, 1) := by decide +kernel
theorem d_D_check_69 : decode b_D_check 69 = .ok (.aload_n 0, 1) := by decide +kernel
theorem d_D_check_70 : decode b_D_check 70 = .ok (.getfield 35, 3) := by decide +kernel
theorem d_D_check_73 : decode b_D_check 73 = .ok (.iload_n 2, 1) := by decide +kernel
theorem d_D_check_74 : decode b_D_check 74 = .ok (.laload, 1) := by decide +kernel
theorem d_D_check_75 : decode b_D_check 75 = .ok (.invokevirtual 138, 3) := by decide +kernel
theorem d_D_check_78 : decode b_D_check 78 = .ok (.return_, 1) := by decide +kernel
theorem d_D_check_79 : decode b_D_check 79 = .ok (.aload_n 0, 1) := by decide +kernel
theorem d_D_check_80 : decode b_D_check 80 = .ok (.getfield 26, 3) := by decide +kernel
theorem d_D_check_83 : decode b_D_check 83 = .ok (.iload_n 2, 1) := by decide +kernel
theorem d_D_check_84 : decode b_D_check 84 = .ok (.bipush 12, 2) := by decide +kernel
theorem d_D_check_86 : decode b_D_check 86 = .ok (.imul, 1) := by decide +kernel
theorem d_D_check_87 : decode b_D_check 87 = .ok (.aload_n 0, 1) := by decide +kernel
theorem d_D_check_88 : decode b_D_check 88 = .ok (.getfield 75, 3) := by decide +kernel
theorem d_D_check_91 : decode b_D_check 91 = .ok (.iload_n 1, 1) := by decide +kernel
theorem d_D_check_92 : decode b_D_check 92 = .ok (.iaload, 1) := by decide +kernel
theorem d_D_check_93 : decode b_D_check 93 = .ok (.iadd, 1) := by decide +kernel
theorem d_D_check_94 : decode b_D_check 94 = .ok (.iaload, 1) := by decide +kernel
theorem d_D_check_95 : decode b_D_check 95 = .ok (.istore_n 3, 1) := by decide +kernel
theorem d_D_check_96 : decode b_D_check 96 = .ok (.aload_n 0, 1) := by decide +kernel
theorem d_D_check_97 : decode b_D_check 97 = .ok (.iload_n 3, 1) := by decide +kernel
theorem d_D_check_98 : decode b_D_check 98 = .ok (.invokevirtual 142, 3) := by decide +kernel
theorem d_D_check_101 : decode b_D_check 101 = .ok (.ifCond .ne 4, 3) := by decide +kernel
theorem d_D_check_104 : decode b_D_check 104 = .ok (.return_, 1) := by decide +kernel
theorem d_D_check_105 : decode b_D_check 105 = .ok (.aload_n 0, 1) := by decide +kernel
theorem d_D_check_106 : decode b_D_check 106 = .ok (.getfield 63, 3) := by decide +kernel
theorem d_D_check_109 : decode b_D_check 109 = .ok (.iload_n 3, 1) := by decide +kernel
theorem d_D_check_110 : decode b_D_check 110 = .ok (.laload, 1) := by decide +kernel
theorem d_D_check_111 : decode b_D_check 111 = .ok (.aload_n 0, 1) := by decide +kernel
theorem d_D_check_112 : decode b_D_check 112 = .ok (.getfield 32, 3) := by decide +kernel
theorem d_D_check_115 : decode b_D_check 115 = .ok (.iload_n 2, 1) := by decide +kernel
theorem d_D_check_116 : decode b_D_check 116 = .ok (.bipush 12, 2) := by decide +kernel
theorem d_D_check_118 : decode b_D_check 118 = .ok (.imul, 1) := by decide +kernel
theorem d_D_check_119 : decode b_D_check 119 = .ok (.aload_n 0, 1) := by decide +kernel
theorem d_D_check_120 : decode b_D_check 120 = .ok (.getfield 75, 3) := by decide +kernel
theorem d_D_check_123 : decode b_D_check 123 = .ok (.iload_n 1, 1) := by decide +kernel
theorem d_D_check_124 : decode b_D_check 124 = .ok (.iaload, 1) := by decide +kernel
end
section
theorem d_D_check_125 : decode b_D_check 125 = .ok (.iadd, 1) := by decide +kernel
theorem d_D_check_126 : decode b_D_check 126 = .ok (.laload, 1) := by decide +kernel
theorem d_D_check_127 : decode b_D_check 127 = .ok (.lcmp, 1) := by decide +kernel
theorem d_D_check_128 : decode b_D_check 128 = .ok (.ifCond .ne 16, 3) := by decide +kernel
theorem d_D_check_131 : decode b_D_check 131 = .ok (.aload_n 0, 1) := by decide +kernel
theorem d_D_check_132 : decode b_D_check 132 = .ok (.getfield 75, 3) := by decide +kernel
theorem d_D_check_135 : decode b_D_check 135 = .ok (.iload_n 1, 1) := by decide +kernel
theorem d_D_check_136 : decode b_D_check 136 = .ok (.dup2, 1) := by decide +kernel
theorem d_D_check_137 : decode b_D_check 137 = .ok (.iaload, 1) := by decide +kernel
theorem d_D_check_138 : decode b_D_check 138 = .ok (.iconst 1, 1) := by decide +kernel
theorem d_D_check_139 : decode b_D_check 139 = .ok (.iadd, 1) := by decide +kernel
theorem d_D_check_140 : decode b_D_check 140 = .ok (.iastore, 1) := by decide +kernel
theorem d_D_check_141 : decode b_D_check 141 = .ok (.goto 8, 3) := by decide +kernel
theorem d_D_check_144 : decode b_D_check 144 = .ok (.aload_n 0, 1) := by decide +kernel
theorem d_D_check_145 : decode b_D_check 145 = .ok (.iload_n 1, 1) := by decide +kernel
theorem d_D_check_146 : decode b_D_check 146 = .ok (.invokevirtual 135, 3) := by decide +kernel
theorem d_D_check_149 : decode b_D_check 149 = .ok (.return_, 1) := by decide +kernel
theorem d_D_modulo_0 : decode b_D_modulo 0 = .ok (.lload_n 0, 1) := by decide +kernel
theorem d_D_modulo_1 : decode b_D_modulo 1 = .ok (.iload_n 2, 1) := by decide +kernel
theorem d_D_modulo_2 : decode b_D_modulo 2 = .ok (.i2l, 1) := by decide +kernel
theorem d_D_modulo_3 : decode b_D_modulo 3 = .ok (.lrem, 1) := by decide +kernel
theorem d_D_modulo_4 : decode b_D_modulo 4 = .ok (.iload_n 2, 1) := by decide +kernel
theorem d_D_modulo_5 : decode b_D_modulo 5 = .ok (.i2l, 1) := by decide +kernel
theorem d_D_modulo_6 : decode b_D_modulo 6 = .ok (.ladd, 1) := by decide +kernel
theorem d_D_modulo_7 : decode b_D_modulo 7 = .ok (.iload_n 2, 1) := by decide +kernel
theorem d_D_modulo_8 : decode b_D_modulo 8 = .ok (.i2l, 1) := by decide +kernel
theorem d_D_modulo_9 : decode b_D_modulo 9 = .ok (.lrem, 1) := by decide +kernel
theorem d_D_modulo_10 : decode b_D_modulo 10 = .ok (.lreturn, 1) := by decide +kernel
theorem d_D_wanted_0 : decode b_D_wanted 0 = .ok (.aload_n 0, 1) := by decide +kernel
theorem d_D_wanted_1 : decode b_D_wanted 1 = .ok (.getfield 66, 3) := by decide +kernel
theorem d_D_wanted_4 : decode b_D_wanted 4 = .ok (.iload_n 1, 1) := by decide +kernel
theorem d_D_wanted_5 : decode b_D_wanted 5 = .ok (.iaload, 1) := by decide +kernel
theorem d_D_wanted_6 : decode b_D_wanted 6 = .ok (.istore_n 2, 1) := by decide +kernel
theorem d_D_wanted_7 : decode b_D_wanted 7 = .ok (.aload_n 0, 1) := by decide +kernel
theorem d_D_wanted_8 : decode b_D_wanted 8 = .ok (.getfield 13, 3) := by decide +kernel
theorem d_D_wanted_11 : decode b_D_wanted 11 = .ok (.iload_n 2, 1) := by decide +kernel
theorem d_D_wanted_12 : decode b_D_wanted 12 = .ok (.iaload, 1) := by decide +kernel
theorem d_D_wanted_13 : decode b_D_wanted 13 = .ok (.istore_n 3, 1) := by decide +kernel
theorem d_D_wanted_14 : decode b_D_wanted 14 = .ok (.aload_n 0, 1) := by decide +kernel
theorem d_D_wanted_15 : decode b_D_wanted 15 = .ok (.getfield 87, 3) := by decide +kernel
theorem d_D_wanted_18 : decode b_D_wanted 18 = .ok (.iload_n 1, 1) := by decide +kernel
theorem d_D_wanted_19 : decode b_D_wanted 19 = .ok (.iaload, 1) := by decide +kernel
theorem d_D_wanted_20 : decode b_D_wanted 20 = .ok (.istore 4, 2) := by decide +kernel
theorem d_D_wanted_22 : decode b_D_wanted 22 = .ok (.aload_n 0, 1) := by decide +kernel
theorem d_D_wanted_23 : decode b_D_wanted 23 = .ok (.getfield 16, 3) := by decide +kernel
theorem d_D_wanted_26 : decode b_D_wanted 26 = .ok (.iload_n 2, 1) := by decide +kernel
theorem d_D_wanted_27 : decode b_D_wanted 27 = .ok (.iconst 3, 1) := by decide +kernel
theorem d_D_wanted_28 : decode b_D_wanted 28 = .ok (.imul, 1) := by decide +kernel
theorem d_D_wanted_29 : decode b_D_wanted 29 = .ok (.iaload, 1) := by decide +kernel
theorem d_D_wanted_30 : decode b_D_wanted 30 = .ok (.istore 5, 2) := by decide +kernel
theorem d_D_wanted_32 : decode b_D_wanted 32 = .ok (.aload_n 0, 1) := by decide +kernel
theorem d_D_wanted_33 : decode b_D_wanted 33 = .ok (.getfield 16, 3) := by decide +kernel
theorem d_D_wanted_36 : decode b_D_wanted 36 = .ok (.iload_n 2, 1) := by decide +kernel
theorem d_D_wanted_37 : decode b_D_wanted 37 = .ok (.iconst 3, 1) := by decide +kernel
theorem d_D_wanted_38 : decode b_D_wanted 38 = .ok (.imul, 1) := by decide +kernel
theorem d_D_wanted_39 : decode b_D_wanted 39 = .ok (.iconst 1, 1) := by decide +kernel
theorem d_D_wanted_40 : decode b_D_wanted 40 = .ok (.iadd, 1) := by decide +kernel
theorem d_D_wanted_41 : decode b_D_wanted 41 = .ok (.iaload, 1) := by decide +kernel
theorem d_D_wanted_42 : decode b_D_wanted 42 = .ok (.istore 6, 2) := by decide +kernel
theorem d_D_wanted_44 : decode b_D_wanted 44 = .ok (.aload_n 0, 1) := by decide +kernel
theorem d_D_wanted_45 : decode b_D_wanted 45 = .ok (.getfield 16, 3) := by decide +kernel
theorem d_D_wanted_48 : decode b_D_wanted 48 = .ok (.iload_n 2, 1) := by decide +kernel
theorem d_D_wanted_49 : decode b_D_wanted 49 = .ok (.iconst 3, 1) := by decide +kernel
theorem d_D_wanted_50 : decode b_D_wanted 50 = .ok (.imul, 1) := by decide +kernel
theorem d_D_wanted_51 : decode b_D_wanted 51 = .ok (.iconst 2, 1) := by decide +kernel
theorem d_D_wanted_52 : decode b_D_wanted 52 = .ok (.iadd, 1) := by decide +kernel
theorem d_D_wanted_53 : decode b_D_wanted 53 = .ok (.iaload, 1) := by decide +kernel
theorem d_D_wanted_54 : decode b_D_wanted 54 = .ok (.istore 7, 2) := by decide +kernel
theorem d_D_wanted_56 : decode b_D_wanted 56 = .ok (.iload_n 3, 1) := by decide +kernel
theorem d_D_wanted_57 : decode b_D_wanted 57 = .ok (.iconst 2, 1) := by decide +kernel
theorem d_D_wanted_58 : decode b_D_wanted 58 = .ok (.if_icmp .lt 9, 3) := by decide +kernel
theorem d_D_wanted_61 : decode b_D_wanted 61 = .ok (.iload_n 3, 1) := by decide +kernel
theorem d_D_wanted_62 : decode b_D_wanted 62 = .ok (.bipush 6, 2) := by decide +kernel
theorem d_D_wanted_64 : decode b_D_wanted 64 = .ok (.if_icmp .ne 25, 3) := by decide +kernel
theorem d_D_wanted_67 : decode b_D_wanted 67 = .ok (.iload 4, 2) := by decide +kernel
theorem d_D_wanted_69 : decode b_D_wanted 69 = .ok (.iconst 3, 1) := by decide +kernel
theorem d_D_wanted_70 : decode b_D_wanted 70 = .ok (.if_icmp .ne 7, 3) := by decide +kernel
theorem d_D_wanted_73 : decode b_D_wanted 73 = .ok (.iconst (-1), 1) := by decide +kernel
theorem d_D_wanted_74 : decode b_D_wanted 74 = .ok (.goto 14, 3) := by decide +kernel
theorem d_D_wanted_77 : decode b_D_wanted 77 = .ok (.aload_n 0, 1) := by decide +kernel
theorem d_D_wanted_78 : decode b_D_wanted 78 = .ok (.getfield 16, 3) := by decide +kernel
theorem d_D_wanted_81 : decode b_D_wanted 81 = .ok (.iload_n 2, 1) := by decide +kernel
theorem d_D_wanted_82 : decode b_D_wanted 82 = .ok (.iconst 3, 1) := by decide +kernel
theorem d_D_wanted_83 : decode b_D_wanted 83 = .ok (.imul, 1) := by decide +kernel
theorem d_D_wanted_84 : decode b_D_wanted 84 = .ok (.iload 4, 2) := by decide +kernel
theorem d_D_wanted_86 : decode b_D_wanted 86 = .ok (.iadd, 1) := by decide +kernel
theorem d_D_wanted_87 : decode b_D_wanted 87 = .ok (.iaload, 1) := by decide +kernel
theorem d_D_wanted_88 : decode b_D_wanted 88 = .ok (.ireturn, 1) := by decide +kernel
theorem d_D_wanted_89 : decode b_D_wanted 89 = .ok (.iload 4, 2) := by decide +kernel
theorem d_D_wanted_91 : decode b_D_wanted 91 = .ok (.ifCond .ne 6, 3) := by decide +kernel
theorem d_D_wanted_94 : decode b_D_wanted 94 = .ok (.iload 5, 2) := by decide +kernel
theorem d_D_wanted_96 : decode b_D_wanted 96 = .ok (.ireturn, 1) := by decide +kernel
theorem d_D_wanted_97 : decode b_D_wanted 97 = .ok (.iload_n 3, 1) := by decide +kernel
theorem d_D_wanted_98 : decode b_D_wanted 98 = .ok (.iconst 2, 1) := by decide +kernel
theorem d_D_wanted_99 : decode b_D_wanted 99 = .ok (.if_icmp .ne 32, 3) := by decide +kernel
theorem d_D_wanted_102 : decode b_D_wanted 102 = .ok (.iload 4, 2) := by decide +kernel
theorem d_D_wanted_104 : decode b_D_wanted 104 = .ok (.iconst 2, 1) := by decide +kernel
theorem d_D_wanted_105 : decode b_D_wanted 105 = .ok (.if_icmp .ne 7, 3) := by decide +kernel
theorem d_D_wanted_108 : decode b_D_wanted 108 = .ok (.iconst (-1), 1) := by decide +kernel
theorem d_D_wanted_109 : decode b_D_wanted 109 = .ok (.goto 21, 3) := by decide +kernel
theorem d_D_wanted_112 : decode b_D_wanted 112 = .ok (.aload_n 0, 1) := by decide +kernel
theorem d_D_wanted_113 : decode b_D_wanted 113 = .ok (.getfield 90, 3) := by decide +kernel
theorem d_D_wanted_116 : decode b_D_wanted 116 = .ok (.iload_n 1, 1) := by decide +kernel
theorem d_D_wanted_117 : decode b_D_wanted 117 = .ok (.laload, 1) := by decide +kernel
theorem d_D_wanted_118 : decode b_D_wanted 118 = .ok (.lconst 0, 1) := by decide +kernel
theorem d_D_wanted_119 : decode b_D_wanted 119 = .ok (.lcmp, 1) := by decide +kernel
theorem d_D_wanted_120 : decode b_D_wanted 120 = .ok (.ifCond .le 8, 3) := by decide +kernel
theorem d_D_wanted_123 : decode b_D_wanted 123 = .ok (.iload 6, 2) := by decide +kernel
theorem d_D_wanted_125 : decode b_D_wanted 125 = .ok (.goto 5, 3) := by decide +kernel
theorem d_D_wanted_128 : decode b_D_wanted 128 = .ok (.iload 7, 2) := by decide +kernel
theorem d_D_wanted_130 : decode b_D_wanted 130 = .ok (.ireturn, 1) := by decide +kernel
theorem d_D_wanted_131 : decode b_D_wanted 131 = .ok (.iload_n 3, 1) := by decide +kernel
theorem d_D_wanted_132 : decode b_D_wanted 132 = .ok (.iconst 4, 1) := by decide +kernel
theorem d_D_wanted_133 : decode b_D_wanted 133 = .ok (.if_icmp .ne 26, 3) := by decide +kernel
theorem d_D_wanted_136 : decode b_D_wanted 136 = .ok (.iload 4, 2) := by decide +kernel
theorem d_D_wanted_138 : decode b_D_wanted 138 = .ok (.iconst 2, 1) := by decide +kernel
theorem d_D_wanted_139 : decode b_D_wanted 139 = .ok (.if_icmp .ne 7, 3) := by decide +kernel
theorem d_D_wanted_142 : decode b_D_wanted 142 = .ok (.iconst (-1), 1) := by decide +kernel
theorem d_D_wanted_143 : decode b_D_wanted 143 = .ok (.goto 15, 3) := by decide +kernel
theorem d_D_wanted_146 : decode b_D_wanted 146 = .ok (.aload_n 0, 1) := by decide +kernel
theorem d_D_wanted_147 : decode b_D_wanted 147 = .ok (.getfield 90, 3) := by decide +kernel
theorem d_D_wanted_150 : decode b_D_wanted 150 = .ok (.iload_n 1, 1) := by decide +kernel
theorem d_D_wanted_151 : decode b_D_wanted 151 = .ok (.laload, 1) := by decide +kernel
theorem d_D_wanted_152 : decode b_D_wanted 152 = .ok (.bipush 12, 2) := by decide +kernel
theorem d_D_wanted_154 : decode b_D_wanted 154 = .ok (.invokestatic 146, 3) := by decide +kernel
theorem d_D_wanted_157 : decode b_D_wanted 157 = .ok (.l2i, 1) := by decide +kernel
theorem d_D_wanted_158 : decode b_D_wanted 158 = .ok (.ireturn, 1) := by decide +kernel
theorem d_D_wanted_159 : decode b_D_wanted 159 = .ok (.iload_n 3, 1) := by decide +kernel
theorem d_D_wanted_160 : decode b_D_wanted 160 = .ok (.bipush 7, 2) := by decide +kernel
theorem d_D_wanted_162 : decode b_D_wanted 162 = .ok (.if_icmp .ne 27, 3) := by decide +kernel
theorem d_D_wanted_165 : decode b_D_wanted 165 = .ok (.iload 4, 2) := by decide +kernel
theorem d_D_wanted_167 : decode b_D_wanted 167 = .ok (.i2l, 1) := by decide +kernel
theorem d_D_wanted_168 : decode b_D_wanted 168 = .ok (.aload_n 0, 1) := by decide +kernel
theorem d_D_wanted_169 : decode b_D_wanted 169 = .ok (.getfield 90, 3) := by decide +kernel
theorem d_D_wanted_172 : decode b_D_wanted 172 = .ok (.iload_n 1, 1) := by decide +kernel
theorem d_D_wanted_173 : decode b_D_wanted 173 = .ok (.laload, 1) := by decide +kernel
theorem d_D_wanted_174 : decode b_D_wanted 174 = .ok (.iconst 4, 1) := by decide +kernel
theorem d_D_wanted_175 : decode b_D_wanted 175 = .ok (.invokestatic 146, 3) := by decide +kernel
theorem d_D_wanted_178 : decode b_D_wanted 178 = .ok (.lcmp, 1) := by decide +kernel
theorem d_D_wanted_179 : decode b_D_wanted 179 = .ok (.ifCond .le 7, 3) := by decide +kernel
theorem d_D_wanted_182 : decode b_D_wanted 182 = .ok (.iconst (-1), 1) := by decide +kernel
theorem d_D_wanted_183 : decode b_D_wanted 183 = .ok (.goto 5, 3) := by decide +kernel
theorem d_D_wanted_186 : decode b_D_wanted 186 = .ok (.iload 6, 2) := by decide +kernel
theorem d_D_wanted_188 : decode b_D_wanted 188 = .ok (.ireturn, 1) := by decide +kernel
theorem d_D_wanted_189 : decode b_D_wanted 189 = .ok (.iload_n 3, 1) := by decide +kernel
theorem d_D_wanted_190 : decode b_D_wanted 190 = .ok (.bipush 8, 2) := by decide +kernel
theorem d_D_wanted_192 : decode b_D_wanted 192 = .ok (.if_icmp .eq 9, 3) := by decide +kernel
theorem d_D_wanted_195 : decode b_D_wanted 195 = .ok (.iload 4, 2) := by decide +kernel
theorem d_D_wanted_197 : decode b_D_wanted 197 = .ok (.iconst 2, 1) := by decide +kernel
theorem d_D_wanted_198 : decode b_D_wanted 198 = .ok (.if_icmp .ne 7, 3) := by decide +kernel
theorem d_D_wanted_201 : decode b_D_wanted 201 = .ok (.iconst (-1), 1) := by decide +kernel
theorem d_D_wanted_202 : decode b_D_wanted 202 = .ok (.goto 5, 3) := by decide +kernel
theorem d_D_wanted_205 : decode b_D_wanted 205 = .ok (.iload 6, 2) := by decide +kernel
theorem d_D_wanted_207 : decode b_D_wanted 207 = .ok (.ireturn, 1) := by decide +kernel
theorem d_D_take_0 : decode b_D_take 0 = .ok (.aload_n 0, 1) := by decide +kernel
theorem d_D_take_1 : decode b_D_take 1 = .ok (.getfield 13, 3) := by decide +kernel
theorem d_D_take_4 : decode b_D_take 4 = .ok (.aload_n 0, 1) := by decide +kernel
theorem d_D_take_5 : decode b_D_take 5 = .ok (.getfield 66, 3) := by decide +kernel
theorem d_D_take_8 : decode b_D_take 8 = .ok (.iload_n 1, 1) := by decide +kernel
theorem d_D_take_9 : decode b_D_take 9 = .ok (.iaload, 1) := by decide +kernel
theorem d_D_take_10 : decode b_D_take 10 = .ok (.iaload, 1) := by decide +kernel
theorem d_D_take_11 : decode b_D_take 11 = .ok (.istore 4, 2) := by decide +kernel
theorem d_D_take_13 : decode b_D_take 13 = .ok (.aload_n 0, 1) := by decide +kernel
theorem d_D_take_14 : decode b_D_take 14 = .ok (.getfield 87, 3) := by decide +kernel
theorem d_D_take_17 : decode b_D_take 17 = .ok (.iload_n 1, 1) := by decide +kernel
theorem d_D_take_18 : decode b_D_take 18 = .ok (.iaload, 1) := by decide +kernel
theorem d_D_take_19 : decode b_D_take 19 = .ok (.ifCond .ne 10, 3) := by decide +kernel
theorem d_D_take_22 : decode b_D_take 22 = .ok (.aload_n 0, 1) := by decide +kernel
theorem d_D_take_23 : decode b_D_take 23 = .ok (.getfield 90, 3) := by decide +kernel
theorem d_D_take_26 : decode b_D_take 26 = .ok (.iload_n 1, 1) := by decide +kernel
theorem d_D_take_27 : decode b_D_take 27 = .ok (.lload_n 2, 1) := by decide +kernel
theorem d_D_take_28 : decode b_D_take 28 = .ok (.lastore, 1) := by decide +kernel
theorem d_D_take_29 : decode b_D_take 29 = .ok (.iload 4, 2) := by decide +kernel
theorem d_D_take_31 : decode b_D_take 31 = .ok (.ifCond .eq 10, 3) := by decide +kernel
theorem d_D_take_34 : decode b_D_take 34 = .ok (.iload 4, 2) := by decide +kernel
theorem d_D_take_36 : decode b_D_take 36 = .ok (.bipush 7, 2) := by decide +kernel
theorem d_D_take_38 : decode b_D_take 38 = .ok (.if_icmp .ne 16, 3) := by decide +kernel
theorem d_D_take_41 : decode b_D_take 41 = .ok (.aload_n 0, 1) := by decide +kernel
theorem d_D_take_42 : decode b_D_take 42 = .ok (.getfield 93, 3) := by decide +kernel
theorem d_D_take_45 : decode b_D_take 45 = .ok (.iload_n 1, 1) := by decide +kernel
theorem d_D_take_46 : decode b_D_take 46 = .ok (.dup2, 1) := by decide +kernel
theorem d_D_take_47 : decode b_D_take 47 = .ok (.laload, 1) := by decide +kernel
theorem d_D_take_48 : decode b_D_take 48 = .ok (.lload_n 2, 1) := by decide +kernel
theorem d_D_take_49 : decode b_D_take 49 = .ok (.ladd, 1) := by decide +kernel
theorem d_D_take_50 : decode b_D_take 50 = .ok (.lastore, 1) := by decide +kernel
theorem d_D_take_51 : decode b_D_take 51 = .ok (.goto 75, 3) := by decide +kernel
theorem d_D_take_54 : decode b_D_take 54 = .ok (.iload 4, 2) := by decide +kernel
theorem d_D_take_56 : decode b_D_take 56 = .ok (.iconst 1, 1) := by decide +kernel
theorem d_D_take_57 : decode b_D_take 57 = .ok (.if_icmp .ne 16, 3) := by decide +kernel
theorem d_D_take_60 : decode b_D_take 60 = .ok (.aload_n 0, 1) := by decide +kernel
theorem d_D_take_61 : decode b_D_take 61 = .ok (.getfield 93, 3) := by decide +kernel
theorem d_D_take_64 : decode b_D_take 64 = .ok (.iload_n 1, 1) := by decide +kernel
theorem d_D_take_65 : decode b_D_take 65 = .ok (.dup2, 1) := by decide +kernel
theorem d_D_take_66 : decode b_D_take 66 = .ok (.laload, 1) := by decide +kernel
theorem d_D_take_67 : decode b_D_take 67 = .ok (.lload_n 2, 1) := by decide +kernel
theorem d_D_take_68 : decode b_D_take 68 = .ok (.lmul, 1) := by decide +kernel
theorem d_D_take_69 : decode b_D_take 69 = .ok (.lastore, 1) := by decide +kernel
theorem d_D_take_70 : decode b_D_take 70 = .ok (.goto 56, 3) := by decide +kernel
theorem d_D_take_73 : decode b_D_take 73 = .ok (.iload 4, 2) := by decide +kernel
theorem d_D_take_75 : decode b_D_take 75 = .ok (.bipush 6, 2) := by decide +kernel
theorem d_D_take_77 : decode b_D_take 77 = .ok (.if_icmp .ne 42, 3) := by decide +kernel
theorem d_D_take_80 : decode b_D_take 80 = .ok (.aload_n 0, 1) := by decide +kernel
theorem d_D_take_81 : decode b_D_take 81 = .ok (.getfield 93, 3) := by decide +kernel
theorem d_D_take_84 : decode b_D_take 84 = .ok (.iload_n 1, 1) := by decide +kernel
theorem d_D_take_85 : decode b_D_take 85 = .ok (.aload_n 0, 1) := by decide +kernel
theorem d_D_take_86 : decode b_D_take 86 = .ok (.getfield 87, 3) := by decide +kernel
theorem d_D_take_89 : decode b_D_take 89 = .ok (.iload_n 1, 1) := by decide +kernel
theorem d_D_take_90 : decode b_D_take 90 = .ok (.iaload, 1) := by decide +kernel
theorem d_D_take_91 : decode b_D_take 91 = .ok (.ifCond .eq 14, 3) := by decide +kernel
theorem d_D_take_94 : decode b_D_take 94 = .ok (.lload_n 2, 1) := by decide +kernel
theorem d_D_take_95 : decode b_D_take 95 = .ok (.aload_n 0, 1) := by decide +kernel
theorem d_D_take_96 : decode b_D_take 96 = .ok (.getfield 93, 3) := by decide +kernel
theorem d_D_take_99 : decode b_D_take 99 = .ok (.iload_n 1, 1) := by decide +kernel
theorem d_D_take_100 : decode b_D_take 100 = .ok (.laload, 1) := by decide +kernel
theorem d_D_take_101 : decode b_D_take 101 = .ok (.lcmp, 1) := by decide +kernel
theorem d_D_take_102 : decode b_D_take 102 = .ok (.ifCond .le 7, 3) := by decide +kernel
theorem d_D_take_105 : decode b_D_take 105 = .ok (.lload_n 2, 1) := by decide +kernel
theorem d_D_take_106 : decode b_D_take 106 = .ok (.goto 9, 3) := by decide +kernel
theorem d_D_take_109 : decode b_D_take 109 = .ok (.aload_n 0, 1) := by decide +kernel
theorem d_D_take_110 : decode b_D_take 110 = .ok (.getfield 93, 3) := by decide +kernel
theorem d_D_take_113 : decode b_D_take 113 = .ok (.iload_n 1, 1) := by decide +kernel
theorem d_D_take_114 : decode b_D_take 114 = .ok (.laload, 1) := by decide +kernel
theorem d_D_take_115 : decode b_D_take 115 = .ok (.lastore, 1) := by decide +kernel
theorem d_D_take_116 : decode b_D_take 116 = .ok (.goto 10, 3) := by decide +kernel
theorem d_D_take_119 : decode b_D_take 119 = .ok (.aload_n 0, 1) := by decide +kernel
theorem d_D_take_120 : decode b_D_take 120 = .ok (.getfield 93, 3) := by decide +kernel
theorem d_D_take_123 : decode b_D_take 123 = .ok (.iload_n 1, 1) := by decide +kernel
theorem d_D_take_124 : decode b_D_take 124 = .ok (.lload_n 2, 1) := by decide +kernel
theorem d_D_take_125 : decode b_D_take 125 = .ok (.lastore, 1) := by decide +kernel
theorem d_D_take_126 : decode b_D_take 126 = .ok (.aload_n 0, 1) := by decide +kernel
theorem d_D_take_127 : decode b_D_take 127 = .ok (.getfield 87, 3) := by decide +kernel
theorem d_D_take_130 : decode b_D_take 130 = .ok (.iload_n 1, 1) := by decide +kernel
theorem d_D_take_131 : decode b_D_take 131 = .ok (.dup2, 1) := by decide +kernel
theorem d_D_take_132 : decode b_D_take 132 = .ok (.iaload, 1) := by decide +kernel
theorem d_D_take_133 : decode b_D_take 133 = .ok (.iconst 1, 1) := by decide +kernel
theorem d_D_take_134 : decode b_D_take 134 = .ok (.iadd, 1) := by decide +kernel
theorem d_D_take_135 : decode b_D_take 135 = .ok (.iastore, 1) := by decide +kernel
theorem d_D_take_136 : decode b_D_take 136 = .ok (.return_, 1) := by decide +kernel
theorem d_D_end_0 : decode b_D_end 0 = .ok (.aload_n 0, 1) := by decide +kernel
theorem d_D_end_1 : decode b_D_end 1 = .ok (.getfield 66, 3) := by decide +kernel
theorem d_D_end_4 : decode b_D_end 4 = .ok (.iload_n 1, 1) := by decide +kernel
theorem d_D_end_5 : decode b_D_end 5 = .ok (.iaload, 1) := by decide +kernel
theorem d_D_end_6 : decode b_D_end 6 = .ok (.istore_n 2, 1) := by decide +kernel
theorem d_D_end_7 : decode b_D_end 7 = .ok (.aload_n 0, 1) := by decide +kernel
theorem d_D_end_8 : decode b_D_end 8 = .ok (.getfield 13, 3) := by decide +kernel
theorem d_D_end_11 : decode b_D_end 11 = .ok (.iload_n 2, 1) := by decide +kernel
theorem d_D_end_12 : decode b_D_end 12 = .ok (.iaload, 1) := by decide +kernel
theorem d_D_end_13 : decode b_D_end 13 = .ok (.istore_n 3, 1) := by decide +kernel
theorem d_D_end_14 : decode b_D_end 14 = .ok (.aload_n 0, 1) := by decide +kernel
theorem d_D_end_15 : decode b_D_end 15 = .ok (.getfield 84, 3) := by decide +kernel
theorem d_D_end_18 : decode b_D_end 18 = .ok (.iload_n 1, 1) := by decide +kernel
theorem d_D_end_19 : decode b_D_end 19 = .ok (.iaload, 1) := by decide +kernel
theorem d_D_end_20 : decode b_D_end 20 = .ok (.istore 4, 2) := by decide +kernel
theorem d_D_end_22 : decode b_D_end 22 = .ok (.aload_n 0, 1) := by decide +kernel
theorem d_D_end_23 : decode b_D_end 23 = .ok (.getfield 93, 3) := by decide +kernel
theorem d_D_end_26 : decode b_D_end 26 = .ok (.iload_n 1, 1) := by decide +kernel
theorem d_D_end_27 : decode b_D_end 27 = .ok (.laload, 1) := by decide +kernel
theorem d_D_end_28 : decode b_D_end 28 = .ok (.lstore 5, 2) := by decide +kernel
theorem d_D_end_30 : decode b_D_end 30 = .ok (.iload_n 3, 1) := by decide +kernel
theorem d_D_end_31 : decode b_D_end 31 = .ok (.bipush 6, 2) := by decide +kernel
theorem d_D_end_33 : decode b_D_end 33 = .ok (.if_icmp .ne 17, 3) := by decide +kernel
theorem d_D_end_36 : decode b_D_end 36 = .ok (.aload_n 0, 1) := by decide +kernel
theorem d_D_end_37 : decode b_D_end 37 = .ok (.getfield 87, 3) := by decide +kernel
theorem d_D_end_40 : decode b_D_end 40 = .ok (.iload_n 1, 1) := by decide +kernel
theorem d_D_end_41 : decode b_D_end 41 = .ok (.iaload, 1) := by decide +kernel
theorem d_D_end_42 : decode b_D_end 42 = .ok (.ifCond .ne 8, 3) := by decide +kernel
theorem d_D_end_45 : decode b_D_end 45 = .ok (.aload_n 0, 1) := by decide +kernel
theorem d_D_end_46 : decode b_D_end 46 = .ok (.iconst 2, 1) := by decide +kernel
theorem d_D_end_47 : decode b_D_end 47 = .ok (.putfield 96, 3) := by decide +kernel
theorem d_D_end_50 : decode b_D_end 50 = .ok (.iload_n 3, 1) := by decide +kernel
theorem d_D_end_51 : decode b_D_end 51 = .ok (.iconst 3, 1) := by decide +kernel
theorem d_D_end_52 : decode b_D_end 52 = .ok (.if_icmp .eq 8, 3) := by decide +kernel
theorem d_D_end_55 : decode b_D_end 55 = .ok (.iload_n 3, 1) := by decide +kernel
theorem d_D_end_56 : decode b_D_end 56 = .ok (.iconst 5, 1) := by decide +kernel
theorem d_D_end_57 : decode b_D_end 57 = .ok (.if_icmp .ne 15, 3) := by decide +kernel
theorem d_D_end_60 : decode b_D_end 60 = .ok (.lload 5, 2) := by decide +kernel
theorem d_D_end_62 : decode b_D_end 62 = .ok (.lconst 0, 1) := by decide +kernel
theorem d_D_end_63 : decode b_D_end 63 = .ok (.lcmp, 1) := by decide +kernel
theorem d_D_end_64 : decode b_D_end 64 = .ok (.ifCond .ne 8, 3) := by decide +kernel
theorem d_D_end_67 : decode b_D_end 67 = .ok (.aload_n 0, 1) := by decide +kernel
theorem d_D_end_68 : decode b_D_end 68 = .ok (.iconst 3, 1) := by decide +kernel
theorem d_D_end_69 : decode b_D_end 69 = .ok (.putfield 96, 3) := by decide +kernel
theorem d_D_end_72 : decode b_D_end 72 = .ok (.iload_n 3, 1) := by decide +kernel
theorem d_D_end_73 : decode b_D_end 73 = .ok (.bipush 9, 2) := by decide +kernel
theorem d_D_end_75 : decode b_D_end 75 = .ok (.if_icmp .ne 20, 3) := by decide +kernel
theorem d_D_end_78 : decode b_D_end 78 = .ok (.aload_n 0, 1) := by decide +kernel
theorem d_D_end_79 : decode b_D_end 79 = .ok (.getfield 90, 3) := by decide +kernel
theorem d_D_end_82 : decode b_D_end 82 = .ok (.iload_n 1, 1) := by decide +kernel
theorem d_D_end_83 : decode b_D_end 83 = .ok (.laload, 1) := by decide +kernel
theorem d_D_end_84 : decode b_D_end 84 = .ok (.lload 5, 2) := by decide +kernel
theorem d_D_end_86 : decode b_D_end 86 = .ok (.lcmp, 1) := by decide +kernel
theorem d_D_end_87 : decode b_D_end 87 = .ok (.ifCond .le 8, 3) := by decide +kernel
theorem d_D_end_90 : decode b_D_end 90 = .ok (.aload_n 0, 1) := by decide +kernel
theorem d_D_end_91 : decode b_D_end 91 = .ok (.iconst 4, 1) := by decide +kernel
theorem d_D_end_92 : decode b_D_end 92 = .ok (.putfield 96, 3) := by decide +kernel
theorem d_D_end_95 : decode b_D_end 95 = .ok (.aload_n 0, 1) := by decide +kernel
theorem d_D_end_96 : decode b_D_end 96 = .ok (.getfield 96, 3) := by decide +kernel
theorem d_D_end_99 : decode b_D_end 99 = .ok (.ifCond .le 4, 3) := by decide +kernel
theorem d_D_end_102 : decode b_D_end 102 = .ok (.return_, 1) := by decide +kernel
theorem d_D_end_103 : decode b_D_end 103 = .ok (.iload_n 3, 1) := by decide +kernel
theorem d_D_end_104 : decode b_D_end 104 = .ok (.iconst 3, 1) := by decide +kernel
theorem d_D_end_105 : decode b_D_end 105 = .ok (.if_icmp .ne 14, 3) := by decide +kernel
theorem d_D_end_108 : decode b_D_end 108 = .ok (.aload_n 0, 1) := by decide +kernel
theorem d_D_end_109 : decode b_D_end 109 = .ok (.getfield 90, 3) := by decide +kernel
theorem d_D_end_112 : decode b_D_end 112 = .ok (.iload_n 1, 1) := by decide +kernel
theorem d_D_end_113 : decode b_D_end 113 = .ok (.laload, 1) := by decide +kernel
theorem d_D_end_114 : decode b_D_end 114 = .ok (.lload 5, 2) := by decide +kernel
theorem d_D_end_116 : decode b_D_end 116 = .ok (.ldiv, 1) := by decide +kernel
theorem d_D_end_117 : decode b_D_end 117 = .ok (.lstore 5, 2) := by decide +kernel
theorem d_D_end_119 : decode b_D_end 119 = .ok (.iload_n 3, 1) := by decide +kernel
theorem d_D_end_120 : decode b_D_end 120 = .ok (.iconst 5, 1) := by decide +kernel
theorem d_D_end_121 : decode b_D_end 121 = .ok (.if_icmp .ne 14, 3) := by decide +kernel
theorem d_D_end_124 : decode b_D_end 124 = .ok (.aload_n 0, 1) := by decide +kernel
theorem d_D_end_125 : decode b_D_end 125 = .ok (.getfield 90, 3) := by decide +kernel
theorem d_D_end_128 : decode b_D_end 128 = .ok (.iload_n 1, 1) := by decide +kernel
theorem d_D_end_129 : decode b_D_end 129 = .ok (.laload, 1) := by decide +kernel
theorem d_D_end_130 : decode b_D_end 130 = .ok (.lload 5, 2) := by decide +kernel
theorem d_D_end_132 : decode b_D_end 132 = .ok (.lrem, 1) := by decide +kernel
theorem d_D_end_133 : decode b_D_end 133 = .ok (.lstore 5, 2) := by decide +kernel
theorem d_D_end_135 : decode b_D_end 135 = .ok (.iload_n 3, 1) := by decide +kernel
theorem d_D_end_136 : decode b_D_end 136 = .ok (.bipush 8, 2) := by decide +kernel
theorem d_D_end_138 : decode b_D_end 138 = .ok (.if_icmp .ne 8, 3) := by decide +kernel
theorem d_D_end_141 : decode b_D_end 141 = .ok (.ldc2_w 150, 3) := by decide +kernel
theorem d_D_end_144 : decode b_D_end 144 = .ok (.lstore 5, 2) := by decide +kernel
theorem d_D_end_146 : decode b_D_end 146 = .ok (.iload_n 3, 1) := by decide +kernel
theorem d_D_end_147 : decode b_D_end 147 = .ok (.bipush 9, 2) := by decide +kernel
theorem d_D_end_149 : decode b_D_end 149 = .ok (.if_icmp .ne 11, 3) := by decide +kernel
theorem d_D_end_152 : decode b_D_end 152 = .ok (.aload_n 0, 1) := by decide +kernel
theorem d_D_end_153 : decode b_D_end 153 = .ok (.getfield 90, 3) := by decide +kernel
theorem d_D_end_156 : decode b_D_end 156 = .ok (.iload_n 1, 1) := by decide +kernel
theorem d_D_end_157 : decode b_D_end 157 = .ok (.laload, 1) := by decide +kernel
theorem d_D_end_158 : decode b_D_end 158 = .ok (.lstore 5, 2) := by decide +kernel
theorem d_D_end_160 : decode b_D_end 160 = .ok (.aload_n 0, 1) := by decide +kernel
theorem d_D_end_161 : decode b_D_end 161 = .ok (.getfield 35, 3) := by decide +kernel
theorem d_D_end_164 : decode b_D_end 164 = .ok (.iload 4, 2) := by decide +kernel
theorem d_D_end_166 : decode b_D_end 166 = .ok (.lload 5, 2) := by decide +kernel
theorem d_D_end_168 : decode b_D_end 168 = .ok (.lastore, 1) := by decide +kernel
theorem d_D_end_169 : decode b_D_end 169 = .ok (.aload_n 0, 1) := by decide +kernel
theorem d_D_end_170 : decode b_D_end 170 = .ok (.getfield 42, 3) := by decide +kernel
theorem d_D_end_173 : decode b_D_end 173 = .ok (.aload_n 0, 1) := by decide +kernel
theorem d_D_end_174 : decode b_D_end 174 = .ok (.getfield 124, 3) := by decide +kernel
theorem d_D_end_177 : decode b_D_end 177 = .ok (.bipush 12, 2) := by decide +kernel
theorem d_D_end_179 : decode b_D_end 179 = .ok (.imul, 1) := by decide +kernel
theorem d_D_end_180 : decode b_D_end 180 = .ok (.iload_n 2, 1) := by decide +kernel
theorem d_D_end_181 : decode b_D_end 181 = .ok (.iadd, 1) := by decide +kernel
theorem d_D_end_182 : decode b_D_end 182 = .ok (.iload 4, 2) := by decide +kernel
theorem d_D_end_184 : decode b_D_end 184 = .ok (.iastore, 1) := by decide +kernel
theorem d_D_end_185 : decode b_D_end 185 = .ok (.aload_n 0, 1) := by decide +kernel
theorem d_D_end_186 : decode b_D_end 186 = .ok (.getfield 48, 3) := by decide +kernel
theorem d_D_end_189 : decode b_D_end 189 = .ok (.aload_n 0, 1) := by decide +kernel
theorem d_D_end_190 : decode b_D_end 190 = .ok (.getfield 100, 3) := by decide +kernel
theorem d_D_end_193 : decode b_D_end 193 = .ok (.iload 4, 2) := by decide +kernel
theorem d_D_end_195 : decode b_D_end 195 = .ok (.iastore, 1) := by decide +kernel
theorem d_D_end_196 : decode b_D_end 196 = .ok (.aload_n 0, 1) := by decide +kernel
theorem d_D_end_197 : decode b_D_end 197 = .ok (.dup, 1) := by decide +kernel
theorem d_D_end_198 : decode b_D_end 198 = .ok (.getfield 100, 3) := by decide +kernel
theorem d_D_end_201 : decode b_D_end 201 = .ok (.iconst 1, 1) := by decide +kernel
theorem d_D_end_202 : decode b_D_end 202 = .ok (.iadd, 1) := by decide +kernel
theorem d_D_end_203 : decode b_D_end 203 = .ok (.putfield 100, 3) := by decide +kernel
theorem d_D_end_206 : decode b_D_end 206 = .ok (.aload_n 0, 1) := by decide +kernel
theorem d_D_end_207 : decode b_D_end 207 = .ok (.getfield 100, 3) := by decide +kernel
theorem d_D_end_210 : decode b_D_end 210 = .ok (.bipush 16, 2) := by decide +kernel
theorem d_D_end_212 : decode b_D_end 212 = .ok (.if_icmp .le 10, 3) := by decide +kernel
theorem d_D_end_215 : decode b_D_end 215 = .ok (.aload_n 0, 1) := by decide +kernel
theorem d_D_end_216 : decode b_D_end 216 = .ok (.bipush 16, 2) := by decide +kernel
theorem d_D_end_218 : decode b_D_end 218 = .ok (.invokevirtual 152, 3) := by decide +kernel
theorem d_D_end_221 : decode b_D_end 221 = .ok (.pop, 1) := by decide +kernel
theorem d_D_end_222 : decode b_D_end 222 = .ok (.aload_n 0, 1) := by decide +kernel
theorem d_D_end_223 : decode b_D_end 223 = .ok (.getfield 54, 3) := by decide +kernel
theorem d_D_end_226 : decode b_D_end 226 = .ok (.iconst 3, 1) := by decide +kernel
theorem d_D_end_227 : decode b_D_end 227 = .ok (.dup2, 1) := by decide +kernel
theorem d_D_end_228 : decode b_D_end 228 = .ok (.iaload, 1) := by decide +kernel
theorem d_D_end_229 : decode b_D_end 229 = .ok (.iconst 1, 1) := by decide +kernel
theorem d_D_end_230 : decode b_D_end 230 = .ok (.iadd, 1) := by decide +kernel
theorem d_D_end_231 : decode b_D_end 231 = .ok (.iastore, 1) := by decide +kernel
theorem d_D_end_232 : decode b_D_end 232 = .ok (.aload_n 0, 1) := by decide +kernel
theorem d_D_end_233 : decode b_D_end 233 = .ok (.iload_n 1, 1) := by decide +kernel
theorem d_D_end_234 : decode b_D_end 234 = .ok (.lload 5, 2) := by decide +kernel
theorem d_D_end_236 : decode b_D_end 236 = .ok (.invokevirtual 138, 3) := by decide +kernel
theorem d_D_end_239 : decode b_D_end 239 = .ok (.return_, 1) := by decide +kernel
theorem d_D_goOn_0 : decode b_D_goOn 0 = .ok (.aload_n 0, 1) := by decide +kernel
theorem d_D_goOn_1 : decode b_D_goOn 1 = .ok (.iload_n 1, 1) := by decide +kernel
theorem d_D_goOn_2 : decode b_D_goOn 2 = .ok (.invokevirtual 156, 3) := by decide +kernel
theorem d_D_goOn_5 : decode b_D_goOn 5 = .ok (.istore_n 2, 1) := by decide +kernel
theorem d_D_goOn_6 : decode b_D_goOn 6 = .ok (.iload_n 2, 1) := by decide +kernel
theorem d_D_goOn_7 : decode b_D_goOn 7 = .ok (.ifCond .ge 9, 3) := by decide +kernel
theorem d_D_goOn_10 : decode b_D_goOn 10 = .ok (.aload_n 0, 1) := by decide +kernel
theorem d_D_goOn_11 : decode b_D_goOn 11 = .ok (.iload_n 1, 1) := by decide +kernel
theorem d_D_goOn_12 : decode b_D_goOn 12 = .ok (.invokevirtual 159, 3) := by decide +kernel
theorem d_D_goOn_15 : decode b_D_goOn 15 = .ok (.return_, 1) := by decide +kernel
theorem d_D_goOn_16 : decode b_D_goOn 16 = .ok (.aload_n 0, 1) := by decide +kernel
theorem d_D_goOn_17 : decode b_D_goOn 17 = .ok (.getfield 75, 3) := by decide +kernel
theorem d_D_goOn_20 : decode b_D_goOn 20 = .ok (.iload_n 1, 1) := by decide +kernel
theorem d_D_goOn_21 : decode b_D_goOn 21 = .ok (.iaload, 1) := by decide +kernel
theorem d_D_goOn_22 : decode b_D_goOn 22 = .ok (.ifCond .ne 13, 3) := by decide +kernel
theorem d_D_goOn_25 : decode b_D_goOn 25 = .ok (.aload_n 0, 1) := by decide +kernel
theorem d_D_goOn_26 : decode b_D_goOn 26 = .ok (.getfield 54, 3) := by decide +kernel
theorem d_D_goOn_29 : decode b_D_goOn 29 = .ok (.iconst 0, 1) := by decide +kernel
theorem d_D_goOn_30 : decode b_D_goOn 30 = .ok (.dup2, 1) := by decide +kernel
theorem d_D_goOn_31 : decode b_D_goOn 31 = .ok (.iaload, 1) := by decide +kernel
theorem d_D_goOn_32 : decode b_D_goOn 32 = .ok (.iconst 1, 1) := by decide +kernel
theorem d_D_goOn_33 : decode b_D_goOn 33 = .ok (.iadd, 1) := by decide +kernel
theorem d_D_goOn_34 : decode b_D_goOn 34 = .ok (.iastore, 1) := by decide +kernel
theorem d_D_goOn_35 : decode b_D_goOn 35 = .ok (.aload_n 0, 1) := by decide +kernel
theorem d_D_goOn_36 : decode b_D_goOn 36 = .ok (.getfield 75, 3) := by decide +kernel
theorem d_D_goOn_39 : decode b_D_goOn 39 = .ok (.iload_n 1, 1) := by decide +kernel
theorem d_D_goOn_40 : decode b_D_goOn 40 = .ok (.iconst 1, 1) := by decide +kernel
theorem d_D_goOn_41 : decode b_D_goOn 41 = .ok (.iastore, 1) := by decide +kernel
theorem d_D_goOn_42 : decode b_D_goOn 42 = .ok (.aload_n 0, 1) := by decide +kernel
theorem d_D_goOn_43 : decode b_D_goOn 43 = .ok (.iload_n 2, 1) := by decide +kernel
theorem d_D_goOn_44 : decode b_D_goOn 44 = .ok (.invokevirtual 142, 3) := by decide +kernel
theorem d_D_goOn_47 : decode b_D_goOn 47 = .ok (.ifCond .ne 4, 3) := by decide +kernel
theorem d_D_goOn_50 : decode b_D_goOn 50 = .ok (.return_, 1) := by decide +kernel
theorem d_D_goOn_51 : decode b_D_goOn 51 = .ok (.aload_n 0, 1) := by decide +kernel
theorem d_D_goOn_52 : decode b_D_goOn 52 = .ok (.getfield 75, 3) := by decide +kernel
theorem d_D_goOn_55 : decode b_D_goOn 55 = .ok (.iload_n 1, 1) := by decide +kernel
theorem d_D_goOn_56 : decode b_D_goOn 56 = .ok (.iconst 0, 1) := by decide +kernel
theorem d_D_goOn_57 : decode b_D_goOn 57 = .ok (.iastore, 1) := by decide +kernel
theorem d_D_goOn_58 : decode b_D_goOn 58 = .ok (.aload_n 0, 1) := by decide +kernel
theorem d_D_goOn_59 : decode b_D_goOn 59 = .ok (.getfield 84, 3) := by decide +kernel
theorem d_D_goOn_62 : decode b_D_goOn 62 = .ok (.iload_n 1, 1) := by decide +kernel
theorem d_D_goOn_63 : decode b_D_goOn 63 = .ok (.iaload, 1) := by decide +kernel
theorem d_D_goOn_64 : decode b_D_goOn 64 = .ok (.istore_n 3, 1) := by decide +kernel
theorem d_D_goOn_65 : decode b_D_goOn 65 = .ok (.iconst 0, 1) := by decide +kernel
theorem d_D_goOn_66 : decode b_D_goOn 66 = .ok (.istore 4, 2) := by decide +kernel
theorem d_D_goOn_68 : decode b_D_goOn 68 = .ok (.iconst 0, 1) := by decide +kernel
theorem d_D_goOn_69 : decode b_D_goOn 69 = .ok (.istore 5, 2) := by decide +kernel
theorem d_D_goOn_71 : decode b_D_goOn 71 = .ok (.iload 5, 2) := by decide +kernel
theorem d_D_goOn_73 : decode b_D_goOn 73 = .ok (.aload_n 0, 1) := by decide +kernel
theorem d_D_goOn_74 : decode b_D_goOn 74 = .ok (.getfield 23, 3) := by decide +kernel
theorem d_D_goOn_77 : decode b_D_goOn 77 = .ok (.iload_n 3, 1) := by decide +kernel
theorem d_D_goOn_78 : decode b_D_goOn 78 = .ok (.iaload, 1) := by decide +kernel
theorem d_D_goOn_79 : decode b_D_goOn 79 = .ok (.if_icmp .ge 28, 3) := by decide +kernel
theorem d_D_goOn_82 : decode b_D_goOn 82 = .ok (.aload_n 0, 1) := by decide +kernel
theorem d_D_goOn_83 : decode b_D_goOn 83 = .ok (.getfield 26, 3) := by decide +kernel
theorem d_D_goOn_86 : decode b_D_goOn 86 = .ok (.iload_n 3, 1) := by decide +kernel
theorem d_D_goOn_87 : decode b_D_goOn 87 = .ok (.bipush 12, 2) := by decide +kernel
theorem d_D_goOn_89 : decode b_D_goOn 89 = .ok (.imul, 1) := by decide +kernel
theorem d_D_goOn_90 : decode b_D_goOn 90 = .ok (.iload 5, 2) := by decide +kernel
theorem d_D_goOn_92 : decode b_D_goOn 92 = .ok (.iadd, 1) := by decide +kernel
theorem d_D_goOn_93 : decode b_D_goOn 93 = .ok (.iaload, 1) := by decide +kernel
theorem d_D_goOn_94 : decode b_D_goOn 94 = .ok (.iload_n 2, 1) := by decide +kernel
theorem d_D_goOn_95 : decode b_D_goOn 95 = .ok (.if_icmp .ne 6, 3) := by decide +kernel
theorem d_D_goOn_98 : decode b_D_goOn 98 = .ok (.iconst 1, 1) := by decide +kernel
theorem d_D_goOn_99 : decode b_D_goOn 99 = .ok (.istore 4, 2) := by decide +kernel
theorem d_D_goOn_101 : decode b_D_goOn 101 = .ok (.iinc 5 1, 3) := by decide +kernel
theorem d_D_goOn_104 : decode b_D_goOn 104 = .ok (.goto (-33), 3) := by decide +kernel
theorem d_D_goOn_107 : decode b_D_goOn 107 = .ok (.iload 4, 2) := by decide +kernel
theorem d_D_goOn_109 : decode b_D_goOn 109 = .ok (.ifCond .ne 52, 3) := by decide +kernel
theorem d_D_goOn_112 : decode b_D_goOn 112 = .ok (.aload_n 0, 1) := by decide +kernel
theorem d_D_goOn_113 : decode b_D_goOn 113 = .ok (.getfield 26, 3) := by decide +kernel
theorem d_D_goOn_116 : decode b_D_goOn 116 = .ok (.iload_n 3, 1) := by decide +kernel
theorem d_D_goOn_117 : decode b_D_goOn 117 = .ok (.bipush 12, 2) := by decide +kernel
theorem d_D_goOn_119 : decode b_D_goOn 119 = .ok (.imul, 1) := by decide +kernel
theorem d_D_goOn_120 : decode b_D_goOn 120 = .ok (.aload_n 0, 1) := by decide +kernel
theorem d_D_goOn_121 : decode b_D_goOn 121 = .ok (.getfield 23, 3) := by decide +kernel
theorem d_D_goOn_124 : decode b_D_goOn 124 = .ok (.iload_n 3, 1) := by decide +kernel
theorem d_D_goOn_125 : decode b_D_goOn 125 = .ok (.iaload, 1) := by decide +kernel
theorem d_D_goOn_126 : decode b_D_goOn 126 = .ok (.iadd, 1) := by decide +kernel
theorem d_D_goOn_127 : decode b_D_goOn 127 = .ok (.iload_n 2, 1) := by decide +kernel
theorem d_D_goOn_128 : decode b_D_goOn 128 = .ok (.iastore, 1) := by decide +kernel
theorem d_D_goOn_129 : decode b_D_goOn 129 = .ok (.aload_n 0, 1) := by decide +kernel
theorem d_D_goOn_130 : decode b_D_goOn 130 = .ok (.getfield 32, 3) := by decide +kernel
theorem d_D_goOn_133 : decode b_D_goOn 133 = .ok (.iload_n 3, 1) := by decide +kernel
theorem d_D_goOn_134 : decode b_D_goOn 134 = .ok (.bipush 12, 2) := by decide +kernel
theorem d_D_goOn_136 : decode b_D_goOn 136 = .ok (.imul, 1) := by decide +kernel
theorem d_D_goOn_137 : decode b_D_goOn 137 = .ok (.aload_n 0, 1) := by decide +kernel
theorem d_D_goOn_138 : decode b_D_goOn 138 = .ok (.getfield 23, 3) := by decide +kernel
theorem d_D_goOn_141 : decode b_D_goOn 141 = .ok (.iload_n 3, 1) := by decide +kernel
theorem d_D_goOn_142 : decode b_D_goOn 142 = .ok (.iaload, 1) := by decide +kernel
theorem d_D_goOn_143 : decode b_D_goOn 143 = .ok (.iadd, 1) := by decide +kernel
theorem d_D_goOn_144 : decode b_D_goOn 144 = .ok (.aload_n 0, 1) := by decide +kernel
theorem d_D_goOn_145 : decode b_D_goOn 145 = .ok (.getfield 63, 3) := by decide +kernel
theorem d_D_goOn_148 : decode b_D_goOn 148 = .ok (.iload_n 2, 1) := by decide +kernel
theorem d_D_goOn_149 : decode b_D_goOn 149 = .ok (.laload, 1) := by decide +kernel
theorem d_D_goOn_150 : decode b_D_goOn 150 = .ok (.lastore, 1) := by decide +kernel
theorem d_D_goOn_151 : decode b_D_goOn 151 = .ok (.aload_n 0, 1) := by decide +kernel
theorem d_D_goOn_152 : decode b_D_goOn 152 = .ok (.getfield 23, 3) := by decide +kernel
theorem d_D_goOn_155 : decode b_D_goOn 155 = .ok (.iload_n 3, 1) := by decide +kernel
theorem d_D_goOn_156 : decode b_D_goOn 156 = .ok (.dup2, 1) := by decide +kernel
theorem d_D_goOn_157 : decode b_D_goOn 157 = .ok (.iaload, 1) := by decide +kernel
theorem d_D_goOn_158 : decode b_D_goOn 158 = .ok (.iconst 1, 1) := by decide +kernel
theorem d_D_goOn_159 : decode b_D_goOn 159 = .ok (.iadd, 1) := by decide +kernel
theorem d_D_goOn_160 : decode b_D_goOn 160 = .ok (.iastore, 1) := by decide +kernel
theorem d_D_goOn_161 : decode b_D_goOn 161 = .ok (.aload_n 0, 1) := by decide +kernel
theorem d_D_goOn_162 : decode b_D_goOn 162 = .ok (.iload_n 1, 1) := by decide +kernel
theorem d_D_goOn_163 : decode b_D_goOn 163 = .ok (.aload_n 0, 1) := by decide +kernel
theorem d_D_goOn_164 : decode b_D_goOn 164 = .ok (.getfield 63, 3) := by decide +kernel
theorem d_D_goOn_167 : decode b_D_goOn 167 = .ok (.iload_n 2, 1) := by decide +kernel
theorem d_D_goOn_168 : decode b_D_goOn 168 = .ok (.laload, 1) := by decide +kernel
theorem d_D_goOn_169 : decode b_D_goOn 169 = .ok (.invokevirtual 162, 3) := by decide +kernel
theorem d_D_goOn_172 : decode b_D_goOn 172 = .ok (.return_, 1) := by decide +kernel
theorem d_D_session_0 : decode b_D_session 0 = .ok (.aload_n 0, 1) := by decide +kernel
theorem d_D_session_1 : decode b_D_session 1 = .ok (.iload_n 1, 1) := by decide +kernel
theorem d_D_session_2 : decode b_D_session 2 = .ok (.putfield 124, 3) := by decide +kernel
theorem d_D_session_5 : decode b_D_session 5 = .ok (.aload_n 0, 1) := by decide +kernel
theorem d_D_session_6 : decode b_D_session 6 = .ok (.iconst 0, 1) := by decide +kernel
theorem d_D_session_7 : decode b_D_session 7 = .ok (.putfield 131, 3) := by decide +kernel
theorem d_D_session_10 : decode b_D_session 10 = .ok (.aload_n 0, 1) := by decide +kernel
theorem d_D_session_11 : decode b_D_session 11 = .ok (.iconst 0, 1) := by decide +kernel
theorem d_D_session_12 : decode b_D_session 12 = .ok (.putfield 118, 3) := by decide +kernel
theorem d_D_session_15 : decode b_D_session 15 = .ok (.iconst 0, 1) := by decide +kernel
theorem d_D_session_16 : decode b_D_session 16 = .ok (.istore_n 3, 1) := by decide +kernel
theorem d_D_session_17 : decode b_D_session 17 = .ok (.iload_n 3, 1) := by decide +kernel
theorem d_D_session_18 : decode b_D_session 18 = .ok (.bipush 12, 2) := by decide +kernel
theorem d_D_session_20 : decode b_D_session 20 = .ok (.if_icmp .ge 16, 3) := by decide +kernel
theorem d_D_session_23 : decode b_D_session 23 = .ok (.aload_n 0, 1) := by decide +kernel
theorem d_D_session_24 : decode b_D_session 24 = .ok (.getfield 60, 3) := by decide +kernel
theorem d_D_session_27 : decode b_D_session 27 = .ok (.iload_n 3, 1) := by decide +kernel
theorem d_D_session_28 : decode b_D_session 28 = .ok (.iconst 0, 1) := by decide +kernel
theorem d_D_session_29 : decode b_D_session 29 = .ok (.iastore, 1) := by decide +kernel
theorem d_D_session_30 : decode b_D_session 30 = .ok (.iinc 3 1, 3) := by decide +kernel
theorem d_D_session_33 : decode b_D_session 33 = .ok (.goto (-16), 3) := by decide +kernel
theorem d_D_session_36 : decode b_D_session 36 = .ok (.aload_n 0, 1) := by decide +kernel
theorem d_D_session_37 : decode b_D_session 37 = .ok (.iload_n 2, 1) := by decide +kernel
theorem d_D_session_38 : decode b_D_session 38 = .ok (.invokevirtual 142, 3) := by decide +kernel
theorem d_D_session_41 : decode b_D_session 41 = .ok (.istore_n 3, 1) := by decide +kernel
theorem d_D_session_42 : decode b_D_session 42 = .ok (.aload_n 0, 1) := by decide +kernel
theorem d_D_session_43 : decode b_D_session 43 = .ok (.getfield 118, 3) := by decide +kernel
theorem d_D_session_46 : decode b_D_session 46 = .ok (.ifCond .le 47, 3) := by decide +kernel
theorem d_D_session_49 : decode b_D_session 49 = .ok (.aload_n 0, 1) := by decide +kernel
theorem d_D_session_50 : decode b_D_session 50 = .ok (.getfield 96, 3) := by decide +kernel
theorem d_D_session_53 : decode b_D_session 53 = .ok (.ifCond .ne 40, 3) := by decide +kernel
theorem d_D_session_56 : decode b_D_session 56 = .ok (.aload_n 0, 1) := by decide +kernel
theorem d_D_session_57 : decode b_D_session 57 = .ok (.getfield 118, 3) := by decide +kernel
theorem d_D_session_60 : decode b_D_session 60 = .ok (.iconst 1, 1) := by decide +kernel
theorem d_D_session_61 : decode b_D_session 61 = .ok (.isub, 1) := by decide +kernel
theorem d_D_session_62 : decode b_D_session 62 = .ok (.istore 4, 2) := by decide +kernel
theorem d_D_session_64 : decode b_D_session 64 = .ok (.aload_n 0, 1) := by decide +kernel
theorem d_D_session_65 : decode b_D_session 65 = .ok (.getfield 69, 3) := by decide +kernel
theorem d_D_session_68 : decode b_D_session 68 = .ok (.iload 4, 2) := by decide +kernel
theorem d_D_session_70 : decode b_D_session 70 = .ok (.iaload, 1) := by decide +kernel
theorem d_D_session_71 : decode b_D_session 71 = .ok (.iconst 3, 1) := by decide +kernel
theorem d_D_session_72 : decode b_D_session 72 = .ok (.if_icmp .ne 12, 3) := by decide +kernel
theorem d_D_session_75 : decode b_D_session 75 = .ok (.aload_n 0, 1) := by decide +kernel
theorem d_D_session_76 : decode b_D_session 76 = .ok (.iload 4, 2) := by decide +kernel
theorem d_D_session_78 : decode b_D_session 78 = .ok (.invokevirtual 165, 3) := by decide +kernel
theorem d_D_session_81 : decode b_D_session 81 = .ok (.goto 9, 3) := by decide +kernel
theorem d_D_session_84 : decode b_D_session 84 = .ok (.aload_n 0, 1) := by decide +kernel
theorem d_D_session_85 : decode b_D_session 85 = .ok (.iload 4, 2) := by decide +kernel
theorem d_D_session_87 : decode b_D_session 87 = .ok (.invokevirtual 168, 3) := by decide +kernel
theorem d_D_session_90 : decode b_D_session 90 = .ok (.goto (-48), 3) := by decide +kernel
theorem d_D_session_93 : decode b_D_session 93 = .ok (.iconst 0, 1) := by decide +kernel
theorem d_D_session_94 : decode b_D_session 94 = .ok (.istore 4, 2) := by decide +kernel
theorem d_D_session_96 : decode b_D_session 96 = .ok (.iload 4, 2) := by decide +kernel
theorem d_D_session_98 : decode b_D_session 98 = .ok (.aload_n 0, 1) := by decide +kernel
theorem d_D_session_99 : decode b_D_session 99 = .ok (.getfield 118, 3) := by decide +kernel
theorem d_D_session_102 : decode b_D_session 102 = .ok (.if_icmp .ge 30, 3) := by decide +kernel
theorem d_D_session_105 : decode b_D_session 105 = .ok (.aload_n 0, 1) := by decide +kernel
theorem d_D_session_106 : decode b_D_session 106 = .ok (.getfield 69, 3) := by decide +kernel
theorem d_D_session_109 : decode b_D_session 109 = .ok (.iload 4, 2) := by decide +kernel
theorem d_D_session_111 : decode b_D_session 111 = .ok (.iaload, 1) := by decide +kernel
theorem d_D_session_112 : decode b_D_session 112 = .ok (.iconst 3, 1) := by decide +kernel
theorem d_D_session_113 : decode b_D_session 113 = .ok (.if_icmp .ne 13, 3) := by decide +kernel
theorem d_D_session_116 : decode b_D_session 116 = .ok (.aload_n 0, 1) := by decide +kernel
theorem d_D_session_117 : decode b_D_session 117 = .ok (.getfield 54, 3) := by decide +kernel
theorem d_D_session_120 : decode b_D_session 120 = .ok (.iconst 4, 1) := by decide +kernel
theorem d_D_session_121 : decode b_D_session 121 = .ok (.dup2, 1) := by decide +kernel
theorem d_D_session_122 : decode b_D_session 122 = .ok (.iaload, 1) := by decide +kernel
theorem d_D_session_123 : decode b_D_session 123 = .ok (.iconst 1, 1) := by decide +kernel
theorem d_D_session_124 : decode b_D_session 124 = .ok (.iadd, 1) := by decide +kernel
theorem d_D_session_125 : decode b_D_session 125 = .ok (.iastore, 1) := by decide +kernel
theorem d_D_session_126 : decode b_D_session 126 = .ok (.iinc 4 1, 3) := by decide +kernel
theorem d_D_session_129 : decode b_D_session 129 = .ok (.goto (-33), 3) := by decide +kernel
theorem d_D_session_132 : decode b_D_session 132 = .ok (.aload_n 0, 1) := by decide +kernel
theorem d_D_session_133 : decode b_D_session 133 = .ok (.iconst 0, 1) := by decide +kernel
theorem d_D_session_134 : decode b_D_session 134 = .ok (.putfield 118, 3) := by decide +kernel
theorem d_D_session_137 : decode b_D_session 137 = .ok (.aload_n 0, 1) := by decide +kernel
theorem d_D_session_138 : decode b_D_session 138 = .ok (.getfield 96, 3) := by decide +kernel
theorem d_D_session_141 : decode b_D_session 141 = .ok (.ifCond .le 7, 3) := by decide +kernel
theorem d_D_session_144 : decode b_D_session 144 = .ok (.lconst 0, 1) := by decide +kernel
theorem d_D_session_145 : decode b_D_session 145 = .ok (.goto 9, 3) := by decide +kernel
theorem d_D_session_148 : decode b_D_session 148 = .ok (.aload_n 0, 1) := by decide +kernel
theorem d_D_session_149 : decode b_D_session 149 = .ok (.getfield 63, 3) := by decide +kernel
theorem d_D_session_152 : decode b_D_session 152 = .ok (.iload_n 2, 1) := by decide +kernel
theorem d_D_session_153 : decode b_D_session 153 = .ok (.laload, 1) := by decide +kernel
theorem d_D_session_154 : decode b_D_session 154 = .ok (.lreturn, 1) := by decide +kernel
theorem d_D_build_0 : decode b_D_build 0 = .ok (.aload_n 0, 1) := by decide +kernel
theorem d_D_build_1 : decode b_D_build 1 = .ok (.iload_n 1, 1) := by decide +kernel
theorem d_D_build_2 : decode b_D_build 2 = .ok (.iconst 0, 1) := by decide +kernel
theorem d_D_build_3 : decode b_D_build 3 = .ok (.iconst 1, 1) := by decide +kernel
theorem d_D_build_4 : decode b_D_build 4 = .ok (.invokestatic 103, 3) := by decide +kernel
theorem d_D_build_7 : decode b_D_build 7 = .ok (.ifCond .eq 17, 3) := by decide +kernel
theorem d_D_build_10 : decode b_D_build 10 = .ok (.iload_n 2, 1) := by decide +kernel
theorem d_D_build_11 : decode b_D_build 11 = .ok (.iconst 0, 1) := by decide +kernel
theorem d_D_build_12 : decode b_D_build 12 = .ok (.bipush 11, 2) := by decide +kernel
theorem d_D_build_14 : decode b_D_build 14 = .ok (.invokestatic 103, 3) := by decide +kernel
theorem d_D_build_17 : decode b_D_build 17 = .ok (.ifCond .eq 7, 3) := by decide +kernel
theorem d_D_build_20 : decode b_D_build 20 = .ok (.iconst 1, 1) := by decide +kernel
theorem d_D_build_21 : decode b_D_build 21 = .ok (.goto 4, 3) := by decide +kernel
theorem d_D_build_24 : decode b_D_build 24 = .ok (.iconst 0, 1) := by decide +kernel
theorem d_D_build_25 : decode b_D_build 25 = .ok (.invokevirtual 107, 3) := by decide +kernel
theorem d_D_build_28 : decode b_D_build 28 = .ok (.ifCond .eq 5, 3) := by decide +kernel
theorem d_D_build_31 : decode b_D_build 31 = .ok (.lconst 0, 1) := by decide +kernel
theorem d_D_build_32 : decode b_D_build 32 = .ok (.lreturn, 1) := by decide +kernel
theorem d_D_build_33 : decode b_D_build 33 = .ok (.aload_n 0, 1) := by decide +kernel
theorem d_D_build_34 : decode b_D_build 34 = .ok (.iload_n 1, 1) := by decide +kernel
theorem d_D_build_35 : decode b_D_build 35 = .ok (.iload_n 2, 1) := by decide +kernel
theorem d_D_build_36 : decode b_D_build 36 = .ok (.invokevirtual 171, 3) := by decide +kernel
theorem d_D_build_39 : decode b_D_build 39 = .ok (.lstore_n 3, 1) := by decide +kernel
end
section
theorem d_D_build_40 : decode b_D_build 40 = .ok (.aload_n 0, 1) := by decide +kernel
theorem d_D_build_41 : decode b_D_build 41 = .ok (.getfield 54, 3) := by decide +kernel
theorem d_D_build_44 : decode b_D_build 44 = .ok (.iconst 5, 1) := by decide +kernel
theorem d_D_build_45 : decode b_D_build 45 = .ok (.dup2, 1) := by decide +kernel
theorem d_D_build_46 : decode b_D_build 46 = .ok (.iaload, 1) := by decide +kernel
theorem d_D_build_47 : decode b_D_build 47 = .ok (.iconst 1, 1) := by decide +kernel
theorem d_D_build_48 : decode b_D_build 48 = .ok (.iadd, 1) := by decide +kernel
theorem d_D_build_49 : decode b_D_build 49 = .ok (.iastore, 1) := by decide +kernel
theorem d_D_build_50 : decode b_D_build 50 = .ok (.aload_n 0, 1) := by decide +kernel
theorem d_D_build_51 : decode b_D_build 51 = .ok (.getfield 96, 3) := by decide +kernel
theorem d_D_build_54 : decode b_D_build 54 = .ok (.ifCond .le 14, 3) := by decide +kernel
theorem d_D_build_57 : decode b_D_build 57 = .ok (.aload_n 0, 1) := by decide +kernel
theorem d_D_build_58 : decode b_D_build 58 = .ok (.getfield 54, 3) := by decide +kernel
theorem d_D_build_61 : decode b_D_build 61 = .ok (.bipush 6, 2) := by decide +kernel
theorem d_D_build_63 : decode b_D_build 63 = .ok (.dup2, 1) := by decide +kernel
theorem d_D_build_64 : decode b_D_build 64 = .ok (.iaload, 1) := by decide +kernel
theorem d_D_build_65 : decode b_D_build 65 = .ok (.iconst 1, 1) := by decide +kernel
theorem d_D_build_66 : decode b_D_build 66 = .ok (.iadd, 1) := by decide +kernel
theorem d_D_build_67 : decode b_D_build 67 = .ok (.iastore, 1) := by decide +kernel
theorem d_D_build_68 : decode b_D_build 68 = .ok (.lload_n 3, 1) := by decide +kernel
theorem d_D_build_69 : decode b_D_build 69 = .ok (.lreturn, 1) := by decide +kernel
theorem d_D_keep_0 : decode b_D_keep 0 = .ok (.iconst 0, 1) := by decide +kernel
theorem d_D_keep_1 : decode b_D_keep 1 = .ok (.istore_n 3, 1) := by decide +kernel
theorem d_D_keep_2 : decode b_D_keep 2 = .ok (.iload_n 3, 1) := by decide +kernel
theorem d_D_keep_3 : decode b_D_keep 3 = .ok (.iload_n 2, 1) := by decide +kernel
theorem d_D_keep_4 : decode b_D_keep 4 = .ok (.if_icmp .ge 15, 3) := by decide +kernel
theorem d_D_keep_7 : decode b_D_keep 7 = .ok (.aload_n 1, 1) := by decide +kernel
theorem d_D_keep_8 : decode b_D_keep 8 = .ok (.iload_n 3, 1) := by decide +kernel
theorem d_D_keep_9 : decode b_D_keep 9 = .ok (.aload_n 0, 1) := by decide +kernel
theorem d_D_keep_10 : decode b_D_keep 10 = .ok (.iload_n 3, 1) := by decide +kernel
theorem d_D_keep_11 : decode b_D_keep 11 = .ok (.iaload, 1) := by decide +kernel
theorem d_D_keep_12 : decode b_D_keep 12 = .ok (.iastore, 1) := by decide +kernel
theorem d_D_keep_13 : decode b_D_keep 13 = .ok (.iinc 3 1, 3) := by decide +kernel
theorem d_D_keep_16 : decode b_D_keep 16 = .ok (.goto (-14), 3) := by decide +kernel
theorem d_D_keep_19 : decode b_D_keep 19 = .ok (.return_, 1) := by decide +kernel
theorem d_D_stale_0 : decode b_D_stale 0 = .ok (.aload_n 0, 1) := by decide +kernel
theorem d_D_stale_1 : decode b_D_stale 1 = .ok (.iload_n 1, 1) := by decide +kernel
theorem d_D_stale_2 : decode b_D_stale 2 = .ok (.iconst 0, 1) := by decide +kernel
theorem d_D_stale_3 : decode b_D_stale 3 = .ok (.iconst 1, 1) := by decide +kernel
theorem d_D_stale_4 : decode b_D_stale 4 = .ok (.invokestatic 103, 3) := by decide +kernel
theorem d_D_stale_7 : decode b_D_stale 7 = .ok (.ifCond .eq 17, 3) := by decide +kernel
theorem d_D_stale_10 : decode b_D_stale 10 = .ok (.iload_n 2, 1) := by decide +kernel
theorem d_D_stale_11 : decode b_D_stale 11 = .ok (.iconst 0, 1) := by decide +kernel
theorem d_D_stale_12 : decode b_D_stale 12 = .ok (.bipush 11, 2) := by decide +kernel
theorem d_D_stale_14 : decode b_D_stale 14 = .ok (.invokestatic 103, 3) := by decide +kernel
theorem d_D_stale_17 : decode b_D_stale 17 = .ok (.ifCond .eq 7, 3) := by decide +kernel
theorem d_D_stale_20 : decode b_D_stale 20 = .ok (.iconst 1, 1) := by decide +kernel
theorem d_D_stale_21 : decode b_D_stale 21 = .ok (.goto 4, 3) := by decide +kernel
theorem d_D_stale_24 : decode b_D_stale 24 = .ok (.iconst 0, 1) := by decide +kernel
theorem d_D_stale_25 : decode b_D_stale 25 = .ok (.invokevirtual 107, 3) := by decide +kernel
theorem d_D_stale_28 : decode b_D_stale 28 = .ok (.ifCond .eq 5, 3) := by decide +kernel
theorem d_D_stale_31 : decode b_D_stale 31 = .ok (.iconst 0, 1) := by decide +kernel
theorem d_D_stale_32 : decode b_D_stale 32 = .ok (.ireturn, 1) := by decide +kernel
theorem d_D_stale_33 : decode b_D_stale 33 = .ok (.aload_n 0, 1) := by decide +kernel
theorem d_D_stale_34 : decode b_D_stale 34 = .ok (.getfield 42, 3) := by decide +kernel
theorem d_D_stale_37 : decode b_D_stale 37 = .ok (.aload_n 0, 1) := by decide +kernel
theorem d_D_stale_38 : decode b_D_stale 38 = .ok (.getfield 45, 3) := by decide +kernel
theorem d_D_stale_41 : decode b_D_stale 41 = .ok (.bipush 24, 2) := by decide +kernel
theorem d_D_stale_43 : decode b_D_stale 43 = .ok (.invokestatic 175, 3) := by decide +kernel
theorem d_D_stale_46 : decode b_D_stale 46 = .ok (.aload_n 0, 1) := by decide +kernel
theorem d_D_stale_47 : decode b_D_stale 47 = .ok (.getfield 48, 3) := by decide +kernel
theorem d_D_stale_50 : decode b_D_stale 50 = .ok (.aload_n 0, 1) := by decide +kernel
theorem d_D_stale_51 : decode b_D_stale 51 = .ok (.getfield 51, 3) := by decide +kernel
theorem d_D_stale_54 : decode b_D_stale 54 = .ok (.bipush 16, 2) := by decide +kernel
theorem d_D_stale_56 : decode b_D_stale 56 = .ok (.invokestatic 175, 3) := by decide +kernel
theorem d_D_stale_59 : decode b_D_stale 59 = .ok (.aload_n 0, 1) := by decide +kernel
theorem d_D_stale_60 : decode b_D_stale 60 = .ok (.getfield 54, 3) := by decide +kernel
theorem d_D_stale_63 : decode b_D_stale 63 = .ok (.aload_n 0, 1) := by decide +kernel
theorem d_D_stale_64 : decode b_D_stale 64 = .ok (.getfield 57, 3) := by decide +kernel
theorem d_D_stale_67 : decode b_D_stale 67 = .ok (.bipush 7, 2) := by decide +kernel
theorem d_D_stale_69 : decode b_D_stale 69 = .ok (.invokestatic 175, 3) := by decide +kernel
theorem d_D_stale_72 : decode b_D_stale 72 = .ok (.aload_n 0, 1) := by decide +kernel
theorem d_D_stale_73 : decode b_D_stale 73 = .ok (.aload_n 0, 1) := by decide +kernel
theorem d_D_stale_74 : decode b_D_stale 74 = .ok (.getfield 100, 3) := by decide +kernel
theorem d_D_stale_77 : decode b_D_stale 77 = .ok (.putfield 115, 3) := by decide +kernel
theorem d_D_stale_80 : decode b_D_stale 80 = .ok (.aload_n 0, 1) := by decide +kernel
theorem d_D_stale_81 : decode b_D_stale 81 = .ok (.aload_n 0, 1) := by decide +kernel
theorem d_D_stale_82 : decode b_D_stale 82 = .ok (.getfield 121, 3) := by decide +kernel
theorem d_D_stale_85 : decode b_D_stale 85 = .ok (.putfield 179, 3) := by decide +kernel
theorem d_D_stale_88 : decode b_D_stale 88 = .ok (.aload_n 0, 1) := by decide +kernel
theorem d_D_stale_89 : decode b_D_stale 89 = .ok (.iload_n 1, 1) := by decide +kernel
theorem d_D_stale_90 : decode b_D_stale 90 = .ok (.iload_n 2, 1) := by decide +kernel
theorem d_D_stale_91 : decode b_D_stale 91 = .ok (.invokevirtual 171, 3) := by decide +kernel
theorem d_D_stale_94 : decode b_D_stale 94 = .ok (.lstore_n 3, 1) := by decide +kernel
theorem d_D_stale_95 : decode b_D_stale 95 = .ok (.aload_n 0, 1) := by decide +kernel
theorem d_D_stale_96 : decode b_D_stale 96 = .ok (.getfield 45, 3) := by decide +kernel
theorem d_D_stale_99 : decode b_D_stale 99 = .ok (.aload_n 0, 1) := by decide +kernel
theorem d_D_stale_100 : decode b_D_stale 100 = .ok (.getfield 42, 3) := by decide +kernel
theorem d_D_stale_103 : decode b_D_stale 103 = .ok (.bipush 24, 2) := by decide +kernel
theorem d_D_stale_105 : decode b_D_stale 105 = .ok (.invokestatic 175, 3) := by decide +kernel
theorem d_D_stale_108 : decode b_D_stale 108 = .ok (.aload_n 0, 1) := by decide +kernel
theorem d_D_stale_109 : decode b_D_stale 109 = .ok (.getfield 51, 3) := by decide +kernel
theorem d_D_stale_112 : decode b_D_stale 112 = .ok (.aload_n 0, 1) := by decide +kernel
theorem d_D_stale_113 : decode b_D_stale 113 = .ok (.getfield 48, 3) := by decide +kernel
theorem d_D_stale_116 : decode b_D_stale 116 = .ok (.bipush 16, 2) := by decide +kernel
theorem d_D_stale_118 : decode b_D_stale 118 = .ok (.invokestatic 175, 3) := by decide +kernel
theorem d_D_stale_121 : decode b_D_stale 121 = .ok (.aload_n 0, 1) := by decide +kernel
theorem d_D_stale_122 : decode b_D_stale 122 = .ok (.getfield 57, 3) := by decide +kernel
theorem d_D_stale_125 : decode b_D_stale 125 = .ok (.aload_n 0, 1) := by decide +kernel
theorem d_D_stale_126 : decode b_D_stale 126 = .ok (.getfield 54, 3) := by decide +kernel
theorem d_D_stale_129 : decode b_D_stale 129 = .ok (.bipush 7, 2) := by decide +kernel
theorem d_D_stale_131 : decode b_D_stale 131 = .ok (.invokestatic 175, 3) := by decide +kernel
theorem d_D_stale_134 : decode b_D_stale 134 = .ok (.aload_n 0, 1) := by decide +kernel
theorem d_D_stale_135 : decode b_D_stale 135 = .ok (.aload_n 0, 1) := by decide +kernel
theorem d_D_stale_136 : decode b_D_stale 136 = .ok (.getfield 115, 3) := by decide +kernel
theorem d_D_stale_139 : decode b_D_stale 139 = .ok (.putfield 100, 3) := by decide +kernel
theorem d_D_stale_142 : decode b_D_stale 142 = .ok (.aload_n 0, 1) := by decide +kernel
theorem d_D_stale_143 : decode b_D_stale 143 = .ok (.aload_n 0, 1) := by decide +kernel
theorem d_D_stale_144 : decode b_D_stale 144 = .ok (.getfield 179, 3) := by decide +kernel
theorem d_D_stale_147 : decode b_D_stale 147 = .ok (.putfield 121, 3) := by decide +kernel
theorem d_D_stale_150 : decode b_D_stale 150 = .ok (.aload_n 0, 1) := by decide +kernel
theorem d_D_stale_151 : decode b_D_stale 151 = .ok (.iconst 0, 1) := by decide +kernel
theorem d_D_stale_152 : decode b_D_stale 152 = .ok (.putfield 115, 3) := by decide +kernel
theorem d_D_stale_155 : decode b_D_stale 155 = .ok (.iconst 0, 1) := by decide +kernel
theorem d_D_stale_156 : decode b_D_stale 156 = .ok (.istore 5, 2) := by decide +kernel
theorem d_D_stale_158 : decode b_D_stale 158 = .ok (.iload 5, 2) := by decide +kernel
theorem d_D_stale_160 : decode b_D_stale 160 = .ok (.bipush 24, 2) := by decide +kernel
theorem d_D_stale_162 : decode b_D_stale 162 = .ok (.if_icmp .ge 17, 3) := by decide +kernel
theorem d_D_stale_165 : decode b_D_stale 165 = .ok (.aload_n 0, 1) := by decide +kernel
theorem d_D_stale_166 : decode b_D_stale 166 = .ok (.getfield 45, 3) := by decide +kernel
theorem d_D_stale_169 : decode b_D_stale 169 = .ok (.iload 5, 2) := by decide +kernel
theorem d_D_stale_171 : decode b_D_stale 171 = .ok (.iconst (-1), 1) := by decide +kernel
theorem d_D_stale_172 : decode b_D_stale 172 = .ok (.iastore, 1) := by decide +kernel
theorem d_D_stale_173 : decode b_D_stale 173 = .ok (.iinc 5 1, 3) := by decide +kernel
theorem d_D_stale_176 : decode b_D_stale 176 = .ok (.goto (-18), 3) := by decide +kernel
theorem d_D_stale_179 : decode b_D_stale 179 = .ok (.aload_n 0, 1) := by decide +kernel
theorem d_D_stale_180 : decode b_D_stale 180 = .ok (.getfield 131, 3) := by decide +kernel
theorem d_D_stale_183 : decode b_D_stale 183 = .ok (.ireturn, 1) := by decide +kernel
theorem d_D_forget_0 : decode b_D_forget 0 = .ok (.aload_n 0, 1) := by decide +kernel
theorem d_D_forget_1 : decode b_D_forget 1 = .ok (.iload_n 1, 1) := by decide +kernel
theorem d_D_forget_2 : decode b_D_forget 2 = .ok (.iconst 0, 1) := by decide +kernel
theorem d_D_forget_3 : decode b_D_forget 3 = .ok (.iconst 1, 1) := by decide +kernel
theorem d_D_forget_4 : decode b_D_forget 4 = .ok (.invokestatic 103, 3) := by decide +kernel
theorem d_D_forget_7 : decode b_D_forget 7 = .ok (.invokevirtual 107, 3) := by decide +kernel
theorem d_D_forget_10 : decode b_D_forget 10 = .ok (.ifCond .eq 5, 3) := by decide +kernel
theorem d_D_forget_13 : decode b_D_forget 13 = .ok (.iconst 0, 1) := by decide +kernel
theorem d_D_forget_14 : decode b_D_forget 14 = .ok (.ireturn, 1) := by decide +kernel
theorem d_D_forget_15 : decode b_D_forget 15 = .ok (.aload_n 0, 1) := by decide +kernel
theorem d_D_forget_16 : decode b_D_forget 16 = .ok (.iload_n 1, 1) := by decide +kernel
theorem d_D_forget_17 : decode b_D_forget 17 = .ok (.invokevirtual 182, 3) := by decide +kernel
theorem d_D_forget_20 : decode b_D_forget 20 = .ok (.istore_n 2, 1) := by decide +kernel
theorem d_D_forget_21 : decode b_D_forget 21 = .ok (.iconst 0, 1) := by decide +kernel
theorem d_D_forget_22 : decode b_D_forget 22 = .ok (.istore_n 3, 1) := by decide +kernel
theorem d_D_forget_23 : decode b_D_forget 23 = .ok (.iload_n 3, 1) := by decide +kernel
theorem d_D_forget_24 : decode b_D_forget 24 = .ok (.bipush 12, 2) := by decide +kernel
theorem d_D_forget_26 : decode b_D_forget 26 = .ok (.if_icmp .ge 21, 3) := by decide +kernel
theorem d_D_forget_29 : decode b_D_forget 29 = .ok (.aload_n 0, 1) := by decide +kernel
theorem d_D_forget_30 : decode b_D_forget 30 = .ok (.getfield 42, 3) := by decide +kernel
theorem d_D_forget_33 : decode b_D_forget 33 = .ok (.iload_n 1, 1) := by decide +kernel
theorem d_D_forget_34 : decode b_D_forget 34 = .ok (.bipush 12, 2) := by decide +kernel
theorem d_D_forget_36 : decode b_D_forget 36 = .ok (.imul, 1) := by decide +kernel
theorem d_D_forget_37 : decode b_D_forget 37 = .ok (.iload_n 3, 1) := by decide +kernel
theorem d_D_forget_38 : decode b_D_forget 38 = .ok (.iadd, 1) := by decide +kernel
theorem d_D_forget_39 : decode b_D_forget 39 = .ok (.iconst (-1), 1) := by decide +kernel
theorem d_D_forget_40 : decode b_D_forget 40 = .ok (.iastore, 1) := by decide +kernel
theorem d_D_forget_41 : decode b_D_forget 41 = .ok (.iinc 3 1, 3) := by decide +kernel
theorem d_D_forget_44 : decode b_D_forget 44 = .ok (.goto (-21), 3) := by decide +kernel
theorem d_D_forget_47 : decode b_D_forget 47 = .ok (.iload_n 2, 1) := by decide +kernel
theorem d_D_forget_48 : decode b_D_forget 48 = .ok (.ireturn, 1) := by decide +kernel
theorem d_D_tracesOf_0 : decode b_D_tracesOf 0 = .ok (.iconst 0, 1) := by decide +kernel
theorem d_D_tracesOf_1 : decode b_D_tracesOf 1 = .ok (.istore_n 2, 1) := by decide +kernel
theorem d_D_tracesOf_2 : decode b_D_tracesOf 2 = .ok (.iconst 0, 1) := by decide +kernel
theorem d_D_tracesOf_3 : decode b_D_tracesOf 3 = .ok (.istore_n 3, 1) := by decide +kernel
theorem d_D_tracesOf_4 : decode b_D_tracesOf 4 = .ok (.iload_n 3, 1) := by decide +kernel
theorem d_D_tracesOf_5 : decode b_D_tracesOf 5 = .ok (.bipush 12, 2) := by decide +kernel
theorem d_D_tracesOf_7 : decode b_D_tracesOf 7 = .ok (.if_icmp .ge 26, 3) := by decide +kernel
theorem d_D_tracesOf_10 : decode b_D_tracesOf 10 = .ok (.aload_n 0, 1) := by decide +kernel
theorem d_D_tracesOf_11 : decode b_D_tracesOf 11 = .ok (.getfield 42, 3) := by decide +kernel
theorem d_D_tracesOf_14 : decode b_D_tracesOf 14 = .ok (.iload_n 1, 1) := by decide +kernel
theorem d_D_tracesOf_15 : decode b_D_tracesOf 15 = .ok (.bipush 12, 2) := by decide +kernel
theorem d_D_tracesOf_17 : decode b_D_tracesOf 17 = .ok (.imul, 1) := by decide +kernel
theorem d_D_tracesOf_18 : decode b_D_tracesOf 18 = .ok (.iload_n 3, 1) := by decide +kernel
theorem d_D_tracesOf_19 : decode b_D_tracesOf 19 = .ok (.iadd, 1) := by decide +kernel
theorem d_D_tracesOf_20 : decode b_D_tracesOf 20 = .ok (.iaload, 1) := by decide +kernel
theorem d_D_tracesOf_21 : decode b_D_tracesOf 21 = .ok (.ifCond .lt 6, 3) := by decide +kernel
theorem d_D_tracesOf_24 : decode b_D_tracesOf 24 = .ok (.iinc 2 1, 3) := by decide +kernel
theorem d_D_tracesOf_27 : decode b_D_tracesOf 27 = .ok (.iinc 3 1, 3) := by decide +kernel
theorem d_D_tracesOf_30 : decode b_D_tracesOf 30 = .ok (.goto (-26), 3) := by decide +kernel
theorem d_D_tracesOf_33 : decode b_D_tracesOf 33 = .ok (.iload_n 2, 1) := by decide +kernel
theorem d_D_tracesOf_34 : decode b_D_tracesOf 34 = .ok (.ireturn, 1) := by decide +kernel
theorem d_D_cut_0 : decode b_D_cut 0 = .ok (.aload_n 0, 1) := by decide +kernel
theorem d_D_cut_1 : decode b_D_cut 1 = .ok (.getfield 100, 3) := by decide +kernel
theorem d_D_cut_4 : decode b_D_cut 4 = .ok (.iload_n 1, 1) := by decide +kernel
theorem d_D_cut_5 : decode b_D_cut 5 = .ok (.if_icmp .le 12, 3) := by decide +kernel
theorem d_D_cut_8 : decode b_D_cut 8 = .ok (.aload_n 0, 1) := by decide +kernel
theorem d_D_cut_9 : decode b_D_cut 9 = .ok (.getfield 100, 3) := by decide +kernel
theorem d_D_cut_12 : decode b_D_cut 12 = .ok (.iload_n 1, 1) := by decide +kernel
theorem d_D_cut_13 : decode b_D_cut 13 = .ok (.isub, 1) := by decide +kernel
theorem d_D_cut_14 : decode b_D_cut 14 = .ok (.goto 4, 3) := by decide +kernel
theorem d_D_cut_17 : decode b_D_cut 17 = .ok (.iconst 0, 1) := by decide +kernel
theorem d_D_cut_18 : decode b_D_cut 18 = .ok (.istore_n 2, 1) := by decide +kernel
theorem d_D_cut_19 : decode b_D_cut 19 = .ok (.iconst 0, 1) := by decide +kernel
theorem d_D_cut_20 : decode b_D_cut 20 = .ok (.istore_n 3, 1) := by decide +kernel
theorem d_D_cut_21 : decode b_D_cut 21 = .ok (.iload_n 3, 1) := by decide +kernel
theorem d_D_cut_22 : decode b_D_cut 22 = .ok (.iload_n 2, 1) := by decide +kernel
theorem d_D_cut_23 : decode b_D_cut 23 = .ok (.iadd, 1) := by decide +kernel
theorem d_D_cut_24 : decode b_D_cut 24 = .ok (.aload_n 0, 1) := by decide +kernel
theorem d_D_cut_25 : decode b_D_cut 25 = .ok (.getfield 100, 3) := by decide +kernel
theorem d_D_cut_28 : decode b_D_cut 28 = .ok (.if_icmp .ge 23, 3) := by decide +kernel
theorem d_D_cut_31 : decode b_D_cut 31 = .ok (.aload_n 0, 1) := by decide +kernel
theorem d_D_cut_32 : decode b_D_cut 32 = .ok (.getfield 48, 3) := by decide +kernel
theorem d_D_cut_35 : decode b_D_cut 35 = .ok (.iload_n 3, 1) := by decide +kernel
theorem d_D_cut_36 : decode b_D_cut 36 = .ok (.aload_n 0, 1) := by decide +kernel
theorem d_D_cut_37 : decode b_D_cut 37 = .ok (.getfield 48, 3) := by decide +kernel
theorem d_D_cut_40 : decode b_D_cut 40 = .ok (.iload_n 3, 1) := by decide +kernel
theorem d_D_cut_41 : decode b_D_cut 41 = .ok (.iload_n 2, 1) := by decide +kernel
theorem d_D_cut_42 : decode b_D_cut 42 = .ok (.iadd, 1) := by decide +kernel
theorem d_D_cut_43 : decode b_D_cut 43 = .ok (.iaload, 1) := by decide +kernel
theorem d_D_cut_44 : decode b_D_cut 44 = .ok (.iastore, 1) := by decide +kernel
theorem d_D_cut_45 : decode b_D_cut 45 = .ok (.iinc 3 1, 3) := by decide +kernel
theorem d_D_cut_48 : decode b_D_cut 48 = .ok (.goto (-27), 3) := by decide +kernel
theorem d_D_cut_51 : decode b_D_cut 51 = .ok (.aload_n 0, 1) := by decide +kernel
theorem d_D_cut_52 : decode b_D_cut 52 = .ok (.dup, 1) := by decide +kernel
theorem d_D_cut_53 : decode b_D_cut 53 = .ok (.getfield 100, 3) := by decide +kernel
theorem d_D_cut_56 : decode b_D_cut 56 = .ok (.iload_n 2, 1) := by decide +kernel
theorem d_D_cut_57 : decode b_D_cut 57 = .ok (.isub, 1) := by decide +kernel
theorem d_D_cut_58 : decode b_D_cut 58 = .ok (.putfield 100, 3) := by decide +kernel
theorem d_D_cut_61 : decode b_D_cut 61 = .ok (.iload_n 2, 1) := by decide +kernel
theorem d_D_cut_62 : decode b_D_cut 62 = .ok (.ireturn, 1) := by decide +kernel
theorem d_D_shrink_0 : decode b_D_shrink 0 = .ok (.aload_n 0, 1) := by decide +kernel
theorem d_D_shrink_1 : decode b_D_shrink 1 = .ok (.iload_n 1, 1) := by decide +kernel
theorem d_D_shrink_2 : decode b_D_shrink 2 = .ok (.iconst 0, 1) := by decide +kernel
theorem d_D_shrink_3 : decode b_D_shrink 3 = .ok (.bipush 16, 2) := by decide +kernel
theorem d_D_shrink_5 : decode b_D_shrink 5 = .ok (.invokestatic 103, 3) := by decide +kernel
theorem d_D_shrink_8 : decode b_D_shrink 8 = .ok (.invokevirtual 107, 3) := by decide +kernel
theorem d_D_shrink_11 : decode b_D_shrink 11 = .ok (.ifCond .eq 5, 3) := by decide +kernel
theorem d_D_shrink_14 : decode b_D_shrink 14 = .ok (.iconst 0, 1) := by decide +kernel
theorem d_D_shrink_15 : decode b_D_shrink 15 = .ok (.ireturn, 1) := by decide +kernel
theorem d_D_shrink_16 : decode b_D_shrink 16 = .ok (.aload_n 0, 1) := by decide +kernel
theorem d_D_shrink_17 : decode b_D_shrink 17 = .ok (.iload_n 1, 1) := by decide +kernel
theorem d_D_shrink_18 : decode b_D_shrink 18 = .ok (.invokevirtual 152, 3) := by decide +kernel
theorem d_D_shrink_21 : decode b_D_shrink 21 = .ok (.ireturn, 1) := by decide +kernel
theorem d_D_traceWith_0 : decode b_D_traceWith 0 = .ok (.aload_n 0, 1) := by decide +kernel
theorem d_D_traceWith_1 : decode b_D_traceWith 1 = .ok (.iload_n 1, 1) := by decide +kernel
theorem d_D_traceWith_2 : decode b_D_traceWith 2 = .ok (.iconst 0, 1) := by decide +kernel
theorem d_D_traceWith_3 : decode b_D_traceWith 3 = .ok (.iconst 1, 1) := by decide +kernel
theorem d_D_traceWith_4 : decode b_D_traceWith 4 = .ok (.invokestatic 103, 3) := by decide +kernel
theorem d_D_traceWith_7 : decode b_D_traceWith 7 = .ok (.ifCond .eq 17, 3) := by decide +kernel
theorem d_D_traceWith_10 : decode b_D_traceWith 10 = .ok (.iload_n 2, 1) := by decide +kernel
theorem d_D_traceWith_11 : decode b_D_traceWith 11 = .ok (.iconst 0, 1) := by decide +kernel
theorem d_D_traceWith_12 : decode b_D_traceWith 12 = .ok (.bipush 11, 2) := by decide +kernel
theorem d_D_traceWith_14 : decode b_D_traceWith 14 = .ok (.invokestatic 103, 3) := by decide +kernel
theorem d_D_traceWith_17 : decode b_D_traceWith 17 = .ok (.ifCond .eq 7, 3) := by decide +kernel
theorem d_D_traceWith_20 : decode b_D_traceWith 20 = .ok (.iconst 1, 1) := by decide +kernel
theorem d_D_traceWith_21 : decode b_D_traceWith 21 = .ok (.goto 4, 3) := by decide +kernel
theorem d_D_traceWith_24 : decode b_D_traceWith 24 = .ok (.iconst 0, 1) := by decide +kernel
theorem d_D_traceWith_25 : decode b_D_traceWith 25 = .ok (.invokevirtual 107, 3) := by decide +kernel
theorem d_D_traceWith_28 : decode b_D_traceWith 28 = .ok (.ifCond .eq 5, 3) := by decide +kernel
theorem d_D_traceWith_31 : decode b_D_traceWith 31 = .ok (.iconst (-1), 1) := by decide +kernel
theorem d_D_traceWith_32 : decode b_D_traceWith 32 = .ok (.ireturn, 1) := by decide +kernel
theorem d_D_traceWith_33 : decode b_D_traceWith 33 = .ok (.aload_n 0, 1) := by decide +kernel
theorem d_D_traceWith_34 : decode b_D_traceWith 34 = .ok (.getfield 42, 3) := by decide +kernel
theorem d_D_traceWith_37 : decode b_D_traceWith 37 = .ok (.iload_n 1, 1) := by decide +kernel
theorem d_D_traceWith_38 : decode b_D_traceWith 38 = .ok (.bipush 12, 2) := by decide +kernel
theorem d_D_traceWith_40 : decode b_D_traceWith 40 = .ok (.imul, 1) := by decide +kernel
theorem d_D_traceWith_41 : decode b_D_traceWith 41 = .ok (.iload_n 2, 1) := by decide +kernel
theorem d_D_traceWith_42 : decode b_D_traceWith 42 = .ok (.iadd, 1) := by decide +kernel
theorem d_D_traceWith_43 : decode b_D_traceWith 43 = .ok (.iaload, 1) := by decide +kernel
theorem d_D_traceWith_44 : decode b_D_traceWith 44 = .ok (.istore 4, 2) := by decide +kernel
theorem d_D_traceWith_46 : decode b_D_traceWith 46 = .ok (.iload 4, 2) := by decide +kernel
theorem d_D_traceWith_48 : decode b_D_traceWith 48 = .ok (.ifCond .lt 19, 3) := by decide +kernel
theorem d_D_traceWith_51 : decode b_D_traceWith 51 = .ok (.iload_n 3, 1) := by decide +kernel
theorem d_D_traceWith_52 : decode b_D_traceWith 52 = .ok (.iconst (-1), 1) := by decide +kernel
theorem d_D_traceWith_53 : decode b_D_traceWith 53 = .ok (.if_icmp .lt 14, 3) := by decide +kernel
theorem d_D_traceWith_56 : decode b_D_traceWith 56 = .ok (.iload_n 3, 1) := by decide +kernel
theorem d_D_traceWith_57 : decode b_D_traceWith 57 = .ok (.aload_n 0, 1) := by decide +kernel
theorem d_D_traceWith_58 : decode b_D_traceWith 58 = .ok (.getfield 23, 3) := by decide +kernel
theorem d_D_traceWith_61 : decode b_D_traceWith 61 = .ok (.iload 4, 2) := by decide +kernel
theorem d_D_traceWith_63 : decode b_D_traceWith 63 = .ok (.iaload, 1) := by decide +kernel
theorem d_D_traceWith_64 : decode b_D_traceWith 64 = .ok (.if_icmp .lt 10, 3) := by decide +kernel
theorem d_D_traceWith_67 : decode b_D_traceWith 67 = .ok (.aload_n 0, 1) := by decide +kernel
theorem d_D_traceWith_68 : decode b_D_traceWith 68 = .ok (.iconst 2, 1) := by decide +kernel
theorem d_D_traceWith_69 : decode b_D_traceWith 69 = .ok (.putfield 96, 3) := by decide +kernel
theorem d_D_traceWith_72 : decode b_D_traceWith 72 = .ok (.iconst (-1), 1) := by decide +kernel
theorem d_D_traceWith_73 : decode b_D_traceWith 73 = .ok (.ireturn, 1) := by decide +kernel
theorem d_D_traceWith_74 : decode b_D_traceWith 74 = .ok (.iload 4, 2) := by decide +kernel
theorem d_D_traceWith_76 : decode b_D_traceWith 76 = .ok (.ireturn, 1) := by decide +kernel
theorem d_D_trace_0 : decode b_D_trace 0 = .ok (.aload_n 0, 1) := by decide +kernel
theorem d_D_trace_1 : decode b_D_trace 1 = .ok (.iload_n 1, 1) := by decide +kernel
theorem d_D_trace_2 : decode b_D_trace 2 = .ok (.iload_n 2, 1) := by decide +kernel
theorem d_D_trace_3 : decode b_D_trace 3 = .ok (.iload_n 3, 1) := by decide +kernel
theorem d_D_trace_4 : decode b_D_trace 4 = .ok (.invokevirtual 185, 3) := by decide +kernel
theorem d_D_trace_7 : decode b_D_trace 7 = .ok (.istore 4, 2) := by decide +kernel
theorem d_D_trace_9 : decode b_D_trace 9 = .ok (.iload 4, 2) := by decide +kernel
theorem d_D_trace_11 : decode b_D_trace 11 = .ok (.ifCond .ge 5, 3) := by decide +kernel
theorem d_D_trace_14 : decode b_D_trace 14 = .ok (.iconst 0, 1) := by decide +kernel
theorem d_D_trace_15 : decode b_D_trace 15 = .ok (.ireturn, 1) := by decide +kernel
theorem d_D_trace_16 : decode b_D_trace 16 = .ok (.iload_n 3, 1) := by decide +kernel
theorem d_D_trace_17 : decode b_D_trace 17 = .ok (.ifCond .ge 13, 3) := by decide +kernel
theorem d_D_trace_20 : decode b_D_trace 20 = .ok (.aload_n 0, 1) := by decide +kernel
theorem d_D_trace_21 : decode b_D_trace 21 = .ok (.getfield 23, 3) := by decide +kernel
theorem d_D_trace_24 : decode b_D_trace 24 = .ok (.iload 4, 2) := by decide +kernel
theorem d_D_trace_26 : decode b_D_trace 26 = .ok (.iaload, 1) := by decide +kernel
theorem d_D_trace_27 : decode b_D_trace 27 = .ok (.goto 15, 3) := by decide +kernel
theorem d_D_trace_30 : decode b_D_trace 30 = .ok (.aload_n 0, 1) := by decide +kernel
theorem d_D_trace_31 : decode b_D_trace 31 = .ok (.getfield 26, 3) := by decide +kernel
theorem d_D_trace_34 : decode b_D_trace 34 = .ok (.iload 4, 2) := by decide +kernel
theorem d_D_trace_36 : decode b_D_trace 36 = .ok (.bipush 12, 2) := by decide +kernel
theorem d_D_trace_38 : decode b_D_trace 38 = .ok (.imul, 1) := by decide +kernel
theorem d_D_trace_39 : decode b_D_trace 39 = .ok (.iload_n 3, 1) := by decide +kernel
theorem d_D_trace_40 : decode b_D_trace 40 = .ok (.iadd, 1) := by decide +kernel
theorem d_D_trace_41 : decode b_D_trace 41 = .ok (.iaload, 1) := by decide +kernel
theorem d_D_trace_42 : decode b_D_trace 42 = .ok (.ireturn, 1) := by decide +kernel
theorem d_D_traced_0 : decode b_D_traced 0 = .ok (.aload_n 0, 1) := by decide +kernel
theorem d_D_traced_1 : decode b_D_traced 1 = .ok (.iload_n 1, 1) := by decide +kernel
theorem d_D_traced_2 : decode b_D_traced 2 = .ok (.iload_n 2, 1) := by decide +kernel
theorem d_D_traced_3 : decode b_D_traced 3 = .ok (.iload_n 3, 1) := by decide +kernel
theorem d_D_traced_4 : decode b_D_traced 4 = .ok (.invokevirtual 185, 3) := by decide +kernel
theorem d_D_traced_7 : decode b_D_traced 7 = .ok (.istore 4, 2) := by decide +kernel
theorem d_D_traced_9 : decode b_D_traced 9 = .ok (.iload 4, 2) := by decide +kernel
theorem d_D_traced_11 : decode b_D_traced 11 = .ok (.ifCond .ge 5, 3) := by decide +kernel
theorem d_D_traced_14 : decode b_D_traced 14 = .ok (.lconst 0, 1) := by decide +kernel
theorem d_D_traced_15 : decode b_D_traced 15 = .ok (.lreturn, 1) := by decide +kernel
theorem d_D_traced_16 : decode b_D_traced 16 = .ok (.iload_n 3, 1) := by decide +kernel
theorem d_D_traced_17 : decode b_D_traced 17 = .ok (.ifCond .ge 13, 3) := by decide +kernel
theorem d_D_traced_20 : decode b_D_traced 20 = .ok (.aload_n 0, 1) := by decide +kernel
theorem d_D_traced_21 : decode b_D_traced 21 = .ok (.getfield 35, 3) := by decide +kernel
theorem d_D_traced_24 : decode b_D_traced 24 = .ok (.iload 4, 2) := by decide +kernel
theorem d_D_traced_26 : decode b_D_traced 26 = .ok (.laload, 1) := by decide +kernel
theorem d_D_traced_27 : decode b_D_traced 27 = .ok (.goto 15, 3) := by decide +kernel
theorem d_D_traced_30 : decode b_D_traced 30 = .ok (.aload_n 0, 1) := by decide +kernel
theorem d_D_traced_31 : decode b_D_traced 31 = .ok (.getfield 32, 3) := by decide +kernel
theorem d_D_traced_34 : decode b_D_traced 34 = .ok (.iload 4, 2) := by decide +kernel
theorem d_D_traced_36 : decode b_D_traced 36 = .ok (.bipush 12, 2) := by decide +kernel
theorem d_D_traced_38 : decode b_D_traced 38 = .ok (.imul, 1) := by decide +kernel
theorem d_D_traced_39 : decode b_D_traced 39 = .ok (.iload_n 3, 1) := by decide +kernel
theorem d_D_traced_40 : decode b_D_traced 40 = .ok (.iadd, 1) := by decide +kernel
theorem d_D_traced_41 : decode b_D_traced 41 = .ok (.laload, 1) := by decide +kernel
theorem d_D_traced_42 : decode b_D_traced 42 = .ok (.lreturn, 1) := by decide +kernel
theorem d_D_cached_0 : decode b_D_cached 0 = .ok (.aload_n 0, 1) := by decide +kernel
theorem d_D_cached_1 : decode b_D_cached 1 = .ok (.iload_n 1, 1) := by decide +kernel
theorem d_D_cached_2 : decode b_D_cached 2 = .ok (.iconst 0, 1) := by decide +kernel
theorem d_D_cached_3 : decode b_D_cached 3 = .ok (.aload_n 0, 1) := by decide +kernel
theorem d_D_cached_4 : decode b_D_cached 4 = .ok (.getfield 100, 3) := by decide +kernel
theorem d_D_cached_7 : decode b_D_cached 7 = .ok (.iconst 1, 1) := by decide +kernel
theorem d_D_cached_8 : decode b_D_cached 8 = .ok (.isub, 1) := by decide +kernel
theorem d_D_cached_9 : decode b_D_cached 9 = .ok (.invokestatic 103, 3) := by decide +kernel
theorem d_D_cached_12 : decode b_D_cached 12 = .ok (.ifCond .eq 7, 3) := by decide +kernel
theorem d_D_cached_15 : decode b_D_cached 15 = .ok (.iconst 0, 1) := by decide +kernel
theorem d_D_cached_16 : decode b_D_cached 16 = .ok (.goto 4, 3) := by decide +kernel
theorem d_D_cached_19 : decode b_D_cached 19 = .ok (.iconst 1, 1) := by decide +kernel
theorem d_D_cached_20 : decode b_D_cached 20 = .ok (.putfield 96, 3) := by decide +kernel
theorem d_D_cached_23 : decode b_D_cached 23 = .ok (.aload_n 0, 1) := by decide +kernel
theorem d_D_cached_24 : decode b_D_cached 24 = .ok (.getfield 96, 3) := by decide +kernel
theorem d_D_cached_27 : decode b_D_cached 27 = .ok (.ifCond .le 7, 3) := by decide +kernel
theorem d_D_cached_30 : decode b_D_cached 30 = .ok (.iconst 0, 1) := by decide +kernel
theorem d_D_cached_31 : decode b_D_cached 31 = .ok (.goto 14, 3) := by decide +kernel
theorem d_D_cached_34 : decode b_D_cached 34 = .ok (.aload_n 0, 1) := by decide +kernel
theorem d_D_cached_35 : decode b_D_cached 35 = .ok (.getfield 29, 3) := by decide +kernel
theorem d_D_cached_38 : decode b_D_cached 38 = .ok (.aload_n 0, 1) := by decide +kernel
theorem d_D_cached_39 : decode b_D_cached 39 = .ok (.getfield 48, 3) := by decide +kernel
theorem d_D_cached_42 : decode b_D_cached 42 = .ok (.iload_n 1, 1) := by decide +kernel
theorem d_D_cached_43 : decode b_D_cached 43 = .ok (.iaload, 1) := by decide +kernel
theorem d_D_cached_44 : decode b_D_cached 44 = .ok (.iaload, 1) := by decide +kernel
theorem d_D_cached_45 : decode b_D_cached 45 = .ok (.ireturn, 1) := by decide +kernel
theorem d_D_count_0 : decode b_D_count 0 = .ok (.aload_n 0, 1) := by decide +kernel
theorem d_D_count_1 : decode b_D_count 1 = .ok (.iconst 0, 1) := by decide +kernel
theorem d_D_count_2 : decode b_D_count 2 = .ok (.putfield 96, 3) := by decide +kernel
theorem d_D_count_5 : decode b_D_count 5 = .ok (.iload_n 1, 1) := by decide +kernel
theorem d_D_count_6 : decode b_D_count 6 = .ok (.ifCond .lt 16, 3) := by decide +kernel
theorem d_D_count_9 : decode b_D_count 9 = .ok (.iload_n 1, 1) := by decide +kernel
theorem d_D_count_10 : decode b_D_count 10 = .ok (.bipush 7, 2) := by decide +kernel
theorem d_D_count_12 : decode b_D_count 12 = .ok (.if_icmp .ge 10, 3) := by decide +kernel
theorem d_D_count_15 : decode b_D_count 15 = .ok (.aload_n 0, 1) := by decide +kernel
theorem d_D_count_16 : decode b_D_count 16 = .ok (.getfield 54, 3) := by decide +kernel
theorem d_D_count_19 : decode b_D_count 19 = .ok (.iload_n 1, 1) := by decide +kernel
theorem d_D_count_20 : decode b_D_count 20 = .ok (.iaload, 1) := by decide +kernel
theorem d_D_count_21 : decode b_D_count 21 = .ok (.ireturn, 1) := by decide +kernel
theorem d_D_count_22 : decode b_D_count 22 = .ok (.iload_n 1, 1) := by decide +kernel
theorem d_D_count_23 : decode b_D_count 23 = .ok (.bipush 7, 2) := by decide +kernel
theorem d_D_count_25 : decode b_D_count 25 = .ok (.if_icmp .ne 10, 3) := by decide +kernel
theorem d_D_count_28 : decode b_D_count 28 = .ok (.aload_n 0, 1) := by decide +kernel
theorem d_D_count_29 : decode b_D_count 29 = .ok (.getfield 100, 3) := by decide +kernel
theorem d_D_count_32 : decode b_D_count 32 = .ok (.goto 40, 3) := by decide +kernel
theorem d_D_count_35 : decode b_D_count 35 = .ok (.iload_n 1, 1) := by decide +kernel
theorem d_D_count_36 : decode b_D_count 36 = .ok (.bipush 8, 2) := by decide +kernel
theorem d_D_count_38 : decode b_D_count 38 = .ok (.if_icmp .eq 9, 3) := by decide +kernel
theorem d_D_count_41 : decode b_D_count 41 = .ok (.iload_n 1, 1) := by decide +kernel
theorem d_D_count_42 : decode b_D_count 42 = .ok (.bipush 9, 2) := by decide +kernel
theorem d_D_count_44 : decode b_D_count 44 = .ok (.if_icmp .ne 14, 3) := by decide +kernel
theorem d_D_count_47 : decode b_D_count 47 = .ok (.aload_n 0, 1) := by decide +kernel
theorem d_D_count_48 : decode b_D_count 48 = .ok (.iload_n 1, 1) := by decide +kernel
theorem d_D_count_49 : decode b_D_count 49 = .ok (.bipush 8, 2) := by decide +kernel
theorem d_D_count_51 : decode b_D_count 51 = .ok (.isub, 1) := by decide +kernel
theorem d_D_count_52 : decode b_D_count 52 = .ok (.invokevirtual 182, 3) := by decide +kernel
theorem d_D_count_55 : decode b_D_count 55 = .ok (.goto 17, 3) := by decide +kernel
theorem d_D_count_58 : decode b_D_count 58 = .ok (.iload_n 1, 1) := by decide +kernel
theorem d_D_count_59 : decode b_D_count 59 = .ok (.bipush 10, 2) := by decide +kernel
theorem d_D_count_61 : decode b_D_count 61 = .ok (.if_icmp .ne 10, 3) := by decide +kernel
theorem d_D_count_64 : decode b_D_count 64 = .ok (.aload_n 0, 1) := by decide +kernel
theorem d_D_count_65 : decode b_D_count 65 = .ok (.getfield 121, 3) := by decide +kernel
theorem d_D_count_68 : decode b_D_count 68 = .ok (.goto 4, 3) := by decide +kernel
theorem d_D_count_71 : decode b_D_count 71 = .ok (.iconst (-1), 1) := by decide +kernel
theorem d_D_count_72 : decode b_D_count 72 = .ok (.ireturn, 1) := by decide +kernel
theorem d_L_input_0 : decode b_L_input 0 = .ok (.aload_n 0, 1) := by decide +kernel
theorem d_L_input_1 : decode b_L_input 1 = .ok (.iload_n 1, 1) := by decide +kernel
theorem d_L_input_2 : decode b_L_input 2 = .ok (.lload_n 2, 1) := by decide +kernel
theorem d_L_input_3 : decode b_L_input 3 = .ok (.invokevirtual 7, 3) := by decide +kernel
theorem d_L_input_6 : decode b_L_input 6 = .ok (.goto 7, 3) := by decide +kernel
theorem d_L_input_9 : decode b_L_input 9 = .ok (.astore 4, 2) := by decide +kernel
theorem d_L_input_11 : decode b_L_input 11 = .ok (.iconst 1, 1) := by decide +kernel
theorem d_L_input_12 : decode b_L_input 12 = .ok (.ireturn, 1) := by decide +kernel
theorem d_L_input_13 : decode b_L_input 13 = .ok (.iconst 0, 1) := by decide +kernel
theorem d_L_input_14 : decode b_L_input 14 = .ok (.ireturn, 1) := by decide +kernel
theorem d_L_task_0 : decode b_L_task 0 = .ok (.aload_n 0, 1) := by decide +kernel
theorem d_L_task_1 : decode b_L_task 1 = .ok (.iload_n 1, 1) := by decide +kernel
theorem d_L_task_2 : decode b_L_task 2 = .ok (.iload_n 2, 1) := by decide +kernel
theorem d_L_task_3 : decode b_L_task 3 = .ok (.iload_n 3, 1) := by decide +kernel
theorem d_L_task_4 : decode b_L_task 4 = .ok (.iload 4, 2) := by decide +kernel
theorem d_L_task_6 : decode b_L_task 6 = .ok (.iload 5, 2) := by decide +kernel
theorem d_L_task_8 : decode b_L_task 8 = .ok (.invokevirtual 15, 3) := by decide +kernel
theorem d_L_task_11 : decode b_L_task 11 = .ok (.goto 7, 3) := by decide +kernel
theorem d_L_task_14 : decode b_L_task 14 = .ok (.astore 6, 2) := by decide +kernel
theorem d_L_task_16 : decode b_L_task 16 = .ok (.iconst 1, 1) := by decide +kernel
theorem d_L_task_17 : decode b_L_task 17 = .ok (.ireturn, 1) := by decide +kernel
theorem d_L_task_18 : decode b_L_task 18 = .ok (.iconst 0, 1) := by decide +kernel
theorem d_L_task_19 : decode b_L_task 19 = .ok (.ireturn, 1) := by decide +kernel
theorem d_L_remove_0 : decode b_L_remove 0 = .ok (.aload_n 0, 1) := by decide +kernel
theorem d_L_remove_1 : decode b_L_remove 1 = .ok (.iload_n 1, 1) := by decide +kernel
theorem d_L_remove_2 : decode b_L_remove 2 = .ok (.invokevirtual 19, 3) := by decide +kernel
theorem d_L_remove_5 : decode b_L_remove 5 = .ok (.goto 9, 3) := by decide +kernel
theorem d_L_remove_8 : decode b_L_remove 8 = .ok (.astore_n 2, 1) := by decide +kernel
theorem d_L_remove_9 : decode b_L_remove 9 = .ok (.iconst 1, 1) := by decide +kernel
theorem d_L_remove_10 : decode b_L_remove 10 = .ok (.ireturn, 1) := by decide +kernel
theorem d_L_remove_11 : decode b_L_remove 11 = .ok (.astore_n 2, 1) := by decide +kernel
theorem d_L_remove_12 : decode b_L_remove 12 = .ok (.iconst 2, 1) := by decide +kernel
theorem d_L_remove_13 : decode b_L_remove 13 = .ok (.ireturn, 1) := by decide +kernel
theorem d_L_remove_14 : decode b_L_remove 14 = .ok (.iconst 0, 1) := by decide +kernel
theorem d_L_remove_15 : decode b_L_remove 15 = .ok (.ireturn, 1) := by decide +kernel
theorem d_L_build_0 : decode b_L_build 0 = .ok (.aload_n 3, 1) := by decide +kernel
theorem d_L_build_1 : decode b_L_build 1 = .ok (.iconst 0, 1) := by decide +kernel
theorem d_L_build_2 : decode b_L_build 2 = .ok (.aload_n 0, 1) := by decide +kernel
theorem d_L_build_3 : decode b_L_build 3 = .ok (.iload_n 1, 1) := by decide +kernel
theorem d_L_build_4 : decode b_L_build 4 = .ok (.iload_n 2, 1) := by decide +kernel
theorem d_L_build_5 : decode b_L_build 5 = .ok (.invokevirtual 25, 3) := by decide +kernel
theorem d_L_build_8 : decode b_L_build 8 = .ok (.lastore, 1) := by decide +kernel
theorem d_L_build_9 : decode b_L_build 9 = .ok (.goto 19, 3) := by decide +kernel
theorem d_L_build_12 : decode b_L_build 12 = .ok (.astore 4, 2) := by decide +kernel
theorem d_L_build_14 : decode b_L_build 14 = .ok (.iconst 1, 1) := by decide +kernel
theorem d_L_build_15 : decode b_L_build 15 = .ok (.ireturn, 1) := by decide +kernel
theorem d_L_build_16 : decode b_L_build 16 = .ok (.astore 4, 2) := by decide +kernel
theorem d_L_build_18 : decode b_L_build 18 = .ok (.iconst 2, 1) := by decide +kernel
theorem d_L_build_19 : decode b_L_build 19 = .ok (.ireturn, 1) := by decide +kernel
theorem d_L_build_20 : decode b_L_build 20 = .ok (.astore 4, 2) := by decide +kernel
theorem d_L_build_22 : decode b_L_build 22 = .ok (.iconst 3, 1) := by decide +kernel
theorem d_L_build_23 : decode b_L_build 23 = .ok (.ireturn, 1) := by decide +kernel
theorem d_L_build_24 : decode b_L_build 24 = .ok (.astore 4, 2) := by decide +kernel
theorem d_L_build_26 : decode b_L_build 26 = .ok (.iconst 4, 1) := by decide +kernel
theorem d_L_build_27 : decode b_L_build 27 = .ok (.ireturn, 1) := by decide +kernel
theorem d_L_build_28 : decode b_L_build 28 = .ok (.iconst 0, 1) := by decide +kernel
theorem d_L_build_29 : decode b_L_build 29 = .ok (.ireturn, 1) := by decide +kernel
theorem d_L_forget_0 : decode b_L_forget 0 = .ok (.aload_n 2, 1) := by decide +kernel
theorem d_L_forget_1 : decode b_L_forget 1 = .ok (.iconst 0, 1) := by decide +kernel
theorem d_L_forget_2 : decode b_L_forget 2 = .ok (.aload_n 0, 1) := by decide +kernel
theorem d_L_forget_3 : decode b_L_forget 3 = .ok (.iload_n 1, 1) := by decide +kernel
theorem d_L_forget_4 : decode b_L_forget 4 = .ok (.invokevirtual 33, 3) := by decide +kernel
theorem d_L_forget_7 : decode b_L_forget 7 = .ok (.i2l, 1) := by decide +kernel
theorem d_L_forget_8 : decode b_L_forget 8 = .ok (.lastore, 1) := by decide +kernel
theorem d_L_forget_9 : decode b_L_forget 9 = .ok (.goto 6, 3) := by decide +kernel
theorem d_L_forget_12 : decode b_L_forget 12 = .ok (.astore_n 3, 1) := by decide +kernel
theorem d_L_forget_13 : decode b_L_forget 13 = .ok (.iconst 1, 1) := by decide +kernel
theorem d_L_forget_14 : decode b_L_forget 14 = .ok (.ireturn, 1) := by decide +kernel
theorem d_L_forget_15 : decode b_L_forget 15 = .ok (.iconst 0, 1) := by decide +kernel
theorem d_L_forget_16 : decode b_L_forget 16 = .ok (.ireturn, 1) := by decide +kernel
theorem d_L_shrink_0 : decode b_L_shrink 0 = .ok (.aload_n 2, 1) := by decide +kernel
theorem d_L_shrink_1 : decode b_L_shrink 1 = .ok (.iconst 0, 1) := by decide +kernel
theorem d_L_shrink_2 : decode b_L_shrink 2 = .ok (.aload_n 0, 1) := by decide +kernel
theorem d_L_shrink_3 : decode b_L_shrink 3 = .ok (.iload_n 1, 1) := by decide +kernel
theorem d_L_shrink_4 : decode b_L_shrink 4 = .ok (.invokevirtual 37, 3) := by decide +kernel
theorem d_L_shrink_7 : decode b_L_shrink 7 = .ok (.i2l, 1) := by decide +kernel
theorem d_L_shrink_8 : decode b_L_shrink 8 = .ok (.lastore, 1) := by decide +kernel
theorem d_L_shrink_9 : decode b_L_shrink 9 = .ok (.goto 6, 3) := by decide +kernel
theorem d_L_shrink_12 : decode b_L_shrink 12 = .ok (.astore_n 3, 1) := by decide +kernel
theorem d_L_shrink_13 : decode b_L_shrink 13 = .ok (.iconst 1, 1) := by decide +kernel
theorem d_L_shrink_14 : decode b_L_shrink 14 = .ok (.ireturn, 1) := by decide +kernel
theorem d_L_shrink_15 : decode b_L_shrink 15 = .ok (.iconst 0, 1) := by decide +kernel
theorem d_L_shrink_16 : decode b_L_shrink 16 = .ok (.ireturn, 1) := by decide +kernel
theorem d_L_trace_0 : decode b_L_trace 0 = .ok (.aload 4, 2) := by decide +kernel
theorem d_L_trace_2 : decode b_L_trace 2 = .ok (.iconst 0, 1) := by decide +kernel
theorem d_L_trace_3 : decode b_L_trace 3 = .ok (.aload_n 0, 1) := by decide +kernel
theorem d_L_trace_4 : decode b_L_trace 4 = .ok (.iload_n 1, 1) := by decide +kernel
theorem d_L_trace_5 : decode b_L_trace 5 = .ok (.iload_n 2, 1) := by decide +kernel
theorem d_L_trace_6 : decode b_L_trace 6 = .ok (.iload_n 3, 1) := by decide +kernel
theorem d_L_trace_7 : decode b_L_trace 7 = .ok (.invokevirtual 40, 3) := by decide +kernel
theorem d_L_trace_10 : decode b_L_trace 10 = .ok (.i2l, 1) := by decide +kernel
theorem d_L_trace_11 : decode b_L_trace 11 = .ok (.lastore, 1) := by decide +kernel
theorem d_L_trace_12 : decode b_L_trace 12 = .ok (.goto 11, 3) := by decide +kernel
theorem d_L_trace_15 : decode b_L_trace 15 = .ok (.astore 5, 2) := by decide +kernel
theorem d_L_trace_17 : decode b_L_trace 17 = .ok (.iconst 1, 1) := by decide +kernel
theorem d_L_trace_18 : decode b_L_trace 18 = .ok (.ireturn, 1) := by decide +kernel
theorem d_L_trace_19 : decode b_L_trace 19 = .ok (.astore 5, 2) := by decide +kernel
theorem d_L_trace_21 : decode b_L_trace 21 = .ok (.iconst 2, 1) := by decide +kernel
theorem d_L_trace_22 : decode b_L_trace 22 = .ok (.ireturn, 1) := by decide +kernel
theorem d_L_trace_23 : decode b_L_trace 23 = .ok (.iconst 0, 1) := by decide +kernel
theorem d_L_trace_24 : decode b_L_trace 24 = .ok (.ireturn, 1) := by decide +kernel
theorem d_L_traced_0 : decode b_L_traced 0 = .ok (.aload 4, 2) := by decide +kernel
theorem d_L_traced_2 : decode b_L_traced 2 = .ok (.iconst 0, 1) := by decide +kernel
theorem d_L_traced_3 : decode b_L_traced 3 = .ok (.aload_n 0, 1) := by decide +kernel
theorem d_L_traced_4 : decode b_L_traced 4 = .ok (.iload_n 1, 1) := by decide +kernel
theorem d_L_traced_5 : decode b_L_traced 5 = .ok (.iload_n 2, 1) := by decide +kernel
theorem d_L_traced_6 : decode b_L_traced 6 = .ok (.iload_n 3, 1) := by decide +kernel
theorem d_L_traced_7 : decode b_L_traced 7 = .ok (.invokevirtual 44, 3) := by decide +kernel
theorem d_L_traced_10 : decode b_L_traced 10 = .ok (.lastore, 1) := by decide +kernel
theorem d_L_traced_11 : decode b_L_traced 11 = .ok (.goto 11, 3) := by decide +kernel
theorem d_L_traced_14 : decode b_L_traced 14 = .ok (.astore 5, 2) := by decide +kernel
theorem d_L_traced_16 : decode b_L_traced 16 = .ok (.iconst 1, 1) := by decide +kernel
theorem d_L_traced_17 : decode b_L_traced 17 = .ok (.ireturn, 1) := by decide +kernel
theorem d_L_traced_18 : decode b_L_traced 18 = .ok (.astore 5, 2) := by decide +kernel
theorem d_L_traced_20 : decode b_L_traced 20 = .ok (.iconst 2, 1) := by decide +kernel
theorem d_L_traced_21 : decode b_L_traced 21 = .ok (.ireturn, 1) := by decide +kernel
theorem d_L_traced_22 : decode b_L_traced 22 = .ok (.iconst 0, 1) := by decide +kernel
theorem d_L_traced_23 : decode b_L_traced 23 = .ok (.ireturn, 1) := by decide +kernel
theorem d_L_stale_0 : decode b_L_stale 0 = .ok (.aload_n 3, 1) := by decide +kernel
theorem d_L_stale_1 : decode b_L_stale 1 = .ok (.iconst 0, 1) := by decide +kernel
theorem d_L_stale_2 : decode b_L_stale 2 = .ok (.aload_n 0, 1) := by decide +kernel
theorem d_L_stale_3 : decode b_L_stale 3 = .ok (.iload_n 1, 1) := by decide +kernel
theorem d_L_stale_4 : decode b_L_stale 4 = .ok (.iload_n 2, 1) := by decide +kernel
theorem d_L_stale_5 : decode b_L_stale 5 = .ok (.invokevirtual 48, 3) := by decide +kernel
theorem d_L_stale_8 : decode b_L_stale 8 = .ok (.ifCond .eq 7, 3) := by decide +kernel
theorem d_L_stale_11 : decode b_L_stale 11 = .ok (.lconst 1, 1) := by decide +kernel
theorem d_L_stale_12 : decode b_L_stale 12 = .ok (.goto 4, 3) := by decide +kernel
theorem d_L_stale_15 : decode b_L_stale 15 = .ok (.lconst 0, 1) := by decide +kernel
theorem d_L_stale_16 : decode b_L_stale 16 = .ok (.lastore, 1) := by decide +kernel
theorem d_L_stale_17 : decode b_L_stale 17 = .ok (.goto 19, 3) := by decide +kernel
theorem d_L_stale_20 : decode b_L_stale 20 = .ok (.astore 4, 2) := by decide +kernel
theorem d_L_stale_22 : decode b_L_stale 22 = .ok (.iconst 1, 1) := by decide +kernel
theorem d_L_stale_23 : decode b_L_stale 23 = .ok (.ireturn, 1) := by decide +kernel
theorem d_L_stale_24 : decode b_L_stale 24 = .ok (.astore 4, 2) := by decide +kernel
theorem d_L_stale_26 : decode b_L_stale 26 = .ok (.iconst 2, 1) := by decide +kernel
theorem d_L_stale_27 : decode b_L_stale 27 = .ok (.ireturn, 1) := by decide +kernel
theorem d_L_stale_28 : decode b_L_stale 28 = .ok (.astore 4, 2) := by decide +kernel
theorem d_L_stale_30 : decode b_L_stale 30 = .ok (.iconst 3, 1) := by decide +kernel
theorem d_L_stale_31 : decode b_L_stale 31 = .ok (.ireturn, 1) := by decide +kernel
theorem d_L_stale_32 : decode b_L_stale 32 = .ok (.astore 4, 2) := by decide +kernel
theorem d_L_stale_34 : decode b_L_stale 34 = .ok (.iconst 4, 1) := by decide +kernel
theorem d_L_stale_35 : decode b_L_stale 35 = .ok (.ireturn, 1) := by decide +kernel
theorem d_L_stale_36 : decode b_L_stale 36 = .ok (.iconst 0, 1) := by decide +kernel
theorem d_L_stale_37 : decode b_L_stale 37 = .ok (.ireturn, 1) := by decide +kernel
theorem d_L_cached_0 : decode b_L_cached 0 = .ok (.aload_n 2, 1) := by decide +kernel
theorem d_L_cached_1 : decode b_L_cached 1 = .ok (.iconst 0, 1) := by decide +kernel
theorem d_L_cached_2 : decode b_L_cached 2 = .ok (.aload_n 0, 1) := by decide +kernel
theorem d_L_cached_3 : decode b_L_cached 3 = .ok (.iload_n 1, 1) := by decide +kernel
theorem d_L_cached_4 : decode b_L_cached 4 = .ok (.invokevirtual 52, 3) := by decide +kernel
theorem d_L_cached_7 : decode b_L_cached 7 = .ok (.i2l, 1) := by decide +kernel
theorem d_L_cached_8 : decode b_L_cached 8 = .ok (.lastore, 1) := by decide +kernel
theorem d_L_cached_9 : decode b_L_cached 9 = .ok (.goto 6, 3) := by decide +kernel
theorem d_L_cached_12 : decode b_L_cached 12 = .ok (.astore_n 3, 1) := by decide +kernel
theorem d_L_cached_13 : decode b_L_cached 13 = .ok (.iconst 1, 1) := by decide +kernel
theorem d_L_cached_14 : decode b_L_cached 14 = .ok (.ireturn, 1) := by decide +kernel
theorem d_L_cached_15 : decode b_L_cached 15 = .ok (.iconst 0, 1) := by decide +kernel
theorem d_L_cached_16 : decode b_L_cached 16 = .ok (.ireturn, 1) := by decide +kernel
theorem d_L_law_0 : decode b_L_law 0 = .ok (.new 8, 3) := by decide +kernel
theorem d_L_law_3 : decode b_L_law 3 = .ok (.dup, 1) := by decide +kernel
theorem d_L_law_4 : decode b_L_law 4 = .ok (.invokespecial 55, 3) := by decide +kernel
theorem d_L_law_7 : decode b_L_law 7 = .ok (.astore_n 1, 1) := by decide +kernel
theorem d_L_law_8 : decode b_L_law 8 = .ok (.new 56, 3) := by decide +kernel
theorem d_L_law_11 : decode b_L_law 11 = .ok (.dup, 1) := by decide +kernel
theorem d_L_law_12 : decode b_L_law 12 = .ok (.invokespecial 58, 3) := by decide +kernel
theorem d_L_law_15 : decode b_L_law 15 = .ok (.astore_n 2, 1) := by decide +kernel
theorem d_L_law_16 : decode b_L_law 16 = .ok (.iconst 1, 1) := by decide +kernel
theorem d_L_law_17 : decode b_L_law 17 = .ok (.newarray .long, 2) := by decide +kernel
theorem d_L_law_19 : decode b_L_law 19 = .ok (.astore_n 3, 1) := by decide +kernel
theorem d_L_law_20 : decode b_L_law 20 = .ok (.iconst 0, 1) := by decide +kernel
theorem d_L_law_21 : decode b_L_law 21 = .ok (.istore 4, 2) := by decide +kernel
theorem d_L_law_23 : decode b_L_law 23 = .ok (.iload 4, 2) := by decide +kernel
theorem d_L_law_25 : decode b_L_law 25 = .ok (.aload_n 0, 1) := by decide +kernel
theorem d_L_law_26 : decode b_L_law 26 = .ok (.arraylength, 1) := by decide +kernel
theorem d_L_law_27 : decode b_L_law 27 = .ok (.bipush 6, 2) := by decide +kernel
theorem d_L_law_29 : decode b_L_law 29 = .ok (.isub, 1) := by decide +kernel
theorem d_L_law_30 : decode b_L_law 30 = .ok (.if_icmp .gt 770, 3) := by decide +kernel
theorem d_L_law_33 : decode b_L_law 33 = .ok (.aload_n 0, 1) := by decide +kernel
theorem d_L_law_34 : decode b_L_law 34 = .ok (.iload 4, 2) := by decide +kernel
theorem d_L_law_36 : decode b_L_law 36 = .ok (.iaload, 1) := by decide +kernel
theorem d_L_law_37 : decode b_L_law 37 = .ok (.bipush 15, 2) := by decide +kernel
theorem d_L_law_39 : decode b_L_law 39 = .ok (.iand, 1) := by decide +kernel
theorem d_L_law_40 : decode b_L_law 40 = .ok (.tableswitch 754 0 10 #[60, 140, 224, 260, 327, 383, 439, 519, 598, 673, 729], 60) := by decide +kernel
theorem d_L_law_100 : decode b_L_law 100 = .ok (.aload_n 1, 1) := by decide +kernel
theorem d_L_law_101 : decode b_L_law 101 = .ok (.aload_n 0, 1) := by decide +kernel
theorem d_L_law_102 : decode b_L_law 102 = .ok (.iload 4, 2) := by decide +kernel
theorem d_L_law_104 : decode b_L_law 104 = .ok (.iconst 1, 1) := by decide +kernel
theorem d_L_law_105 : decode b_L_law 105 = .ok (.iadd, 1) := by decide +kernel
theorem d_L_law_106 : decode b_L_law 106 = .ok (.iaload, 1) := by decide +kernel
theorem d_L_law_107 : decode b_L_law 107 = .ok (.aload_n 0, 1) := by decide +kernel
theorem d_L_law_108 : decode b_L_law 108 = .ok (.iload 4, 2) := by decide +kernel
theorem d_L_law_110 : decode b_L_law 110 = .ok (.iconst 2, 1) := by decide +kernel
theorem d_L_law_111 : decode b_L_law 111 = .ok (.iadd, 1) := by decide +kernel
theorem d_L_law_112 : decode b_L_law 112 = .ok (.iaload, 1) := by decide +kernel
theorem d_L_law_113 : decode b_L_law 113 = .ok (.i2l, 1) := by decide +kernel
theorem d_L_law_114 : decode b_L_law 114 = .ok (.bipush 32, 2) := by decide +kernel
theorem d_L_law_116 : decode b_L_law 116 = .ok (.lshl, 1) := by decide +kernel
theorem d_L_law_117 : decode b_L_law 117 = .ok (.aload_n 0, 1) := by decide +kernel
theorem d_L_law_118 : decode b_L_law 118 = .ok (.iload 4, 2) := by decide +kernel
theorem d_L_law_120 : decode b_L_law 120 = .ok (.iconst 3, 1) := by decide +kernel
theorem d_L_law_121 : decode b_L_law 121 = .ok (.iadd, 1) := by decide +kernel
theorem d_L_law_122 : decode b_L_law 122 = .ok (.iaload, 1) := by decide +kernel
theorem d_L_law_123 : decode b_L_law 123 = .ok (.i2l, 1) := by decide +kernel
theorem d_L_law_124 : decode b_L_law 124 = .ok (.ldc2_w 59, 3) := by decide +kernel
theorem d_L_law_127 : decode b_L_law 127 = .ok (.land, 1) := by decide +kernel
theorem d_L_law_128 : decode b_L_law 128 = .ok (.lor, 1) := by decide +kernel
theorem d_L_law_129 : decode b_L_law 129 = .ok (.invokestatic 61, 3) := by decide +kernel
end
section
theorem d_L_law_132 : decode b_L_law 132 = .ok (.istore 5, 2) := by decide +kernel
theorem d_L_law_134 : decode b_L_law 134 = .ok (.aload_n 2, 1) := by decide +kernel
theorem d_L_law_135 : decode b_L_law 135 = .ok (.aload_n 0, 1) := by decide +kernel
theorem d_L_law_136 : decode b_L_law 136 = .ok (.iload 4, 2) := by decide +kernel
theorem d_L_law_138 : decode b_L_law 138 = .ok (.iconst 1, 1) := by decide +kernel
theorem d_L_law_139 : decode b_L_law 139 = .ok (.iadd, 1) := by decide +kernel
theorem d_L_law_140 : decode b_L_law 140 = .ok (.iaload, 1) := by decide +kernel
theorem d_L_law_141 : decode b_L_law 141 = .ok (.aload_n 0, 1) := by decide +kernel
theorem d_L_law_142 : decode b_L_law 142 = .ok (.iload 4, 2) := by decide +kernel
theorem d_L_law_144 : decode b_L_law 144 = .ok (.iconst 2, 1) := by decide +kernel
theorem d_L_law_145 : decode b_L_law 145 = .ok (.iadd, 1) := by decide +kernel
theorem d_L_law_146 : decode b_L_law 146 = .ok (.iaload, 1) := by decide +kernel
theorem d_L_law_147 : decode b_L_law 147 = .ok (.i2l, 1) := by decide +kernel
theorem d_L_law_148 : decode b_L_law 148 = .ok (.bipush 32, 2) := by decide +kernel
theorem d_L_law_150 : decode b_L_law 150 = .ok (.lshl, 1) := by decide +kernel
theorem d_L_law_151 : decode b_L_law 151 = .ok (.aload_n 0, 1) := by decide +kernel
theorem d_L_law_152 : decode b_L_law 152 = .ok (.iload 4, 2) := by decide +kernel
theorem d_L_law_154 : decode b_L_law 154 = .ok (.iconst 3, 1) := by decide +kernel
theorem d_L_law_155 : decode b_L_law 155 = .ok (.iadd, 1) := by decide +kernel
theorem d_L_law_156 : decode b_L_law 156 = .ok (.iaload, 1) := by decide +kernel
theorem d_L_law_157 : decode b_L_law 157 = .ok (.i2l, 1) := by decide +kernel
theorem d_L_law_158 : decode b_L_law 158 = .ok (.ldc2_w 59, 3) := by decide +kernel
theorem d_L_law_161 : decode b_L_law 161 = .ok (.land, 1) := by decide +kernel
theorem d_L_law_162 : decode b_L_law 162 = .ok (.lor, 1) := by decide +kernel
theorem d_L_law_163 : decode b_L_law 163 = .ok (.invokevirtual 66, 3) := by decide +kernel
theorem d_L_law_166 : decode b_L_law 166 = .ok (.aload_n 2, 1) := by decide +kernel
theorem d_L_law_167 : decode b_L_law 167 = .ok (.invokevirtual 67, 3) := by decide +kernel
theorem d_L_law_170 : decode b_L_law 170 = .ok (.iload 5, 2) := by decide +kernel
theorem d_L_law_172 : decode b_L_law 172 = .ok (.if_icmp .eq 5, 3) := by decide +kernel
theorem d_L_law_175 : decode b_L_law 175 = .ok (.iconst 0, 1) := by decide +kernel
theorem d_L_law_176 : decode b_L_law 176 = .ok (.ireturn, 1) := by decide +kernel
theorem d_L_law_177 : decode b_L_law 177 = .ok (.goto 617, 3) := by decide +kernel
theorem d_L_law_180 : decode b_L_law 180 = .ok (.aload_n 1, 1) := by decide +kernel
theorem d_L_law_181 : decode b_L_law 181 = .ok (.aload_n 0, 1) := by decide +kernel
theorem d_L_law_182 : decode b_L_law 182 = .ok (.iload 4, 2) := by decide +kernel
theorem d_L_law_184 : decode b_L_law 184 = .ok (.iconst 1, 1) := by decide +kernel
theorem d_L_law_185 : decode b_L_law 185 = .ok (.iadd, 1) := by decide +kernel
theorem d_L_law_186 : decode b_L_law 186 = .ok (.iaload, 1) := by decide +kernel
theorem d_L_law_187 : decode b_L_law 187 = .ok (.aload_n 0, 1) := by decide +kernel
theorem d_L_law_188 : decode b_L_law 188 = .ok (.iload 4, 2) := by decide +kernel
theorem d_L_law_190 : decode b_L_law 190 = .ok (.iconst 2, 1) := by decide +kernel
theorem d_L_law_191 : decode b_L_law 191 = .ok (.iadd, 1) := by decide +kernel
theorem d_L_law_192 : decode b_L_law 192 = .ok (.iaload, 1) := by decide +kernel
theorem d_L_law_193 : decode b_L_law 193 = .ok (.aload_n 0, 1) := by decide +kernel
theorem d_L_law_194 : decode b_L_law 194 = .ok (.iload 4, 2) := by decide +kernel
theorem d_L_law_196 : decode b_L_law 196 = .ok (.iconst 3, 1) := by decide +kernel
theorem d_L_law_197 : decode b_L_law 197 = .ok (.iadd, 1) := by decide +kernel
theorem d_L_law_198 : decode b_L_law 198 = .ok (.iaload, 1) := by decide +kernel
theorem d_L_law_199 : decode b_L_law 199 = .ok (.aload_n 0, 1) := by decide +kernel
theorem d_L_law_200 : decode b_L_law 200 = .ok (.iload 4, 2) := by decide +kernel
theorem d_L_law_202 : decode b_L_law 202 = .ok (.iconst 4, 1) := by decide +kernel
theorem d_L_law_203 : decode b_L_law 203 = .ok (.iadd, 1) := by decide +kernel
theorem d_L_law_204 : decode b_L_law 204 = .ok (.iaload, 1) := by decide +kernel
theorem d_L_law_205 : decode b_L_law 205 = .ok (.aload_n 0, 1) := by decide +kernel
theorem d_L_law_206 : decode b_L_law 206 = .ok (.iload 4, 2) := by decide +kernel
theorem d_L_law_208 : decode b_L_law 208 = .ok (.iconst 5, 1) := by decide +kernel
theorem d_L_law_209 : decode b_L_law 209 = .ok (.iadd, 1) := by decide +kernel
theorem d_L_law_210 : decode b_L_law 210 = .ok (.iaload, 1) := by decide +kernel
theorem d_L_law_211 : decode b_L_law 211 = .ok (.invokestatic 71, 3) := by decide +kernel
theorem d_L_law_214 : decode b_L_law 214 = .ok (.istore 5, 2) := by decide +kernel
theorem d_L_law_216 : decode b_L_law 216 = .ok (.aload_n 2, 1) := by decide +kernel
theorem d_L_law_217 : decode b_L_law 217 = .ok (.aload_n 0, 1) := by decide +kernel
theorem d_L_law_218 : decode b_L_law 218 = .ok (.iload 4, 2) := by decide +kernel
theorem d_L_law_220 : decode b_L_law 220 = .ok (.iconst 1, 1) := by decide +kernel
theorem d_L_law_221 : decode b_L_law 221 = .ok (.iadd, 1) := by decide +kernel
theorem d_L_law_222 : decode b_L_law 222 = .ok (.iaload, 1) := by decide +kernel
theorem d_L_law_223 : decode b_L_law 223 = .ok (.aload_n 0, 1) := by decide +kernel
theorem d_L_law_224 : decode b_L_law 224 = .ok (.iload 4, 2) := by decide +kernel
theorem d_L_law_226 : decode b_L_law 226 = .ok (.iconst 2, 1) := by decide +kernel
theorem d_L_law_227 : decode b_L_law 227 = .ok (.iadd, 1) := by decide +kernel
theorem d_L_law_228 : decode b_L_law 228 = .ok (.iaload, 1) := by decide +kernel
theorem d_L_law_229 : decode b_L_law 229 = .ok (.aload_n 0, 1) := by decide +kernel
theorem d_L_law_230 : decode b_L_law 230 = .ok (.iload 4, 2) := by decide +kernel
theorem d_L_law_232 : decode b_L_law 232 = .ok (.iconst 3, 1) := by decide +kernel
theorem d_L_law_233 : decode b_L_law 233 = .ok (.iadd, 1) := by decide +kernel
theorem d_L_law_234 : decode b_L_law 234 = .ok (.iaload, 1) := by decide +kernel
theorem d_L_law_235 : decode b_L_law 235 = .ok (.aload_n 0, 1) := by decide +kernel
theorem d_L_law_236 : decode b_L_law 236 = .ok (.iload 4, 2) := by decide +kernel
theorem d_L_law_238 : decode b_L_law 238 = .ok (.iconst 4, 1) := by decide +kernel
theorem d_L_law_239 : decode b_L_law 239 = .ok (.iadd, 1) := by decide +kernel
theorem d_L_law_240 : decode b_L_law 240 = .ok (.iaload, 1) := by decide +kernel
theorem d_L_law_241 : decode b_L_law 241 = .ok (.aload_n 0, 1) := by decide +kernel
theorem d_L_law_242 : decode b_L_law 242 = .ok (.iload 4, 2) := by decide +kernel
theorem d_L_law_244 : decode b_L_law 244 = .ok (.iconst 5, 1) := by decide +kernel
theorem d_L_law_245 : decode b_L_law 245 = .ok (.iadd, 1) := by decide +kernel
theorem d_L_law_246 : decode b_L_law 246 = .ok (.iaload, 1) := by decide +kernel
theorem d_L_law_247 : decode b_L_law 247 = .ok (.invokevirtual 74, 3) := by decide +kernel
theorem d_L_law_250 : decode b_L_law 250 = .ok (.aload_n 2, 1) := by decide +kernel
theorem d_L_law_251 : decode b_L_law 251 = .ok (.invokevirtual 67, 3) := by decide +kernel
theorem d_L_law_254 : decode b_L_law 254 = .ok (.iload 5, 2) := by decide +kernel
theorem d_L_law_256 : decode b_L_law 256 = .ok (.if_icmp .eq 5, 3) := by decide +kernel
theorem d_L_law_259 : decode b_L_law 259 = .ok (.iconst 0, 1) := by decide +kernel
theorem d_L_law_260 : decode b_L_law 260 = .ok (.ireturn, 1) := by decide +kernel
theorem d_L_law_261 : decode b_L_law 261 = .ok (.goto 533, 3) := by decide +kernel
theorem d_L_law_264 : decode b_L_law 264 = .ok (.aload_n 1, 1) := by decide +kernel
theorem d_L_law_265 : decode b_L_law 265 = .ok (.aload_n 0, 1) := by decide +kernel
theorem d_L_law_266 : decode b_L_law 266 = .ok (.iload 4, 2) := by decide +kernel
theorem d_L_law_268 : decode b_L_law 268 = .ok (.iconst 1, 1) := by decide +kernel
theorem d_L_law_269 : decode b_L_law 269 = .ok (.iadd, 1) := by decide +kernel
theorem d_L_law_270 : decode b_L_law 270 = .ok (.iaload, 1) := by decide +kernel
theorem d_L_law_271 : decode b_L_law 271 = .ok (.invokestatic 75, 3) := by decide +kernel
theorem d_L_law_274 : decode b_L_law 274 = .ok (.istore 5, 2) := by decide +kernel
theorem d_L_law_276 : decode b_L_law 276 = .ok (.aload_n 2, 1) := by decide +kernel
theorem d_L_law_277 : decode b_L_law 277 = .ok (.aload_n 0, 1) := by decide +kernel
theorem d_L_law_278 : decode b_L_law 278 = .ok (.iload 4, 2) := by decide +kernel
theorem d_L_law_280 : decode b_L_law 280 = .ok (.iconst 1, 1) := by decide +kernel
theorem d_L_law_281 : decode b_L_law 281 = .ok (.iadd, 1) := by decide +kernel
theorem d_L_law_282 : decode b_L_law 282 = .ok (.iaload, 1) := by decide +kernel
theorem d_L_law_283 : decode b_L_law 283 = .ok (.invokevirtual 78, 3) := by decide +kernel
theorem d_L_law_286 : decode b_L_law 286 = .ok (.aload_n 2, 1) := by decide +kernel
theorem d_L_law_287 : decode b_L_law 287 = .ok (.invokevirtual 67, 3) := by decide +kernel
theorem d_L_law_290 : decode b_L_law 290 = .ok (.iload 5, 2) := by decide +kernel
theorem d_L_law_292 : decode b_L_law 292 = .ok (.if_icmp .eq 5, 3) := by decide +kernel
theorem d_L_law_295 : decode b_L_law 295 = .ok (.iconst 0, 1) := by decide +kernel
theorem d_L_law_296 : decode b_L_law 296 = .ok (.ireturn, 1) := by decide +kernel
theorem d_L_law_297 : decode b_L_law 297 = .ok (.goto 497, 3) := by decide +kernel
theorem d_L_law_300 : decode b_L_law 300 = .ok (.aload_n 1, 1) := by decide +kernel
theorem d_L_law_301 : decode b_L_law 301 = .ok (.aload_n 0, 1) := by decide +kernel
theorem d_L_law_302 : decode b_L_law 302 = .ok (.iload 4, 2) := by decide +kernel
theorem d_L_law_304 : decode b_L_law 304 = .ok (.iconst 1, 1) := by decide +kernel
theorem d_L_law_305 : decode b_L_law 305 = .ok (.iadd, 1) := by decide +kernel
theorem d_L_law_306 : decode b_L_law 306 = .ok (.iaload, 1) := by decide +kernel
theorem d_L_law_307 : decode b_L_law 307 = .ok (.aload_n 0, 1) := by decide +kernel
theorem d_L_law_308 : decode b_L_law 308 = .ok (.iload 4, 2) := by decide +kernel
theorem d_L_law_310 : decode b_L_law 310 = .ok (.iconst 2, 1) := by decide +kernel
theorem d_L_law_311 : decode b_L_law 311 = .ok (.iadd, 1) := by decide +kernel
theorem d_L_law_312 : decode b_L_law 312 = .ok (.iaload, 1) := by decide +kernel
theorem d_L_law_313 : decode b_L_law 313 = .ok (.aload_n 3, 1) := by decide +kernel
theorem d_L_law_314 : decode b_L_law 314 = .ok (.invokestatic 79, 3) := by decide +kernel
theorem d_L_law_317 : decode b_L_law 317 = .ok (.istore 5, 2) := by decide +kernel
theorem d_L_law_319 : decode b_L_law 319 = .ok (.aload_n 2, 1) := by decide +kernel
theorem d_L_law_320 : decode b_L_law 320 = .ok (.aload_n 0, 1) := by decide +kernel
theorem d_L_law_321 : decode b_L_law 321 = .ok (.iload 4, 2) := by decide +kernel
theorem d_L_law_323 : decode b_L_law 323 = .ok (.iconst 1, 1) := by decide +kernel
theorem d_L_law_324 : decode b_L_law 324 = .ok (.iadd, 1) := by decide +kernel
theorem d_L_law_325 : decode b_L_law 325 = .ok (.iaload, 1) := by decide +kernel
theorem d_L_law_326 : decode b_L_law 326 = .ok (.aload_n 0, 1) := by decide +kernel
theorem d_L_law_327 : decode b_L_law 327 = .ok (.iload 4, 2) := by decide +kernel
theorem d_L_law_329 : decode b_L_law 329 = .ok (.iconst 2, 1) := by decide +kernel
theorem d_L_law_330 : decode b_L_law 330 = .ok (.iadd, 1) := by decide +kernel
theorem d_L_law_331 : decode b_L_law 331 = .ok (.iaload, 1) := by decide +kernel
theorem d_L_law_332 : decode b_L_law 332 = .ok (.invokevirtual 82, 3) := by decide +kernel
theorem d_L_law_335 : decode b_L_law 335 = .ok (.lstore 6, 2) := by decide +kernel
theorem d_L_law_337 : decode b_L_law 337 = .ok (.aload_n 2, 1) := by decide +kernel
theorem d_L_law_338 : decode b_L_law 338 = .ok (.invokevirtual 67, 3) := by decide +kernel
theorem d_L_law_341 : decode b_L_law 341 = .ok (.iload 5, 2) := by decide +kernel
theorem d_L_law_343 : decode b_L_law 343 = .ok (.if_icmp .eq 5, 3) := by decide +kernel
theorem d_L_law_346 : decode b_L_law 346 = .ok (.iconst 0, 1) := by decide +kernel
theorem d_L_law_347 : decode b_L_law 347 = .ok (.ireturn, 1) := by decide +kernel
theorem d_L_law_348 : decode b_L_law 348 = .ok (.iload 5, 2) := by decide +kernel
theorem d_L_law_350 : decode b_L_law 350 = .ok (.ifCond .ne 14, 3) := by decide +kernel
theorem d_L_law_353 : decode b_L_law 353 = .ok (.aload_n 3, 1) := by decide +kernel
theorem d_L_law_354 : decode b_L_law 354 = .ok (.iconst 0, 1) := by decide +kernel
theorem d_L_law_355 : decode b_L_law 355 = .ok (.laload, 1) := by decide +kernel
theorem d_L_law_356 : decode b_L_law 356 = .ok (.lload 6, 2) := by decide +kernel
theorem d_L_law_358 : decode b_L_law 358 = .ok (.lcmp, 1) := by decide +kernel
theorem d_L_law_359 : decode b_L_law 359 = .ok (.ifCond .eq 5, 3) := by decide +kernel
theorem d_L_law_362 : decode b_L_law 362 = .ok (.iconst 0, 1) := by decide +kernel
theorem d_L_law_363 : decode b_L_law 363 = .ok (.ireturn, 1) := by decide +kernel
theorem d_L_law_364 : decode b_L_law 364 = .ok (.goto 430, 3) := by decide +kernel
theorem d_L_law_367 : decode b_L_law 367 = .ok (.aload_n 1, 1) := by decide +kernel
theorem d_L_law_368 : decode b_L_law 368 = .ok (.aload_n 0, 1) := by decide +kernel
theorem d_L_law_369 : decode b_L_law 369 = .ok (.iload 4, 2) := by decide +kernel
theorem d_L_law_371 : decode b_L_law 371 = .ok (.iconst 1, 1) := by decide +kernel
theorem d_L_law_372 : decode b_L_law 372 = .ok (.iadd, 1) := by decide +kernel
theorem d_L_law_373 : decode b_L_law 373 = .ok (.iaload, 1) := by decide +kernel
theorem d_L_law_374 : decode b_L_law 374 = .ok (.aload_n 3, 1) := by decide +kernel
theorem d_L_law_375 : decode b_L_law 375 = .ok (.invokestatic 83, 3) := by decide +kernel
theorem d_L_law_378 : decode b_L_law 378 = .ok (.istore 5, 2) := by decide +kernel
theorem d_L_law_380 : decode b_L_law 380 = .ok (.aload_n 2, 1) := by decide +kernel
theorem d_L_law_381 : decode b_L_law 381 = .ok (.aload_n 0, 1) := by decide +kernel
theorem d_L_law_382 : decode b_L_law 382 = .ok (.iload 4, 2) := by decide +kernel
theorem d_L_law_384 : decode b_L_law 384 = .ok (.iconst 1, 1) := by decide +kernel
theorem d_L_law_385 : decode b_L_law 385 = .ok (.iadd, 1) := by decide +kernel
theorem d_L_law_386 : decode b_L_law 386 = .ok (.iaload, 1) := by decide +kernel
theorem d_L_law_387 : decode b_L_law 387 = .ok (.invokevirtual 86, 3) := by decide +kernel
theorem d_L_law_390 : decode b_L_law 390 = .ok (.istore 6, 2) := by decide +kernel
theorem d_L_law_392 : decode b_L_law 392 = .ok (.aload_n 2, 1) := by decide +kernel
theorem d_L_law_393 : decode b_L_law 393 = .ok (.invokevirtual 67, 3) := by decide +kernel
theorem d_L_law_396 : decode b_L_law 396 = .ok (.iload 5, 2) := by decide +kernel
theorem d_L_law_398 : decode b_L_law 398 = .ok (.if_icmp .eq 5, 3) := by decide +kernel
theorem d_L_law_401 : decode b_L_law 401 = .ok (.iconst 0, 1) := by decide +kernel
theorem d_L_law_402 : decode b_L_law 402 = .ok (.ireturn, 1) := by decide +kernel
theorem d_L_law_403 : decode b_L_law 403 = .ok (.iload 5, 2) := by decide +kernel
theorem d_L_law_405 : decode b_L_law 405 = .ok (.ifCond .ne 15, 3) := by decide +kernel
theorem d_L_law_408 : decode b_L_law 408 = .ok (.aload_n 3, 1) := by decide +kernel
theorem d_L_law_409 : decode b_L_law 409 = .ok (.iconst 0, 1) := by decide +kernel
theorem d_L_law_410 : decode b_L_law 410 = .ok (.laload, 1) := by decide +kernel
theorem d_L_law_411 : decode b_L_law 411 = .ok (.iload 6, 2) := by decide +kernel
theorem d_L_law_413 : decode b_L_law 413 = .ok (.i2l, 1) := by decide +kernel
theorem d_L_law_414 : decode b_L_law 414 = .ok (.lcmp, 1) := by decide +kernel
theorem d_L_law_415 : decode b_L_law 415 = .ok (.ifCond .eq 5, 3) := by decide +kernel
theorem d_L_law_418 : decode b_L_law 418 = .ok (.iconst 0, 1) := by decide +kernel
theorem d_L_law_419 : decode b_L_law 419 = .ok (.ireturn, 1) := by decide +kernel
theorem d_L_law_420 : decode b_L_law 420 = .ok (.goto 374, 3) := by decide +kernel
theorem d_L_law_423 : decode b_L_law 423 = .ok (.aload_n 1, 1) := by decide +kernel
theorem d_L_law_424 : decode b_L_law 424 = .ok (.aload_n 0, 1) := by decide +kernel
theorem d_L_law_425 : decode b_L_law 425 = .ok (.iload 4, 2) := by decide +kernel
theorem d_L_law_427 : decode b_L_law 427 = .ok (.iconst 1, 1) := by decide +kernel
theorem d_L_law_428 : decode b_L_law 428 = .ok (.iadd, 1) := by decide +kernel
theorem d_L_law_429 : decode b_L_law 429 = .ok (.iaload, 1) := by decide +kernel
theorem d_L_law_430 : decode b_L_law 430 = .ok (.aload_n 3, 1) := by decide +kernel
theorem d_L_law_431 : decode b_L_law 431 = .ok (.invokestatic 87, 3) := by decide +kernel
theorem d_L_law_434 : decode b_L_law 434 = .ok (.istore 5, 2) := by decide +kernel
theorem d_L_law_436 : decode b_L_law 436 = .ok (.aload_n 2, 1) := by decide +kernel
theorem d_L_law_437 : decode b_L_law 437 = .ok (.aload_n 0, 1) := by decide +kernel
theorem d_L_law_438 : decode b_L_law 438 = .ok (.iload 4, 2) := by decide +kernel
theorem d_L_law_440 : decode b_L_law 440 = .ok (.iconst 1, 1) := by decide +kernel
theorem d_L_law_441 : decode b_L_law 441 = .ok (.iadd, 1) := by decide +kernel
theorem d_L_law_442 : decode b_L_law 442 = .ok (.iaload, 1) := by decide +kernel
theorem d_L_law_443 : decode b_L_law 443 = .ok (.invokevirtual 89, 3) := by decide +kernel
theorem d_L_law_446 : decode b_L_law 446 = .ok (.istore 6, 2) := by decide +kernel
theorem d_L_law_448 : decode b_L_law 448 = .ok (.aload_n 2, 1) := by decide +kernel
theorem d_L_law_449 : decode b_L_law 449 = .ok (.invokevirtual 67, 3) := by decide +kernel
theorem d_L_law_452 : decode b_L_law 452 = .ok (.iload 5, 2) := by decide +kernel
theorem d_L_law_454 : decode b_L_law 454 = .ok (.if_icmp .eq 5, 3) := by decide +kernel
theorem d_L_law_457 : decode b_L_law 457 = .ok (.iconst 0, 1) := by decide +kernel
theorem d_L_law_458 : decode b_L_law 458 = .ok (.ireturn, 1) := by decide +kernel
theorem d_L_law_459 : decode b_L_law 459 = .ok (.iload 5, 2) := by decide +kernel
theorem d_L_law_461 : decode b_L_law 461 = .ok (.ifCond .ne 15, 3) := by decide +kernel
theorem d_L_law_464 : decode b_L_law 464 = .ok (.aload_n 3, 1) := by decide +kernel
theorem d_L_law_465 : decode b_L_law 465 = .ok (.iconst 0, 1) := by decide +kernel
theorem d_L_law_466 : decode b_L_law 466 = .ok (.laload, 1) := by decide +kernel
theorem d_L_law_467 : decode b_L_law 467 = .ok (.iload 6, 2) := by decide +kernel
theorem d_L_law_469 : decode b_L_law 469 = .ok (.i2l, 1) := by decide +kernel
theorem d_L_law_470 : decode b_L_law 470 = .ok (.lcmp, 1) := by decide +kernel
theorem d_L_law_471 : decode b_L_law 471 = .ok (.ifCond .eq 5, 3) := by decide +kernel
theorem d_L_law_474 : decode b_L_law 474 = .ok (.iconst 0, 1) := by decide +kernel
theorem d_L_law_475 : decode b_L_law 475 = .ok (.ireturn, 1) := by decide +kernel
theorem d_L_law_476 : decode b_L_law 476 = .ok (.goto 318, 3) := by decide +kernel
theorem d_L_law_479 : decode b_L_law 479 = .ok (.aload_n 1, 1) := by decide +kernel
theorem d_L_law_480 : decode b_L_law 480 = .ok (.aload_n 0, 1) := by decide +kernel
theorem d_L_law_481 : decode b_L_law 481 = .ok (.iload 4, 2) := by decide +kernel
theorem d_L_law_483 : decode b_L_law 483 = .ok (.iconst 1, 1) := by decide +kernel
theorem d_L_law_484 : decode b_L_law 484 = .ok (.iadd, 1) := by decide +kernel
theorem d_L_law_485 : decode b_L_law 485 = .ok (.iaload, 1) := by decide +kernel
theorem d_L_law_486 : decode b_L_law 486 = .ok (.aload_n 0, 1) := by decide +kernel
theorem d_L_law_487 : decode b_L_law 487 = .ok (.iload 4, 2) := by decide +kernel
theorem d_L_law_489 : decode b_L_law 489 = .ok (.iconst 2, 1) := by decide +kernel
theorem d_L_law_490 : decode b_L_law 490 = .ok (.iadd, 1) := by decide +kernel
theorem d_L_law_491 : decode b_L_law 491 = .ok (.iaload, 1) := by decide +kernel
theorem d_L_law_492 : decode b_L_law 492 = .ok (.aload_n 0, 1) := by decide +kernel
theorem d_L_law_493 : decode b_L_law 493 = .ok (.iload 4, 2) := by decide +kernel
theorem d_L_law_495 : decode b_L_law 495 = .ok (.iconst 3, 1) := by decide +kernel
theorem d_L_law_496 : decode b_L_law 496 = .ok (.iadd, 1) := by decide +kernel
theorem d_L_law_497 : decode b_L_law 497 = .ok (.iaload, 1) := by decide +kernel
theorem d_L_law_498 : decode b_L_law 498 = .ok (.aload_n 3, 1) := by decide +kernel
theorem d_L_law_499 : decode b_L_law 499 = .ok (.invokestatic 90, 3) := by decide +kernel
theorem d_L_law_502 : decode b_L_law 502 = .ok (.istore 5, 2) := by decide +kernel
theorem d_L_law_504 : decode b_L_law 504 = .ok (.aload_n 2, 1) := by decide +kernel
theorem d_L_law_505 : decode b_L_law 505 = .ok (.aload_n 0, 1) := by decide +kernel
theorem d_L_law_506 : decode b_L_law 506 = .ok (.iload 4, 2) := by decide +kernel
theorem d_L_law_508 : decode b_L_law 508 = .ok (.iconst 1, 1) := by decide +kernel
theorem d_L_law_509 : decode b_L_law 509 = .ok (.iadd, 1) := by decide +kernel
theorem d_L_law_510 : decode b_L_law 510 = .ok (.iaload, 1) := by decide +kernel
theorem d_L_law_511 : decode b_L_law 511 = .ok (.aload_n 0, 1) := by decide +kernel
theorem d_L_law_512 : decode b_L_law 512 = .ok (.iload 4, 2) := by decide +kernel
theorem d_L_law_514 : decode b_L_law 514 = .ok (.iconst 2, 1) := by decide +kernel
theorem d_L_law_515 : decode b_L_law 515 = .ok (.iadd, 1) := by decide +kernel
theorem d_L_law_516 : decode b_L_law 516 = .ok (.iaload, 1) := by decide +kernel
theorem d_L_law_517 : decode b_L_law 517 = .ok (.aload_n 0, 1) := by decide +kernel
theorem d_L_law_518 : decode b_L_law 518 = .ok (.iload 4, 2) := by decide +kernel
theorem d_L_law_520 : decode b_L_law 520 = .ok (.iconst 3, 1) := by decide +kernel
theorem d_L_law_521 : decode b_L_law 521 = .ok (.iadd, 1) := by decide +kernel
theorem d_L_law_522 : decode b_L_law 522 = .ok (.iaload, 1) := by decide +kernel
theorem d_L_law_523 : decode b_L_law 523 = .ok (.invokevirtual 93, 3) := by decide +kernel
theorem d_L_law_526 : decode b_L_law 526 = .ok (.istore 6, 2) := by decide +kernel
theorem d_L_law_528 : decode b_L_law 528 = .ok (.aload_n 2, 1) := by decide +kernel
theorem d_L_law_529 : decode b_L_law 529 = .ok (.invokevirtual 67, 3) := by decide +kernel
theorem d_L_law_532 : decode b_L_law 532 = .ok (.iload 5, 2) := by decide +kernel
theorem d_L_law_534 : decode b_L_law 534 = .ok (.if_icmp .eq 5, 3) := by decide +kernel
theorem d_L_law_537 : decode b_L_law 537 = .ok (.iconst 0, 1) := by decide +kernel
theorem d_L_law_538 : decode b_L_law 538 = .ok (.ireturn, 1) := by decide +kernel
theorem d_L_law_539 : decode b_L_law 539 = .ok (.iload 5, 2) := by decide +kernel
theorem d_L_law_541 : decode b_L_law 541 = .ok (.ifCond .ne 15, 3) := by decide +kernel
theorem d_L_law_544 : decode b_L_law 544 = .ok (.aload_n 3, 1) := by decide +kernel
theorem d_L_law_545 : decode b_L_law 545 = .ok (.iconst 0, 1) := by decide +kernel
theorem d_L_law_546 : decode b_L_law 546 = .ok (.laload, 1) := by decide +kernel
theorem d_L_law_547 : decode b_L_law 547 = .ok (.iload 6, 2) := by decide +kernel
theorem d_L_law_549 : decode b_L_law 549 = .ok (.i2l, 1) := by decide +kernel
theorem d_L_law_550 : decode b_L_law 550 = .ok (.lcmp, 1) := by decide +kernel
theorem d_L_law_551 : decode b_L_law 551 = .ok (.ifCond .eq 5, 3) := by decide +kernel
theorem d_L_law_554 : decode b_L_law 554 = .ok (.iconst 0, 1) := by decide +kernel
theorem d_L_law_555 : decode b_L_law 555 = .ok (.ireturn, 1) := by decide +kernel
theorem d_L_law_556 : decode b_L_law 556 = .ok (.goto 238, 3) := by decide +kernel
theorem d_L_law_559 : decode b_L_law 559 = .ok (.aload_n 1, 1) := by decide +kernel
theorem d_L_law_560 : decode b_L_law 560 = .ok (.aload_n 0, 1) := by decide +kernel
theorem d_L_law_561 : decode b_L_law 561 = .ok (.iload 4, 2) := by decide +kernel
theorem d_L_law_563 : decode b_L_law 563 = .ok (.iconst 1, 1) := by decide +kernel
theorem d_L_law_564 : decode b_L_law 564 = .ok (.iadd, 1) := by decide +kernel
theorem d_L_law_565 : decode b_L_law 565 = .ok (.iaload, 1) := by decide +kernel
theorem d_L_law_566 : decode b_L_law 566 = .ok (.aload_n 0, 1) := by decide +kernel
theorem d_L_law_567 : decode b_L_law 567 = .ok (.iload 4, 2) := by decide +kernel
theorem d_L_law_569 : decode b_L_law 569 = .ok (.iconst 2, 1) := by decide +kernel
theorem d_L_law_570 : decode b_L_law 570 = .ok (.iadd, 1) := by decide +kernel
theorem d_L_law_571 : decode b_L_law 571 = .ok (.iaload, 1) := by decide +kernel
theorem d_L_law_572 : decode b_L_law 572 = .ok (.aload_n 0, 1) := by decide +kernel
theorem d_L_law_573 : decode b_L_law 573 = .ok (.iload 4, 2) := by decide +kernel
theorem d_L_law_575 : decode b_L_law 575 = .ok (.iconst 3, 1) := by decide +kernel
theorem d_L_law_576 : decode b_L_law 576 = .ok (.iadd, 1) := by decide +kernel
theorem d_L_law_577 : decode b_L_law 577 = .ok (.iaload, 1) := by decide +kernel
theorem d_L_law_578 : decode b_L_law 578 = .ok (.aload_n 3, 1) := by decide +kernel
theorem d_L_law_579 : decode b_L_law 579 = .ok (.invokestatic 94, 3) := by decide +kernel
theorem d_L_law_582 : decode b_L_law 582 = .ok (.istore 5, 2) := by decide +kernel
theorem d_L_law_584 : decode b_L_law 584 = .ok (.aload_n 2, 1) := by decide +kernel
theorem d_L_law_585 : decode b_L_law 585 = .ok (.aload_n 0, 1) := by decide +kernel
theorem d_L_law_586 : decode b_L_law 586 = .ok (.iload 4, 2) := by decide +kernel
theorem d_L_law_588 : decode b_L_law 588 = .ok (.iconst 1, 1) := by decide +kernel
theorem d_L_law_589 : decode b_L_law 589 = .ok (.iadd, 1) := by decide +kernel
theorem d_L_law_590 : decode b_L_law 590 = .ok (.iaload, 1) := by decide +kernel
theorem d_L_law_591 : decode b_L_law 591 = .ok (.aload_n 0, 1) := by decide +kernel
theorem d_L_law_592 : decode b_L_law 592 = .ok (.iload 4, 2) := by decide +kernel
theorem d_L_law_594 : decode b_L_law 594 = .ok (.iconst 2, 1) := by decide +kernel
theorem d_L_law_595 : decode b_L_law 595 = .ok (.iadd, 1) := by decide +kernel
theorem d_L_law_596 : decode b_L_law 596 = .ok (.iaload, 1) := by decide +kernel
theorem d_L_law_597 : decode b_L_law 597 = .ok (.aload_n 0, 1) := by decide +kernel
theorem d_L_law_598 : decode b_L_law 598 = .ok (.iload 4, 2) := by decide +kernel
theorem d_L_law_600 : decode b_L_law 600 = .ok (.iconst 3, 1) := by decide +kernel
theorem d_L_law_601 : decode b_L_law 601 = .ok (.iadd, 1) := by decide +kernel
theorem d_L_law_602 : decode b_L_law 602 = .ok (.iaload, 1) := by decide +kernel
theorem d_L_law_603 : decode b_L_law 603 = .ok (.invokevirtual 96, 3) := by decide +kernel
theorem d_L_law_606 : decode b_L_law 606 = .ok (.lstore 6, 2) := by decide +kernel
theorem d_L_law_608 : decode b_L_law 608 = .ok (.aload_n 2, 1) := by decide +kernel
theorem d_L_law_609 : decode b_L_law 609 = .ok (.invokevirtual 67, 3) := by decide +kernel
theorem d_L_law_612 : decode b_L_law 612 = .ok (.iload 5, 2) := by decide +kernel
theorem d_L_law_614 : decode b_L_law 614 = .ok (.if_icmp .eq 5, 3) := by decide +kernel
theorem d_L_law_617 : decode b_L_law 617 = .ok (.iconst 0, 1) := by decide +kernel
theorem d_L_law_618 : decode b_L_law 618 = .ok (.ireturn, 1) := by decide +kernel
theorem d_L_law_619 : decode b_L_law 619 = .ok (.iload 5, 2) := by decide +kernel
theorem d_L_law_621 : decode b_L_law 621 = .ok (.ifCond .ne 14, 3) := by decide +kernel
theorem d_L_law_624 : decode b_L_law 624 = .ok (.aload_n 3, 1) := by decide +kernel
theorem d_L_law_625 : decode b_L_law 625 = .ok (.iconst 0, 1) := by decide +kernel
theorem d_L_law_626 : decode b_L_law 626 = .ok (.laload, 1) := by decide +kernel
theorem d_L_law_627 : decode b_L_law 627 = .ok (.lload 6, 2) := by decide +kernel
theorem d_L_law_629 : decode b_L_law 629 = .ok (.lcmp, 1) := by decide +kernel
theorem d_L_law_630 : decode b_L_law 630 = .ok (.ifCond .eq 5, 3) := by decide +kernel
theorem d_L_law_633 : decode b_L_law 633 = .ok (.iconst 0, 1) := by decide +kernel
theorem d_L_law_634 : decode b_L_law 634 = .ok (.ireturn, 1) := by decide +kernel
theorem d_L_law_635 : decode b_L_law 635 = .ok (.goto 159, 3) := by decide +kernel
theorem d_L_law_638 : decode b_L_law 638 = .ok (.aload_n 1, 1) := by decide +kernel
theorem d_L_law_639 : decode b_L_law 639 = .ok (.aload_n 0, 1) := by decide +kernel
theorem d_L_law_640 : decode b_L_law 640 = .ok (.iload 4, 2) := by decide +kernel
theorem d_L_law_642 : decode b_L_law 642 = .ok (.iconst 1, 1) := by decide +kernel
theorem d_L_law_643 : decode b_L_law 643 = .ok (.iadd, 1) := by decide +kernel
theorem d_L_law_644 : decode b_L_law 644 = .ok (.iaload, 1) := by decide +kernel
theorem d_L_law_645 : decode b_L_law 645 = .ok (.aload_n 0, 1) := by decide +kernel
theorem d_L_law_646 : decode b_L_law 646 = .ok (.iload 4, 2) := by decide +kernel
theorem d_L_law_648 : decode b_L_law 648 = .ok (.iconst 2, 1) := by decide +kernel
theorem d_L_law_649 : decode b_L_law 649 = .ok (.iadd, 1) := by decide +kernel
theorem d_L_law_650 : decode b_L_law 650 = .ok (.iaload, 1) := by decide +kernel
theorem d_L_law_651 : decode b_L_law 651 = .ok (.aload_n 3, 1) := by decide +kernel
theorem d_L_law_652 : decode b_L_law 652 = .ok (.invokestatic 97, 3) := by decide +kernel
theorem d_L_law_655 : decode b_L_law 655 = .ok (.istore 5, 2) := by decide +kernel
theorem d_L_law_657 : decode b_L_law 657 = .ok (.aload_n 2, 1) := by decide +kernel
theorem d_L_law_658 : decode b_L_law 658 = .ok (.aload_n 0, 1) := by decide +kernel
theorem d_L_law_659 : decode b_L_law 659 = .ok (.iload 4, 2) := by decide +kernel
theorem d_L_law_661 : decode b_L_law 661 = .ok (.iconst 1, 1) := by decide +kernel
theorem d_L_law_662 : decode b_L_law 662 = .ok (.iadd, 1) := by decide +kernel
theorem d_L_law_663 : decode b_L_law 663 = .ok (.iaload, 1) := by decide +kernel
theorem d_L_law_664 : decode b_L_law 664 = .ok (.aload_n 0, 1) := by decide +kernel
theorem d_L_law_665 : decode b_L_law 665 = .ok (.iload 4, 2) := by decide +kernel
theorem d_L_law_667 : decode b_L_law 667 = .ok (.iconst 2, 1) := by decide +kernel
theorem d_L_law_668 : decode b_L_law 668 = .ok (.iadd, 1) := by decide +kernel
theorem d_L_law_669 : decode b_L_law 669 = .ok (.iaload, 1) := by decide +kernel
theorem d_L_law_670 : decode b_L_law 670 = .ok (.invokevirtual 99, 3) := by decide +kernel
theorem d_L_law_673 : decode b_L_law 673 = .ok (.istore 6, 2) := by decide +kernel
theorem d_L_law_675 : decode b_L_law 675 = .ok (.aload_n 2, 1) := by decide +kernel
theorem d_L_law_676 : decode b_L_law 676 = .ok (.invokevirtual 67, 3) := by decide +kernel
theorem d_L_law_679 : decode b_L_law 679 = .ok (.iload 5, 2) := by decide +kernel
theorem d_L_law_681 : decode b_L_law 681 = .ok (.if_icmp .eq 5, 3) := by decide +kernel
theorem d_L_law_684 : decode b_L_law 684 = .ok (.iconst 0, 1) := by decide +kernel
theorem d_L_law_685 : decode b_L_law 685 = .ok (.ireturn, 1) := by decide +kernel
theorem d_L_law_686 : decode b_L_law 686 = .ok (.iload 5, 2) := by decide +kernel
theorem d_L_law_688 : decode b_L_law 688 = .ok (.ifCond .ne 22, 3) := by decide +kernel
theorem d_L_law_691 : decode b_L_law 691 = .ok (.aload_n 3, 1) := by decide +kernel
theorem d_L_law_692 : decode b_L_law 692 = .ok (.iconst 0, 1) := by decide +kernel
theorem d_L_law_693 : decode b_L_law 693 = .ok (.laload, 1) := by decide +kernel
theorem d_L_law_694 : decode b_L_law 694 = .ok (.iload 6, 2) := by decide +kernel
theorem d_L_law_696 : decode b_L_law 696 = .ok (.ifCond .eq 7, 3) := by decide +kernel
theorem d_L_law_699 : decode b_L_law 699 = .ok (.lconst 1, 1) := by decide +kernel
theorem d_L_law_700 : decode b_L_law 700 = .ok (.goto 4, 3) := by decide +kernel
theorem d_L_law_703 : decode b_L_law 703 = .ok (.lconst 0, 1) := by decide +kernel
theorem d_L_law_704 : decode b_L_law 704 = .ok (.lcmp, 1) := by decide +kernel
theorem d_L_law_705 : decode b_L_law 705 = .ok (.ifCond .eq 5, 3) := by decide +kernel
theorem d_L_law_708 : decode b_L_law 708 = .ok (.iconst 0, 1) := by decide +kernel
theorem d_L_law_709 : decode b_L_law 709 = .ok (.ireturn, 1) := by decide +kernel
theorem d_L_law_710 : decode b_L_law 710 = .ok (.goto 84, 3) := by decide +kernel
theorem d_L_law_713 : decode b_L_law 713 = .ok (.aload_n 1, 1) := by decide +kernel
theorem d_L_law_714 : decode b_L_law 714 = .ok (.aload_n 0, 1) := by decide +kernel
theorem d_L_law_715 : decode b_L_law 715 = .ok (.iload 4, 2) := by decide +kernel
theorem d_L_law_717 : decode b_L_law 717 = .ok (.iconst 1, 1) := by decide +kernel
theorem d_L_law_718 : decode b_L_law 718 = .ok (.iadd, 1) := by decide +kernel
theorem d_L_law_719 : decode b_L_law 719 = .ok (.iaload, 1) := by decide +kernel
theorem d_L_law_720 : decode b_L_law 720 = .ok (.aload_n 3, 1) := by decide +kernel
theorem d_L_law_721 : decode b_L_law 721 = .ok (.invokestatic 100, 3) := by decide +kernel
theorem d_L_law_724 : decode b_L_law 724 = .ok (.istore 5, 2) := by decide +kernel
theorem d_L_law_726 : decode b_L_law 726 = .ok (.aload_n 2, 1) := by decide +kernel
theorem d_L_law_727 : decode b_L_law 727 = .ok (.aload_n 0, 1) := by decide +kernel
theorem d_L_law_728 : decode b_L_law 728 = .ok (.iload 4, 2) := by decide +kernel
theorem d_L_law_730 : decode b_L_law 730 = .ok (.iconst 1, 1) := by decide +kernel
theorem d_L_law_731 : decode b_L_law 731 = .ok (.iadd, 1) := by decide +kernel
theorem d_L_law_732 : decode b_L_law 732 = .ok (.iaload, 1) := by decide +kernel
theorem d_L_law_733 : decode b_L_law 733 = .ok (.invokevirtual 102, 3) := by decide +kernel
theorem d_L_law_736 : decode b_L_law 736 = .ok (.istore 6, 2) := by decide +kernel
theorem d_L_law_738 : decode b_L_law 738 = .ok (.aload_n 2, 1) := by decide +kernel
theorem d_L_law_739 : decode b_L_law 739 = .ok (.invokevirtual 67, 3) := by decide +kernel
theorem d_L_law_742 : decode b_L_law 742 = .ok (.iload 5, 2) := by decide +kernel
theorem d_L_law_744 : decode b_L_law 744 = .ok (.if_icmp .eq 5, 3) := by decide +kernel
theorem d_L_law_747 : decode b_L_law 747 = .ok (.iconst 0, 1) := by decide +kernel
theorem d_L_law_748 : decode b_L_law 748 = .ok (.ireturn, 1) := by decide +kernel
theorem d_L_law_749 : decode b_L_law 749 = .ok (.iload 5, 2) := by decide +kernel
theorem d_L_law_751 : decode b_L_law 751 = .ok (.ifCond .ne 15, 3) := by decide +kernel
theorem d_L_law_754 : decode b_L_law 754 = .ok (.aload_n 3, 1) := by decide +kernel
theorem d_L_law_755 : decode b_L_law 755 = .ok (.iconst 0, 1) := by decide +kernel
theorem d_L_law_756 : decode b_L_law 756 = .ok (.laload, 1) := by decide +kernel
theorem d_L_law_757 : decode b_L_law 757 = .ok (.iload 6, 2) := by decide +kernel
theorem d_L_law_759 : decode b_L_law 759 = .ok (.i2l, 1) := by decide +kernel
theorem d_L_law_760 : decode b_L_law 760 = .ok (.lcmp, 1) := by decide +kernel
theorem d_L_law_761 : decode b_L_law 761 = .ok (.ifCond .eq 5, 3) := by decide +kernel
theorem d_L_law_764 : decode b_L_law 764 = .ok (.iconst 0, 1) := by decide +kernel
theorem d_L_law_765 : decode b_L_law 765 = .ok (.ireturn, 1) := by decide +kernel
theorem d_L_law_766 : decode b_L_law 766 = .ok (.goto 28, 3) := by decide +kernel
theorem d_L_law_769 : decode b_L_law 769 = .ok (.aload_n 1, 1) := by decide +kernel
theorem d_L_law_770 : decode b_L_law 770 = .ok (.aload_n 0, 1) := by decide +kernel
theorem d_L_law_771 : decode b_L_law 771 = .ok (.iload 4, 2) := by decide +kernel
theorem d_L_law_773 : decode b_L_law 773 = .ok (.iconst 1, 1) := by decide +kernel
theorem d_L_law_774 : decode b_L_law 774 = .ok (.iadd, 1) := by decide +kernel
theorem d_L_law_775 : decode b_L_law 775 = .ok (.iaload, 1) := by decide +kernel
theorem d_L_law_776 : decode b_L_law 776 = .ok (.invokevirtual 103, 3) := by decide +kernel
theorem d_L_law_779 : decode b_L_law 779 = .ok (.aload_n 2, 1) := by decide +kernel
theorem d_L_law_780 : decode b_L_law 780 = .ok (.aload_n 0, 1) := by decide +kernel
theorem d_L_law_781 : decode b_L_law 781 = .ok (.iload 4, 2) := by decide +kernel
theorem d_L_law_783 : decode b_L_law 783 = .ok (.iconst 1, 1) := by decide +kernel
theorem d_L_law_784 : decode b_L_law 784 = .ok (.iadd, 1) := by decide +kernel
theorem d_L_law_785 : decode b_L_law 785 = .ok (.iaload, 1) := by decide +kernel
theorem d_L_law_786 : decode b_L_law 786 = .ok (.invokevirtual 106, 3) := by decide +kernel
theorem d_L_law_789 : decode b_L_law 789 = .ok (.if_icmp .eq 5, 3) := by decide +kernel
theorem d_L_law_792 : decode b_L_law 792 = .ok (.iconst 0, 1) := by decide +kernel
theorem d_L_law_793 : decode b_L_law 793 = .ok (.ireturn, 1) := by decide +kernel
theorem d_L_law_794 : decode b_L_law 794 = .ok (.iinc 4 6, 3) := by decide +kernel
theorem d_L_law_797 : decode b_L_law 797 = .ok (.goto (-774), 3) := by decide +kernel
theorem d_L_law_800 : decode b_L_law 800 = .ok (.iconst 1, 1) := by decide +kernel
theorem d_L_law_801 : decode b_L_law 801 = .ok (.ireturn, 1) := by decide +kernel
end
section
/-! ===== the base: what is known at the law's start s0, and what a method's body knows of it ===== -/
abbrev tyl (dA : Nat → ClassId) : List (ClassId × FieldType) := [(dA 0, .int), (dA 1, .long), (dA 2, .boolean), (dA 3, .object R_T), (dA 4, .array .int)]
/-- the cells that came since the law's start -/
def AA (s0 : State) : Nat → Prop := fun q => s0.heap.size ≤ q
/-- what is given at the law's start -/
def BB (s0 : State) (dC : Nat → ClassId) (dI : Nat → Nat → Nat) (dA : Nat → ClassId) : Prop := (∃ a0 : Array Value, ∀ w ∈ lw_tbl, w.before a0 s0 = true) ∧ va_K (dC, dI) cls_ (tyl dA) s0
/-- a state since then -/
def EE (s0 : State) (U : State) : Prop := s0.WarmedH U.vm ∧ va_F (AA s0) s0 U
def nest_ok : Cond → Bool
  | .fieldLinkNest .. => true
  | .methodLinkNest .. => true
  | _ => false
theorem nws_ok : nws.all nest_ok = true := by decide +kernel
theorem nest_at {w : Cond} (hw : nest_ok w = true) {A A' : Array Value} {s U : State} (hW : s.WarmedH U.vm) (h : w.before A s = true) : w.before A' U = true := by
  cases w <;> first | (exact va_Nw.use rfl (va_Nw.warmF hW (va_Nw.of rfl h))) | (exact va_Nw.use rfl (va_Nw.warmM hW (va_Nw.of rfl h))) | (simp [nest_ok] at hw)
theorem EE.gw {s0 U : State} {dC : Nat → ClassId} {dI : Nat → Nat → Nat} {dA : Nat → ClassId} (B0 : BB s0 dC dI dA) (h : EE s0 U) {args : Array Value} : ∀ w ∈ gw, w.before args U = true := by
  obtain ⟨⟨a0, h0⟩, -⟩ := B0
  exact fun w hw => word_at h.1 (gw_good hw) (h0 w (gw_tbl hw))
theorem EE.nw {s0 U : State} {dC : Nat → ClassId} {dI : Nat → Nat → Nat} {dA : Nat → ClassId} (B0 : BB s0 dC dI dA) (h : EE s0 U) {args : Array Value} : ∀ w ∈ nws, w.before args U = true := by
  obtain ⟨⟨a0, h0⟩, -⟩ := B0
  exact fun w hw => nest_at (List.all_eq_true.mp nws_ok w hw) h.1 (h0 w (nws_in w hw))
theorem EE.va {s0 U : State} {dC : Nat → ClassId} {dI : Nat → Nat → Nat} {dA : Nat → ClassId} (B0 : BB s0 dC dI dA) (h : EE s0 U) : va_K (dC, dI) cls_ (tyl dA) U := va_K.moved h.1.alike B0.2
/-- the start of a contract: the world w -/
def mP (s0 : State) (dC : Nat → ClassId) (dI : Nat → Nat → Nat) (w : fw_W) (av : List Value) : Array Value → State → Prop := va_Pc av (fun U => fw_P (dC, dI) cls_ (AA s0) w U.heap ∧ EE s0 U)
theorem mP.blind {s0 : State} {dC : Nat → ClassId} {dI : Nat → Nat → Nat} {w : fw_W} {av : List Value} : FrameBlind (mP s0 dC dI w av) := fun _ _ _ _ q => q
theorem mP.at {s0 s : State} {dC : Nat → ClassId} {dI : Nat → Nat → Nat} {w : fw_W} {av : List Value} {H : Heap} {locs : List Loc} (hE : EE s0 s) (hP : fw_P (dC, dI) cls_ (AA s0) w H) (hS : va_S (AA s0) s.heap H locs) : ∀ U : State, U.heap = H → s.WarmedH U.vm → mP s0 dC dI w av av.toArray U := by
  intro U hU hW
  refine ⟨rfl, by rw [hU]; exact hP, State.WarmedH.trans hE.1 hW, ?_, fun q h1 h2 => ?_⟩
  · rw [hU]; exact Nat.le_trans hE.2.1 hS.1
  · rw [hU, hS.2.1 q (Nat.lt_of_lt_of_le h1 hE.2.1) h2]; exact hE.2.2 q h1 h2
/-- the ends of a contract: post speaks of the answer and of the world behind it -/
abbrev mB (s0 : State) (dC : Nat → ClassId) (dI : Nat → Nat → Nat) : fw_W → State → Prop := fun w t => fw_P (dC, dI) cls_ (AA s0) w t.heap
abbrev mQi (s0 : State) (dC : Nat → ClassId) (dI : Nat → Nat → Nat) (post : Int32 → fw_W → Prop) : Array Value → State → Outcome → State → Prop := va_Qi post (mB s0 dC dI) (AA s0)
abbrev mQl (s0 : State) (dC : Nat → ClassId) (dI : Nat → Nat → Nat) (post : Int64 → fw_W → Prop) : Array Value → State → Outcome → State → Prop := va_Ql post (mB s0 dC dI) (AA s0)
abbrev mQv (s0 : State) (dC : Nat → ClassId) (dI : Nat → Nat → Nat) (post : fw_W → Prop) : Array Value → State → Outcome → State → Prop := va_Qv post (mB s0 dC dI) (AA s0)
abbrev mQq (s0 : State) (dC : Nat → ClassId) (dI : Nat → Nat → Nat) (post : Option Nat → fw_W → Prop) : Array Value → State → Outcome → State → Prop := va_Qq post (mB s0 dC dI) (AA s0)
/-- what a body knows of its machine, its class and its start -/
def CX (s0 : State) (dC : Nat → ClassId) (dI : Nat → Nat → Nat) (dA : Nat → ClassId) (own : String) (cc : ByteArray) (nL : Nat) (ret : Option FieldType) (p : Program) (s : State) (m : MethodId) (args : Array Value) (meth : Method) (c : Code) : Prop :=
  p.tables.exec = Jvm.exec ∧ c.code = cc ∧ meth.sig.returnType = ret ∧ c.maxLocals = nL ∧ s.vm.findClass own = some m.cls ∧ (∀ w ∈ gw, w.before args s = true) ∧ va_K (dC, dI) cls_ (tyl dA) s ∧ (∀ w ∈ nws, w.before args s = true) ∧ EE s0 s ∧ meth.locks = false ∧ (∀ q, s.heap.size ≤ q → AA s0 q)
theorem mt_ofW {l : Launch} {s0 : State} {dC : Nat → ClassId} {dI : Nat → Nat → Nat} {dA : Nat → ClassId} (B0 : BB s0 dC dI dA) {y : MethodName} {cc : ByteArray} {nL : Nat} {ret : Option FieldType} {rm : Room} {w : fw_W} {av : List Value} {Qc : Array Value → State → Outcome → State → Prop} {mc ms : Nat}
    (hy : plainName y.cls = true) (hn : (lg_sl av).length ≤ nL)
    (body : ∀ (p : Program) (e : Env) (s : State) (m : MethodId) (args : Array Value) (below : List Frame) (meth : Method) (c : Code) (ls : Array Slot), args = av.toArray → CX s0 dC dI dA y.cls cc nL ret p s m args meth c → (y.name = "<init>" → meth.name = "<init>") → lv_has ls nL (lv_args 0 av) → fw_P (dC, dI) cls_ (AA s0) w s.heap →
      W p l e rm s m args below meth c s.heap [] 0 0 (MQ below Qc args s mc ms (AA s0)) (F0 m 0 ls [])) : Met l y [.code y cc nL ret] rm (mP s0 dC dI w av) Qc mc ms (AA s0) := by
  refine Met.ofW (cc := cc) (maxL := nL) (ret := ret) hy rfl ?_
  intro p e s m args below meth c s₁ B hml hv
  obtain ⟨rfl, hP, hE⟩ := hv
  have hl := lv_entry av (n := nL) hn
  rw [lg_entry_eq]
  generalize (lg_sl av ++ List.replicate (nL - (lg_sl av).length) Slot.unset).toArray = ls at hl ⊢
  exact body p e s m _ below meth c ls rfl ⟨B.exec, B.bytes, B.returns, hml, findClass_of_methodNamed B.named, hE.gw B0, hE.va B0, hE.nw B0, hE, B.notSynchronized, fun q h => Nat.le_trans hE.2.1 h⟩ (fun h => by rw [(name_of_methodNamed B.named B.method).1]; exact h) hl hP
end
section
/-! ===== calls over the base ===== -/
section CAL
variable {p : Program} {l : Launch} {e : Env} {R : Room} {s : State} {m : MethodId} {args : Array Value} {below : List Frame} {meth : Method} {c : Code} {H : Heap} {locs : List Loc} {cells slots : Nat} {Q : State → Prop}
variable {s0 : State} {dC : Nat → ClassId} {dI : Nat → Nat → Nat} {dA : Nat → ClassId} {own : String} {cc : ByteArray} {nL : Nat} {ret0 : Option FieldType} {w : fw_W}
variable {y : MethodName} {bytes : ByteArray} {maxL mc ms n index : Nat} {ret : Option FieldType} {rm : Room} {Qc : Array Value → State → Outcome → State → Prop} {C : String} {b : Nat} {As rest st0 : List Value} {ls : Array Slot} {pc : Nat} {T : u_T} {N ci : Nat} {fs : List Value} {host : String}
theorem gw_code (h : Cond.code y bytes maxL ret ∈ gw) : GoodIn gw [.code y bytes maxL ret] := fun w hw => by
  rw [List.mem_singleton] at hw
  rw [hw]
  exact ⟨h, gw_good h⟩
theorem rn_V (X : CX s0 dC dI dA own cc nL ret0 p s m args meth c) (hP : fw_P (dC, dI) cls_ (AA s0) w H) (hS : va_S (AA s0) s.heap H locs) (hM : Met l y [.code y bytes maxL ret] rm (mP s0 dC dI w (.ref b :: As)) Qc mc ms (AA s0))
    (k1 : Cond.methodLink own index y ∈ gw) (k2 : Cond.instanceMethod y ∈ gw) (k3 : Cond.selects C y y ∈ gw) (k4 : Cond.initialized C ∈ gw) (k5 : Cond.code y bytes maxL ret ∈ gw)
    (hd : y.cls = C ∧ y.cls ≠ "java/lang/invoke/MethodHandle" ∧ y.cls ≠ "java/lang/invoke/VarHandle" ∧ (parseMethodDescriptor y.desc).map (fun d => d.parameters.length) = some n) (hrc : rm.cells = mc) (hrs : rm.slots = ms) (hR : rm.frames + 1 ≤ R.frames ∧ 8 + (maxL + 11) + rm.locals ≤ R.locals)
    (he : w b = some (.inr (ci, fs))) (hc : cls_[ci]? = some (C, T, N)) (hn : As.length = n) (hsize : ls.size = nL) (hstack : st0 = As.reverse ++ .ref b :: rest) (hW : (rest.map fun v => v.category).sum ≤ 8) (hdg : decode cc pc = .ok (.invokevirtual index, 3)) (hf : cells + mc ≤ R.cells ∧ slots + ms ≤ R.slots) :
    va_Run p l e R s m args below meth c H locs cells slots mc ms (F0 m pc ls st0) rest (Qc (Value.ref b :: As).toArray) (AA s0) := by
  obtain ⟨hx, hb, hr, hml, hown, hg, hK, hnn, hE, hlocks, hA⟩ := X
  refine va_runV (C := C) (As := As) ⟨hx, hb, hml, hown, hg⟩ hM (cwV n hg (fun w hw => ?_) rfl hrc hrs hd hR) ⟨mP.blind, va_recv hK (hP.one he) (q0 := 0) hc rfl, mP.at hE hP hS⟩ rfl hn hsize hstack (lv_room hW) hdg hf
  rcases List.mem_append.mp hw with h | h
  · simp only [List.mem_cons, List.not_mem_nil, or_false] at h
    rcases h with rfl | rfl | rfl | rfl
    · exact ⟨k1, gw_good k1⟩
    · exact ⟨k2, gw_good k2⟩
    · exact ⟨k3, gw_good k3⟩
    · exact ⟨k4, gw_good k4⟩
  · exact gw_code k5 w h
theorem rn_VN (X : CX s0 dC dI dA own cc nL ret0 p s m args meth c) (hP : fw_P (dC, dI) cls_ (AA s0) w H) (hS : va_S (AA s0) s.heap H locs) (hM : Met l y [.code y bytes maxL ret] rm (mP s0 dC dI w (.ref b :: As)) Qc mc ms (AA s0))
    (k1 : Cond.methodLinkNest own index y host ∈ nws) (k2 : Cond.instanceMethod y ∈ gw) (k3 : Cond.selects C y y ∈ gw) (k4 : Cond.initialized y.cls ∈ gw) (k5 : Cond.code y bytes maxL ret ∈ gw)
    (hd : y.cls ≠ "java/lang/invoke/MethodHandle" ∧ y.cls ≠ "java/lang/invoke/VarHandle" ∧ (parseMethodDescriptor y.desc).map (fun d => d.parameters.length) = some n) (hrc : rm.cells = mc) (hrs : rm.slots = ms) (hR : rm.frames + 1 ≤ R.frames ∧ 8 + (maxL + 11) + rm.locals ≤ R.locals)
    (he : w b = some (.inr (ci, fs))) (hc : cls_[ci]? = some (C, T, N)) (hn : As.length = n) (hsize : ls.size = nL) (hstack : st0 = As.reverse ++ .ref b :: rest) (hW : (rest.map fun v => v.category).sum ≤ 8) (hdg : decode cc pc = .ok (.invokevirtual index, 3)) (hf : cells + mc ≤ R.cells ∧ slots + ms ≤ R.slots) :
    va_Run p l e R s m args below meth c H locs cells slots mc ms (F0 m pc ls st0) rest (Qc (Value.ref b :: As).toArray) (AA s0) := by
  obtain ⟨hx, hb, hr, hml, hown, hg, hK, hnn, hE, hlocks, hA⟩ := X
  exact va_runVN (C := C) (As := As) ⟨hx, hb, hml, hown, hg⟩ hM ⟨va_cnB n hg (gw_code k5) rfl hrc hrs (va_Nw.of rfl (hnn _ k1)) (hg _ k4) hd hR, hg _ k2, hg _ k3⟩ ⟨mP.blind, va_recv hK (hP.one he) (q0 := 0) hc rfl, mP.at hE hP hS⟩ rfl hn hsize hstack (lv_room hW) hdg hf
theorem rn_S (X : CX s0 dC dI dA own cc nL ret0 p s m args meth c) (hP : fw_P (dC, dI) cls_ (AA s0) w H) (hS : va_S (AA s0) s.heap H locs) (hM : Met l y [.code y bytes maxL ret] rm (mP s0 dC dI w As) Qc mc ms (AA s0))
    (k1 : Cond.methodLink own index y ∈ gw) (k2 : Cond.static y ∈ gw) (k4 : Cond.initialized y.cls ∈ gw) (k5 : Cond.code y bytes maxL ret ∈ gw)
    (hd : y.cls ≠ "java/lang/invoke/MethodHandle" ∧ y.cls ≠ "java/lang/invoke/VarHandle" ∧ (parseMethodDescriptor y.desc).map (fun d => d.parameters.length) = some n) (hrc : rm.cells = mc) (hrs : rm.slots = ms) (hR : rm.frames + 1 ≤ R.frames ∧ 8 + (maxL + 11) + rm.locals ≤ R.locals)
    (hn : As.length = n) (hsize : ls.size = nL) (hstack : st0 = As.reverse ++ rest) (hW : (rest.map fun v => v.category).sum ≤ 8) (hdg : decode cc pc = .ok (.invokestatic index, 3)) (hf : cells + mc ≤ R.cells ∧ slots + ms ≤ R.slots) :
    va_Run p l e R s m args below meth c H locs cells slots mc ms (F0 m pc ls st0) rest (Qc As.toArray) (AA s0) := by
  obtain ⟨hx, hb, hr, hml, hown, hg, hK, hnn, hE, hlocks, hA⟩ := X
  exact va_runS (As := As) ⟨hx, hb, hml, hown, hg⟩ hM ⟨callB_of n hg (gw_code k5) rfl hrc hrs (hg _ k4) (hg _ k1) hd hR, hg _ k2⟩ ⟨mP.blind, mP.at hE hP hS⟩ rfl hn hsize hstack (lv_room hW) hdg hf
theorem rn_SN (X : CX s0 dC dI dA own cc nL ret0 p s m args meth c) (hP : fw_P (dC, dI) cls_ (AA s0) w H) (hS : va_S (AA s0) s.heap H locs) (hM : Met l y [.code y bytes maxL ret] rm (mP s0 dC dI w As) Qc mc ms (AA s0))
    (k1 : Cond.methodLinkNest own index y host ∈ nws) (k2 : Cond.static y ∈ gw) (k4 : Cond.initialized y.cls ∈ gw) (k5 : Cond.code y bytes maxL ret ∈ gw)
    (hd : y.cls ≠ "java/lang/invoke/MethodHandle" ∧ y.cls ≠ "java/lang/invoke/VarHandle" ∧ (parseMethodDescriptor y.desc).map (fun d => d.parameters.length) = some n) (hrc : rm.cells = mc) (hrs : rm.slots = ms) (hR : rm.frames + 1 ≤ R.frames ∧ 8 + (maxL + 11) + rm.locals ≤ R.locals)
    (hn : As.length = n) (hsize : ls.size = nL) (hstack : st0 = As.reverse ++ rest) (hW : (rest.map fun v => v.category).sum ≤ 8) (hdg : decode cc pc = .ok (.invokestatic index, 3)) (hf : cells + mc ≤ R.cells ∧ slots + ms ≤ R.slots) :
    va_Run p l e R s m args below meth c H locs cells slots mc ms (F0 m pc ls st0) rest (Qc As.toArray) (AA s0) := by
  obtain ⟨hx, hb, hr, hml, hown, hg, hK, hnn, hE, hlocks, hA⟩ := X
  exact va_runSN (As := As) ⟨hx, hb, hml, hown, hg⟩ hM ⟨va_cnB n hg (gw_code k5) rfl hrc hrs (va_Nw.of rfl (hnn _ k1)) (hg _ k4) hd hR, hg _ k2, trivial⟩ ⟨mP.blind, mP.at hE hP hS⟩ rfl hn hsize hstack (lv_room hW) hdg hf
theorem rn_I (X : CX s0 dC dI dA own cc nL ret0 p s m args meth c) (hP : fw_P (dC, dI) cls_ (AA s0) w H) (hS : va_S (AA s0) s.heap H locs) (hM : Met l y [.code y bytes maxL none] rm (mP s0 dC dI w (.ref b :: As)) Qc mc ms (AA s0))
    (k1 : Cond.methodLink own index y ∈ gw) (k2 : Cond.instanceMethod y ∈ gw) (k4 : Cond.initialized y.cls ∈ gw) (k5 : Cond.code y bytes maxL none ∈ gw) (hi : y.name = "<init>")
    (hd : y.cls ≠ "java/lang/invoke/MethodHandle" ∧ y.cls ≠ "java/lang/invoke/VarHandle" ∧ (parseMethodDescriptor y.desc).map (fun d => d.parameters.length) = some n) (hrc : rm.cells = mc) (hrs : rm.slots = ms) (hR : rm.frames + 1 ≤ R.frames ∧ 8 + (maxL + 11) + rm.locals ≤ R.locals)
    (hn : As.length = n) (hsize : ls.size = nL) (hstack : st0 = As.reverse ++ .ref b :: rest) (hW : (rest.map fun v => v.category).sum ≤ 8) (hdg : decode cc pc = .ok (.invokespecial index, 3)) (hf : cells + mc ≤ R.cells ∧ slots + ms ≤ R.slots) :
    va_Run p l e R s m args below meth c H locs cells slots mc ms (F0 m pc ls st0) rest (Qc (Value.ref b :: As).toArray) (AA s0) := by
  obtain ⟨hx, hb, hr, hml, hown, hg, hK, hnn, hE, hlocks, hA⟩ := X
  exact va_runI (As := As) ⟨hx, hb, hml, hown, hg⟩ hM ⟨callB_of n hg (gw_code k5) rfl hrc hrs (hg _ k4) (hg _ k1) hd hR, hi, hg _ k2⟩ ⟨mP.blind, mP.at hE hP hS⟩ rfl hn hsize hstack (lv_room hW) hdg hf
theorem rn_IN (X : CX s0 dC dI dA own cc nL ret0 p s m args meth c) (hP : fw_P (dC, dI) cls_ (AA s0) w H) (hS : va_S (AA s0) s.heap H locs) (hM : Met l y [.code y bytes maxL none] rm (mP s0 dC dI w (.ref b :: As)) Qc mc ms (AA s0))
    (k1 : Cond.methodLinkNest own index y host ∈ nws) (k2 : Cond.instanceMethod y ∈ gw) (k4 : Cond.initialized y.cls ∈ gw) (k5 : Cond.code y bytes maxL none ∈ gw) (hi : y.name = "<init>")
    (hd : y.cls ≠ "java/lang/invoke/MethodHandle" ∧ y.cls ≠ "java/lang/invoke/VarHandle" ∧ (parseMethodDescriptor y.desc).map (fun d => d.parameters.length) = some n) (hrc : rm.cells = mc) (hrs : rm.slots = ms) (hR : rm.frames + 1 ≤ R.frames ∧ 8 + (maxL + 11) + rm.locals ≤ R.locals)
    (hn : As.length = n) (hsize : ls.size = nL) (hstack : st0 = As.reverse ++ .ref b :: rest) (hW : (rest.map fun v => v.category).sum ≤ 8) (hdg : decode cc pc = .ok (.invokespecial index, 3)) (hf : cells + mc ≤ R.cells ∧ slots + ms ≤ R.slots) :
    va_Run p l e R s m args below meth c H locs cells slots mc ms (F0 m pc ls st0) rest (Qc (Value.ref b :: As).toArray) (AA s0) := by
  obtain ⟨hx, hb, hr, hml, hown, hg, hK, hnn, hE, hlocks, hA⟩ := X
  exact va_runIN (As := As) ⟨hx, hb, hml, hown, hg⟩ hM ⟨va_cnB n hg (gw_code k5) rfl hrc hrs (va_Nw.of rfl (hnn _ k1)) (hg _ k4) hd hR, hi, hg _ k2⟩ ⟨mP.blind, mP.at hE hP hS⟩ rfl hn hsize hstack (lv_room hW) hdg hf
end CAL
section NUM
variable {p : Program} {l : Launch} {e : Env} {R : Room} {s : State} {m : MethodId} {args : Array Value} {below : List Frame} {meth : Method} {c : Code} {H : Heap} {locs : List Loc} {cells slots : Nat} {Q : State → Prop}
variable {cc : ByteArray} {pc : Nat} {ls : Array Slot} {rest : List Value}
theorem nu_iadd (hx : p.tables.exec = Jvm.exec) (hb : c.code = cc) {a b r : Nat} (hdg : decode cc pc = .ok (.iadd, 1)) (hr : a + b = r) (k : W p l e R s m args below meth c H locs cells slots Q (F0 m (pc + 1) ls (.int (nI r) :: rest))) : W p l e R s m args below meth c H locs cells slots Q (F0 m pc ls (.int (nI b) :: .int (nI a) :: rest)) := by
  refine lv_iadd hx hb hdg ?_
  rw [nI_add, hr]
  exact k
theorem nu_isub (hx : p.tables.exec = Jvm.exec) (hb : c.code = cc) {a b r : Nat} (hdg : decode cc pc = .ok (.isub, 1)) (hr : a = b + r) (k : W p l e R s m args below meth c H locs cells slots Q (F0 m (pc + 1) ls (.int (nI r) :: rest))) : W p l e R s m args below meth c H locs cells slots Q (F0 m pc ls (.int (nI b) :: .int (nI a) :: rest)) := by
  refine lv_isub hx hb hdg ?_
  rw [pk_sub (by omega), show a - b = r by omega]
  exact k
theorem nu_imul (hx : p.tables.exec = Jvm.exec) (hb : c.code = cc) {a b r : Nat} (hdg : decode cc pc = .ok (.imul, 1)) (hr : a * b = r) (k : W p l e R s m args below meth c H locs cells slots Q (F0 m (pc + 1) ls (.int (nI r) :: rest))) : W p l e R s m args below meth c H locs cells slots Q (F0 m pc ls (.int (nI b) :: .int (nI a) :: rest)) := by
  refine lv_imul hx hb hdg ?_
  rw [pk_mul, hr]
  exact k
theorem nu_lt (hx : p.tables.exec = Jvm.exec) (hb : c.code = cc) {a b : Nat} {off : Int} {tgt : Nat} (ha : a < 2 ^ 31) (hb2 : b < 2 ^ 31) (hdg : decode cc pc = .ok (.if_icmp .lt off, 3)) (ht : (pc : Int) + off = (tgt : Int)) (k1 : a < b → W p l e R s m args below meth c H locs cells slots Q (F0 m tgt ls rest)) (k2 : b ≤ a → W p l e R s m args below meth c H locs cells slots Q (F0 m (pc + 3) ls rest)) : W p l e R s m args below meth c H locs cells slots Q (F0 m pc ls (.int (nI b) :: .int (nI a) :: rest)) :=
  lv_icmp_lt hx hb hdg ht (fun h => k1 ((nI_ltI ha hb2).mp h)) (fun h => k2 (Nat.not_lt.mp (fun q => h ((nI_ltI ha hb2).mpr q))))
theorem nu_ge (hx : p.tables.exec = Jvm.exec) (hb : c.code = cc) {a b : Nat} {off : Int} {tgt : Nat} (ha : a < 2 ^ 31) (hb2 : b < 2 ^ 31) (hdg : decode cc pc = .ok (.if_icmp .ge off, 3)) (ht : (pc : Int) + off = (tgt : Int)) (k1 : b ≤ a → W p l e R s m args below meth c H locs cells slots Q (F0 m tgt ls rest)) (k2 : a < b → W p l e R s m args below meth c H locs cells slots Q (F0 m (pc + 3) ls rest)) : W p l e R s m args below meth c H locs cells slots Q (F0 m pc ls (.int (nI b) :: .int (nI a) :: rest)) :=
  lv_icmp_ge hx hb hdg ht (fun h => k1 ((nI_leI hb2 ha).mp h)) (fun h => k2 (Nat.not_le.mp (fun q => h ((nI_leI hb2 ha).mpr q))))
theorem nu_gt (hx : p.tables.exec = Jvm.exec) (hb : c.code = cc) {a b : Nat} {off : Int} {tgt : Nat} (ha : a < 2 ^ 31) (hb2 : b < 2 ^ 31) (hdg : decode cc pc = .ok (.if_icmp .gt off, 3)) (ht : (pc : Int) + off = (tgt : Int)) (k1 : b < a → W p l e R s m args below meth c H locs cells slots Q (F0 m tgt ls rest)) (k2 : a ≤ b → W p l e R s m args below meth c H locs cells slots Q (F0 m (pc + 3) ls rest)) : W p l e R s m args below meth c H locs cells slots Q (F0 m pc ls (.int (nI b) :: .int (nI a) :: rest)) :=
  lv_icmp_gt hx hb hdg ht (fun h => k1 ((nI_ltI hb2 ha).mp h)) (fun h => k2 (Nat.not_lt.mp (fun q => h ((nI_ltI hb2 ha).mpr q))))
theorem nu_le (hx : p.tables.exec = Jvm.exec) (hb : c.code = cc) {a b : Nat} {off : Int} {tgt : Nat} (ha : a < 2 ^ 31) (hb2 : b < 2 ^ 31) (hdg : decode cc pc = .ok (.if_icmp .le off, 3)) (ht : (pc : Int) + off = (tgt : Int)) (k1 : a ≤ b → W p l e R s m args below meth c H locs cells slots Q (F0 m tgt ls rest)) (k2 : b < a → W p l e R s m args below meth c H locs cells slots Q (F0 m (pc + 3) ls rest)) : W p l e R s m args below meth c H locs cells slots Q (F0 m pc ls (.int (nI b) :: .int (nI a) :: rest)) :=
  lv_icmp_le hx hb hdg ht (fun h => k1 ((nI_leI ha hb2).mp h)) (fun h => k2 (Nat.not_le.mp (fun q => h ((nI_leI ha hb2).mpr q))))
theorem nu_eq (hx : p.tables.exec = Jvm.exec) (hb : c.code = cc) {a b : Nat} {off : Int} {tgt : Nat} (ha : a < 2 ^ 31) (hb2 : b < 2 ^ 31) (hdg : decode cc pc = .ok (.if_icmp .eq off, 3)) (ht : (pc : Int) + off = (tgt : Int)) (k1 : a = b → W p l e R s m args below meth c H locs cells slots Q (F0 m tgt ls rest)) (k2 : a ≠ b → W p l e R s m args below meth c H locs cells slots Q (F0 m (pc + 3) ls rest)) : W p l e R s m args below meth c H locs cells slots Q (F0 m pc ls (.int (nI b) :: .int (nI a) :: rest)) :=
  lv_icmp_eq hx hb hdg ht (fun h => k1 ((nI_eq ha hb2).mp h)) (fun h => k2 (fun q => h ((nI_eq ha hb2).mpr q)))
theorem nu_ne (hx : p.tables.exec = Jvm.exec) (hb : c.code = cc) {a b : Nat} {off : Int} {tgt : Nat} (ha : a < 2 ^ 31) (hb2 : b < 2 ^ 31) (hdg : decode cc pc = .ok (.if_icmp .ne off, 3)) (ht : (pc : Int) + off = (tgt : Int)) (k1 : a ≠ b → W p l e R s m args below meth c H locs cells slots Q (F0 m tgt ls rest)) (k2 : a = b → W p l e R s m args below meth c H locs cells slots Q (F0 m (pc + 3) ls rest)) : W p l e R s m args below meth c H locs cells slots Q (F0 m pc ls (.int (nI b) :: .int (nI a) :: rest)) :=
  lv_icmp_ne hx hb hdg ht (fun h => k1 (fun q => h ((nI_eq ha hb2).mpr q))) (fun h => k2 ((nI_eq ha hb2).mp h))
theorem nu_ifeq (hx : p.tables.exec = Jvm.exec) (hb : c.code = cc) {b : Bool} {off : Int} {tgt : Nat} (hdg : decode cc pc = .ok (.ifCond .eq off, 3)) (ht : (pc : Int) + off = (tgt : Int)) (k1 : b = false → W p l e R s m args below meth c H locs cells slots Q (F0 m tgt ls rest)) (k2 : b = true → W p l e R s m args below meth c H locs cells slots Q (F0 m (pc + 3) ls rest)) : W p l e R s m args below meth c H locs cells slots Q (F0 m pc ls (.int (nI b.toNat) :: rest)) :=
  lv_if_eq hx hb hdg ht (fun h => k1 (by cases b with | false => rfl | true => exact absurd h (by decide))) (fun h => k2 (by cases b with | true => rfl | false => exact absurd rfl h))
theorem nu_ifne (hx : p.tables.exec = Jvm.exec) (hb : c.code = cc) {b : Bool} {off : Int} {tgt : Nat} (hdg : decode cc pc = .ok (.ifCond .ne off, 3)) (ht : (pc : Int) + off = (tgt : Int)) (k1 : b = true → W p l e R s m args below meth c H locs cells slots Q (F0 m tgt ls rest)) (k2 : b = false → W p l e R s m args below meth c H locs cells slots Q (F0 m (pc + 3) ls rest)) : W p l e R s m args below meth c H locs cells slots Q (F0 m pc ls (.int (nI b.toNat) :: rest)) :=
  lv_if_ne hx hb hdg ht (fun h => k1 (by cases b with | true => rfl | false => exact absurd rfl h)) (fun h => k2 (by cases b with | false => rfl | true => exact absurd h (by decide)))
end NUM
end
section
abbrev nf (f : Nat → Nat) : Nat → Int32 := fun k => nI (f k)
abbrev zf (f : Nat → Bool) : Nat → Int32 := fun k => nI (f k).toNat
theorem nf_up {f : Nat → Nat} {j v : Nat} : upd (nf f) j (nI v) = nf (va_up f j v) := by
  funext k
  by_cases h : k = j
  · simp [upd, va_up, nf, zf, h]
  · simp [upd, va_up, nf, zf, h]
theorem nar_b (b : Bool) : narrow .boolean (.int (nI b.toNat)) = .int (nI b.toNat) := by cases b <;> decide
theorem fit_b (b : Bool) : fits .boolean (.int (nI b.toNat)) = true := by cases b <;> decide
theorem vnar_b (b : Bool) : vp_nar .boolean (nI b.toNat) = nI b.toNat := by cases b <;> decide
theorem zf_up {f : Nat → Bool} {j : Nat} {v : Bool} : upd (zf f) j (vp_nar .boolean (nI v.toNat)) = zf (va_up f j v) := by
  rw [vnar_b]
  funext k
  by_cases h : k = j
  · simp [upd, va_up, nf, zf, h]
  · simp [upd, va_up, nf, zf, h]
theorem rf_or (r : Option Nat) : va_rf r = .null ∨ ∃ a, va_rf r = .ref a := by
  cases r with
  | none => exact Or.inl rfl
  | some a => exact Or.inr ⟨a, rfl⟩
section RWS
variable {p : Program} {l : Launch} {e : Env} {R : Room} {s : State} {m : MethodId} {args : Array Value} {below : List Frame} {meth : Method} {c : Code} {H : Heap} {locs : List Loc} {cells slots : Nat} {Q : State → Prop}
variable {cc : ByteArray} {pc : Nat} {ls : Array Slot} {rest : List Value} {D : va_G} {cl : List vw_C} {tys : List (ClassId × FieldType)} {A : Nat → Prop} {H0 : Heap} {a : Nat} {w : fw_W}
theorem fw_aldg (hexec : p.tables.exec = Jvm.exec) (hb : c.code = cc) (hK : va_K D cl tys s) (hP : fw_P D cl A w H) {cA : ClassId} {t : FieldType} {n : Nat} {f : Nat → Option Nat} (ha : w a = some (.inl (cA, n, .inr (.inr (.inr (.inr f)))))) (t0 : Nat) (ht : tys[t0]? = some (cA, .array t)) {j : Nat} (hj : j < n) (hn : n < 2 ^ 31) (hdg : decode cc pc = .ok (.aaload, 1))
    (kk : W p l e R s m args below meth c H locs cells slots Q (F0 m (pc + 1) ls (va_rf (f j) :: rest))) : W p l e R s m args below meth c H locs cells slots Q (F0 m pc ls (.int (nI j) :: .ref a :: rest)) := by
  have hc : (nI j).toNatClampNeg = j := nI_clamp (Nat.lt_trans hj hn)
  have hin := vp_in_nI hj hn
  refine W.aald (v := va_rf (f j)) (ty := .array t) hexec hb (hP.one ha 0 _ rfl) ((hK.2 t0 _ ht).1 n (fun j => va_rf (f j))) rfl (fun q => by cases q) (by show ¬ (nI j < 0 ∨ (arrV _ _ _).slots.size ≤ _); rw [arrV_size]; exact hin) (by show (arrV _ _ _).slots[_]? = _; rw [hc, arrV_read _ _ hj]) rfl rfl hdg kk
theorem fw_putF (hexec : p.tables.exec = Jvm.exec) (hb : c.code = cc) {own ref C : String} {T : u_T} {N ci index : Nat} {Ts : List Cond} (hts : ∀ w ∈ Ts, w.before args s = true) (hin : ∀ w ∈ u_ws C T N, w ∈ Ts) (ty0 : Nat → FieldType) (hty : ∀ k, k < N → parseFieldDescriptor (T k).2.2.1 = some (ty0 k)) (hnm : ∀ a, a < N → ∀ b, b < N → a ≠ b → (T a).2.1 ≠ (T b).2.1) (hown : s.vm.findClass own = some m.cls) (hK : va_K D cl tys s) (hP : fw_P D cl A w H) (hS0 : va_S A H0 H locs) {fs : List Value} (he : w a = some (.inr (ci, fs))) (hc : cl[ci]? = some (C, T, N)) (k : Nat) (hk : k < N) (hlink : (Cond.fieldLink own index ref (T k).2.1 (T k).2.2.1).before args s = true) (hsame : ∀ x, s.fieldFound? (T k).1 (T k).2.1 (T k).2.2.1 = some x → s.fieldFound? ref (T k).2.1 (T k).2.2.1 = some x) (hfin : (T k).2.2.2 = true) (hin2 : meth.name = "<init>") (hdecl : (T k).1 = own) {ty : FieldType} {v : Value} (hd : parseFieldDescriptor (T k).2.2.1 = some ty) (hn : narrow ty v = v) (hfit : fits ty v = true) (hl : k < fs.length)
    (hdg : decode cc pc = .ok (.putfield index, 3)) (kk : ∀ (w1 : fw_W) (H1 : Heap) (locs1 : List Loc), w1 = va_up w a (some (.inr (ci, fs.set k v))) → fw_P D cl A w1 H1 → va_S A H0 H1 locs1 → W p l e R s m args below meth c H1 locs1 cells slots Q (F0 m (pc + 3) ls rest)) : W p l e R s m args below meth c H locs cells slots Q (F0 m pc ls (v :: .ref a :: rest)) := by
  obtain ⟨ws, hPw, hDw, hw⟩ := fw_open hP
  obtain ⟨k2, hk2⟩ := hw a _ he
  exact va_putF hexec hb hts hin ty0 hty hnm hown hK hPw hDw hS0 k2 hk2 hc k hk hlink hsame hfin hin2 hdecl hd hn hfit hl hdg (fun H1 locs1 h1 h2 h3 => kk _ H1 locs1 rfl (fw_set hw hk2 h1 h2) h3)
end RWS
theorem mB_of {s0 t : State} {dC : Nat → ClassId} {dI : Nat → Nat → Nat} {w : fw_W} {H : Heap} (ht : t.heap = H) (hP : fw_P (dC, dI) cls_ (AA s0) w H) : mB s0 dC dI w t := by
  subst ht
  exact hP
end
section
/-! ===== traces as values: the owner, what was asked for and got, the value that came of it ===== -/
abbrev tv : Type := Nat × List (Nat × Int64) × Int64
def noteL (L : List (Nat × Int64)) (k : Nat) (v : Int64) : List (Nat × Int64) := if L.length < 3 ∧ ∀ q ∈ L, q.1 ≠ k then L ++ [(k, v)] else L
/-- a Trace object at h, its arrays at kt and vt -/
def aT (dA : Nat → ClassId) (w : fw_W) (h kt vt o : Nat) (L : List (Nat × Int64)) (res : Int64) : Prop := ∃ (fk : Nat → Int32) (fv : Nat → Int64), w h = some (.inr (3, [.int (nI o), .ref kt, .ref vt, .int (nI L.length), .long res])) ∧ w kt = some (.inl (dA 0, 3, .inl fk)) ∧ w vt = some (.inl (dA 1, 3, .inr (.inl fv))) ∧ L.length ≤ 3 ∧ ∀ (i : Nat) (q : Nat × Int64), L[i]? = some q → fk i = nI q.1 ∧ fv i = q.2 ∧ q.1 < 12
theorem aT.kept {dA : Nat → ClassId} {w w' : fw_W} {h kt vt o : Nat} {L : List (Nat × Int64)} {res : Int64} (hT : aT dA w h kt vt o L res) (h1 : w' h = w h) (h2 : w' kt = w kt) (h3 : w' vt = w vt) : aT dA w' h kt vt o L res := by
  obtain ⟨fk, fv, a, b, c, d⟩ := hT
  exact ⟨fk, fv, h1.trans a, h2.trans b, h3.trans c, d⟩
theorem aT_has {L : List (Nat × Int64)} {fk : Nat → Int32} {fv : Nat → Int64} {k : Nat} (hk : k < 12) (hL : ∀ (i : Nat) (q : Nat × Int64), L[i]? = some q → fk i = nI q.1 ∧ fv i = q.2 ∧ q.1 < 12) : (∃ j, j < L.length ∧ fk j = nI k) ↔ ¬ ∀ q ∈ L, q.1 ≠ k := by
  constructor
  · rintro ⟨j, hj, e⟩ h
    have hq : L[j]? = some L[j] := List.getElem?_eq_getElem hj
    obtain ⟨e1, -, e3⟩ := hL j _ hq
    exact h _ (List.getElem_mem hj) ((nI_eq (by omega) (by omega)).mp (e1.symm.trans e))
  · intro h
    refine Classical.byContradiction fun hn => h fun q hq e => hn ?_
    obtain ⟨j, hj⟩ := List.getElem?_of_mem hq
    exact ⟨j, (List.getElem?_eq_some_iff.mp hj).1, by rw [(hL j q hj).1, e]⟩
theorem aT_note {L : List (Nat × Int64)} {fk : Nat → Int32} {fv : Nat → Int64} {k : Nat} {v : Int64} (hk : k < 12) (h3 : L.length < 3) (hL : ∀ (i : Nat) (q : Nat × Int64), L[i]? = some q → fk i = nI q.1 ∧ fv i = q.2 ∧ q.1 < 12) : ∀ (i : Nat) (q : Nat × Int64), (L ++ [(k, v)])[i]? = some q → upd fk L.length (nI k) i = nI q.1 ∧ vp_updL fv L.length v i = q.2 ∧ q.1 < 12 := by
  intro i q hq
  by_cases hi : i < L.length
  · rw [List.getElem?_append_left hi] at hq
    rw [pk_un (by omega), pk_uLn (by omega)]
    exact hL i q hq
  · rw [List.getElem?_append_right (by omega)] at hq
    have h1 : i - L.length < 1 := (List.getElem?_eq_some_iff.mp hq).1
    have h2 : i = L.length := by omega
    subst h2
    simp at hq
    subst hq
    exact ⟨pk_us, pk_uLs, hk⟩
end
section
set_option maxHeartbeats 4000000 in
set_option maxRecDepth 100000 in
theorem c_T_init {l : Launch} {s0 : State} {dC : Nat → ClassId} {dI : Nat → Nat → Nat} {dA : Nat → ClassId} (B0 : BB s0 dC dI dA) (w : fw_W) (h : Nat) (o : Int32) (f1 : w h = some (.inr (3, [.int 0, .null, .null, .int 0, .long 0]))) : Met l y_T_init [.code y_T_init b_T_init 2 none] ({ frames := 1, cells := 2, slots := 6, locals := 12 }) (mP s0 dC dI w [.ref h, .int o]) (mQv s0 dC dI (fun w' => ∃ kt vt : Nat, w kt = none ∧ w vt = none ∧ kt ≠ vt ∧ w' h = some (.inr (3, [.int o, .ref kt, .ref vt, .int 0, .long 0])) ∧ w' kt = some (.inl (dA 0, 3, .inl (fun _ => 0))) ∧ w' vt = some (.inl (dA 1, 3, .inr (.inl (fun _ => 0)))) ∧ ∀ z, z ≠ h → z ≠ kt → z ≠ vt → w' z = w z)) 2 6 (AA s0) := by
  refine mt_ofW B0 (by decide) (Nat.le_of_ble_eq_true rfl) (fun p e s m args below meth c ls hargs X hin hl hP => ?_)
  have X9 := X
  obtain ⟨hx, hb, hr, hml, hown, hg, hK, hn, hE, hlocks, hA⟩ := X9
  have hS : va_S (AA s0) s.heap s.heap [] := va_S.rf
  have hl : lv_has ls 2 [(0, .ref h), (1, .int o)] := hl
  refine lv_aload_n hx hb d_T_init_0 rfl (lv_at hl 0 rfl) ?_
  refine W.objInit hx hb hown (hg _ k_401) (hg _ k_74) (hg _ k_75) rfl (by rw [hml]; exact hl.1) rfl d_T_init_1 (Nat.le_of_ble_eq_true rfl) (Nat.le_of_ble_eq_true rfl) ?_
  refine W.eq (g2 := F0 m 4 ls []) rfl ?_
  refine lv_aload_n hx hb d_T_init_4 rfl (lv_at hl 0 rfl) ?_
  refine lv_iconst (v := (nI 3)) hx hb d_T_init_5 (by decide) ?_
  refine fw_newa (tys := tyl dA) (atype := .int) (N' := 3) (a0 := (3, .inl (fun _ => 0))) hx hb (hg _ k_106) rfl hK hP hS hA 0 rfl (fun _ => rfl) (by decide) (by decide) (by decide) (Nat.le_of_ble_eq_true rfl) (Nat.le_of_ble_eq_true rfl) d_T_init_6 (fun q1 w2 H hn4 ew3 hP hS => ?_)
  have f1 : w2 h = some (.inr (3, [.int 0, .null, .null, .int 0, .long 0])) := by rw [ew3, va_up_ne _ _ (fw_neN f1 hn4)]; exact f1
  have f5 : w2 q1 = some (.inl (dA 0, 3, .inl (fun _ => 0))) := by rw [ew3]; exact va_up_self _ _ _
  refine fw_putF (D := (dC, dI)) (ci := 3) (v := .ref q1) (ty := (.array .int)) (C := R_T) (T := F_T) (N := 5) hx hb hg in_T ft_T ft_T_ok n_T hown hK hP hS f1 rfl 1 (by decide) (hg _ k_406) (fun _ h9 => h9) rfl (hin rfl) rfl (by decide +kernel) rfl rfl (Nat.le_of_ble_eq_true rfl) d_T_init_8 (fun w6 H locs ew7 hP hS => ?_)
  have f5 : w6 q1 = some (.inl (dA 0, 3, .inl (fun _ => 0))) := by rw [ew7, va_up_ne _ _ (fw_ne f5 f1 (by simp))]; exact f5
  have f1 : w6 h = some (.inr (3, [.int 0, .ref q1, .null, .int 0, .long 0])) := by rw [ew7]; exact va_up_self _ _ _
  refine lv_aload_n hx hb d_T_init_11 rfl (lv_at hl 0 rfl) ?_
  refine lv_iconst (v := (nI 3)) hx hb d_T_init_12 (by decide) ?_
  refine fw_newa (tys := tyl dA) (atype := .long) (N' := 3) (a0 := (3, .inr (.inl (fun _ => 0)))) hx hb (hg _ k_107) rfl hK hP hS hA 1 rfl (fun _ => rfl) (by decide) (by decide) (by decide) (Nat.le_of_ble_eq_true rfl) (Nat.le_of_ble_eq_true rfl) d_T_init_13 (fun q8 w9 H hn11 ew10 hP hS => ?_)
  have f1 : w9 h = some (.inr (3, [.int 0, .ref q1, .null, .int 0, .long 0])) := by rw [ew10, va_up_ne _ _ (fw_neN f1 hn11)]; exact f1
  have f5 : w9 q1 = some (.inl (dA 0, 3, .inl (fun _ => 0))) := by rw [ew10, va_up_ne _ _ (fw_neN f5 hn11)]; exact f5
  have f12 : w9 q8 = some (.inl (dA 1, 3, .inr (.inl (fun _ => 0)))) := by rw [ew10]; exact va_up_self _ _ _
  refine fw_putF (D := (dC, dI)) (ci := 3) (v := .ref q8) (ty := (.array .long)) (C := R_T) (T := F_T) (N := 5) hx hb hg in_T ft_T ft_T_ok n_T hown hK hP hS f1 rfl 2 (by decide) (hg _ k_409) (fun _ h9 => h9) rfl (hin rfl) rfl (by decide +kernel) rfl rfl (Nat.le_of_ble_eq_true rfl) d_T_init_15 (fun w13 H locs ew14 hP hS => ?_)
  have f5 : w13 q1 = some (.inl (dA 0, 3, .inl (fun _ => 0))) := by rw [ew14, va_up_ne _ _ (fw_ne f5 f1 (by simp))]; exact f5
  have f12 : w13 q8 = some (.inl (dA 1, 3, .inr (.inl (fun _ => 0)))) := by rw [ew14, va_up_ne _ _ (fw_ne f12 f1 (by simp))]; exact f12
  have f1 : w13 h = some (.inr (3, [.int 0, .ref q1, .ref q8, .int 0, .long 0])) := by rw [ew14]; exact va_up_self _ _ _
  refine lv_aload_n hx hb d_T_init_18 rfl (lv_at hl 0 rfl) ?_
  refine lv_iload_n hx hb d_T_init_19 rfl (lv_at hl 1 rfl) ?_
  refine fw_putF (D := (dC, dI)) (ci := 3) (v := .int o) (ty := .int) (C := R_T) (T := F_T) (N := 5) hx hb hg in_T ft_T ft_T_ok n_T hown hK hP hS f1 rfl 0 (by decide) (hg _ k_402) (fun _ h9 => h9) rfl (hin rfl) rfl (by decide +kernel) rfl rfl (Nat.le_of_ble_eq_true rfl) d_T_init_20 (fun w15 H locs ew16 hP hS => ?_)
  have f5 : w15 q1 = some (.inl (dA 0, 3, .inl (fun _ => 0))) := by rw [ew16, va_up_ne _ _ (fw_ne f5 f1 (by simp))]; exact f5
  have f12 : w15 q8 = some (.inl (dA 1, 3, .inr (.inl (fun _ => 0)))) := by rw [ew16, va_up_ne _ _ (fw_ne f12 f1 (by simp))]; exact f12
  have f1 : w15 h = some (.inr (3, [.int o, .ref q1, .ref q8, .int 0, .long 0])) := by rw [ew16]; exact va_up_self _ _ _
  have hvn : w q8 = none ∧ q1 ≠ q8 := by
    have e1 : q8 ≠ h := Ne.symm (fw_neN (w := w6) (by rw [ew7, va_up_self]) hn11)
    have e2 : q1 ≠ q8 := fun z => by
      have a9 := hn11
      rw [ew7, va_up_ne _ _ e1, ew3, ← z, va_up_self] at a9
      cases a9
    have a9 := hn11
    rw [ew7, va_up_ne _ _ e1, ew3, va_up_ne _ _ (Ne.symm e2)] at a9
    exact ⟨a9, e2⟩
  exact W.vret hx hb hr (fun tS ht hW => ⟨⟨w15, rfl, ⟨q1, q8, hn4, hvn.1, hvn.2, f1, f5, f12, (fun z z1 z2 z3 => by rw [ew16, va_up_ne _ _ z1, ew14, va_up_ne _ _ z1, ew10, va_up_ne _ _ z3, ew7, va_up_ne _ _ z1, ew3, va_up_ne _ _ z2])⟩, mB_of ht hP⟩, hS.F ht⟩) hS.2.2 d_T_init_23
set_option maxHeartbeats 4000000 in
set_option maxRecDepth 100000 in
theorem c_T_has {l : Launch} {s0 : State} {dC : Nat → ClassId} {dI : Nat → Nat → Nat} {dA : Nat → ClassId} (B0 : BB s0 dC dI dA) (w : fw_W) (h kt vt sz : Nat) (o : Int32) (res : Int64) (fk : Nat → Int32) (key : Int32) (f1 : w h = some (.inr (3, [.int o, .ref kt, .ref vt, .int (nI sz), .long res]))) (f2 : w kt = some (.inl (dA 0, 3, .inl fk))) (hsz : sz ≤ 3) : Met l y_T_has [.code y_T_has b_T_has 3 (some .boolean)] ({ frames := 0, cells := 0, slots := 0, locals := 0 }) (mP s0 dC dI w [.ref h, .int key]) (mQi s0 dC dI (fun r w' => w' = w ∧ ∃ b : Bool, r = nI b.toNat ∧ (b = true ↔ ∃ j, j < sz ∧ fk j = key))) 0 0 (AA s0) := by
  refine mt_ofW B0 (by decide) (Nat.le_of_ble_eq_true rfl) (fun p e s m args below meth c ls hargs X hin hl hP => ?_)
  have X9 := X
  obtain ⟨hx, hb, hr, hml, hown, hg, hK, hn, hE, hlocks, hA⟩ := X9
  have hS : va_S (AA s0) s.heap s.heap [] := va_S.rf
  have hl : lv_has ls 3 [(0, .ref h), (1, .int key)] := hl
  refine lv_iconst (v := (nI 0)) hx hb d_T_has_0 (by decide) ?_
  refine lv_istore_n (lv' := [(2, .int (nI 0)), (0, .ref h), (1, .int key)]) hx hb d_T_has_1 rfl hl (by decide) rfl (fun ls hl => ?_)
  suffices lp : ∀ (n i : Nat), i ≤ sz → sz < i + n → (∀ j, j < i → fk j ≠ key) → ∀ (ls : Array Slot), lv_has ls 3 [(0, .ref h), (1, .int key), (2, .int (nI i))] → W p l e _ s m args below meth c s.heap [] 0 0 (MQ below _ args s 0 0 (AA s0)) (F0 m 2 ls []) from lp (sz + 1) 0 (Nat.zero_le _) (by omega) (fun j hj => absurd hj (Nat.not_lt_zero j)) ls (lv_sub hl [1, 2, 0] rfl)
  intro n
  induction n with
  | zero => intro i h1 h2; exact absurd h2 (by omega)
  | succ n ih =>
    intro i hi hn2 hpre ls hl
    refine lv_iload_n hx hb d_T_has_2 rfl (lv_at hl 2 rfl) ?_
    refine lv_aload_n hx hb d_T_has_3 rfl (lv_at hl 0 rfl) ?_
    refine va_get (D := (dC, dI)) (ci := 3) (v := .int (nI sz)) (C := R_T) (T := F_T) (N := 5) hx hb hg in_T hown hK (hP.one f1) 0 rfl rfl 3 (by decide) (hg _ k_412) (fun _ h9 => h9) rfl d_T_has_4 ?_
    refine nu_ge (tgt := 28) hx hb (by omega) (by omega) d_T_has_7 (by decide) (fun c1 => ?_) (fun c1 => ?_)
    · refine lv_iconst (v := (nI 0)) hx hb d_T_has_28 (by decide) ?_
      exact W.zret (v := (nI 0)) hx hb hr (by decide) (fun tS ht hW => ⟨⟨(nI 0), w, rfl, ⟨rfl, false, rfl, ⟨fun h => (by cases h), fun ⟨j, h1, h2⟩ => absurd h2 (hpre j (by omega))⟩⟩, mB_of ht hP⟩, hS.F ht⟩) hS.2.2 d_T_has_29
    · refine lv_aload_n hx hb d_T_has_10 rfl (lv_at hl 0 rfl) ?_
      refine va_get (D := (dC, dI)) (ci := 3) (v := .ref kt) (C := R_T) (T := F_T) (N := 5) hx hb hg in_T hown hK (hP.one f1) 0 rfl rfl 1 (by decide) (hg _ k_406) (fun _ h9 => h9) rfl d_T_has_11 ?_
      refine lv_iload_n hx hb d_T_has_14 rfl (lv_at hl 2 rfl) ?_
      refine fw_iald (tys := tyl dA) hx hb hK hP f2 0 rfl (j := i) (by omega) (by decide) d_T_has_15 ?_
      refine lv_iload_n hx hb d_T_has_16 rfl (lv_at hl 1 rfl) ?_
      refine lv_icmp_ne (tgt := 22) hx hb d_T_has_17 (by decide) (fun c2 => ?_) (fun c2 => ?_)
      · refine lv_iinc (v := nI (i + 1)) (lv' := [(2, .int (nI (i + 1))), (0, .ref h), (1, .int key)]) hx hb d_T_has_22 hl (k := 2) rfl (nI_add _ 1) (by decide) rfl (fun ls hl => ?_)
        refine lv_goto (tgt := 2) hx hb d_T_has_25 (by decide) ?_
        exact ih (i + 1) (by omega) (by omega) (fun j hj => by rcases Nat.lt_succ_iff_lt_or_eq.mp hj with h | h; exact hpre j h; rw [h]; exact c2) ls (lv_sub hl [1, 2, 0] rfl)
      · refine lv_iconst (v := (nI 1)) hx hb d_T_has_20 (by decide) ?_
        exact W.zret (v := (nI 1)) hx hb hr (by decide) (fun tS ht hW => ⟨⟨(nI 1), w, rfl, ⟨rfl, true, rfl, ⟨fun _ => ⟨i, by omega, c2⟩, fun _ => rfl⟩⟩, mB_of ht hP⟩, hS.F ht⟩) hS.2.2 d_T_has_21
end
section
set_option maxHeartbeats 4000000 in
set_option maxRecDepth 100000 in
theorem c_T_note {l : Launch} {s0 : State} {dC : Nat → ClassId} {dI : Nat → Nat → Nat} {dA : Nat → ClassId} (B0 : BB s0 dC dI dA) (w : fw_W) (h kt vt o k : Nat) (L : List (Nat × Int64)) (res v : Int64) (hT : aT dA w h kt vt o L res) (hk : k < 12) : Met l y_T_note [.code y_T_note b_T_note 4 none] ({ frames := 1, cells := 0, slots := 0, locals := 22 }) (mP s0 dC dI w [.ref h, .int (nI k), .long v]) (mQv s0 dC dI (fun w' => aT dA w' h kt vt o (noteL L k v) res ∧ ∀ z, z ≠ h → z ≠ kt → z ≠ vt → w' z = w z)) 0 0 (AA s0) := by
  obtain ⟨fk, fv, f1, f2, f3, h3, hL⟩ := hT
  refine mt_ofW B0 (by decide) (Nat.le_of_ble_eq_true rfl) (fun p e s m args below meth c ls hargs X hin hl hP => ?_)
  have X9 := X
  obtain ⟨hx, hb, hr, hml, hown, hg, hK, hn, hE, hlocks, hA⟩ := X9
  have hS : va_S (AA s0) s.heap s.heap [] := va_S.rf
  have hl : lv_has ls 4 [(0, .ref h), (1, .int (nI k)), (2, .long v)] := hl
  refine lv_aload_n hx hb d_T_note_0 rfl (lv_at hl 0 rfl) ?_
  refine va_get (D := (dC, dI)) (ci := 3) (v := .int (nI L.length)) (C := R_T) (T := F_T) (N := 5) hx hb hg in_T hown hK (hP.one f1) 0 rfl rfl 3 (by decide) (hg _ k_412) (fun _ h9 => h9) rfl d_T_note_1 ?_
  refine lv_iconst (v := (nI 3)) hx hb d_T_note_4 (by decide) ?_
  refine nu_ge (tgt := 46) hx hb (by omega) (by omega) d_T_note_5 (by decide) (fun c1 => ?_) (fun c1 => ?_)
  · exact W.vret hx hb hr (fun tS ht hW => ⟨⟨w, rfl, ⟨by rw [noteL, if_neg (fun h => by omega)]; exact ⟨fk, fv, f1, f2, f3, h3, hL⟩, fun z _ _ _ => rfl⟩, mB_of ht hP⟩, hS.F ht⟩) hS.2.2 d_T_note_46
  · refine lv_aload_n hx hb d_T_note_8 rfl (lv_at hl 0 rfl) ?_
    refine lv_iload_n hx hb d_T_note_9 rfl (lv_at hl 1 rfl) ?_
    refine va_calli (rn_V (n := 1) (As := [.int (nI k)]) (rest := []) (C := R_T) (T := F_T) (N := 5) (ci := 3) X hP hS (c_T_has B0 w h kt vt L.length (nI o) res fk (nI k) f1 f2 h3) k_448 k_450 k_26 k_64 k_451 (by decide +kernel) rfl rfl ⟨Nat.le_of_ble_eq_true rfl, Nat.le_of_ble_eq_true rfl⟩ f1 rfl rfl hl.1 rfl (Nat.le_of_ble_eq_true rfl) d_T_note_10 ⟨Nat.le_of_ble_eq_true rfl, Nat.le_of_ble_eq_true rfl⟩) hS (fun q _ h => h) (fun q h => h) (fun r w17 tS H locs ht hvm hw hB hz1 hk1 hS => ?_)
    have hP : fw_P (dC, dI) cls_ (AA s0) w17 H := by rw [← ht]; exact hB
    obtain ⟨ew9, b, rfl, hb9⟩ := hw
    rw [ew9] at hP
    refine nu_ifne (tgt := 46) hx hb d_T_note_13 (by decide) (fun c2 => ?_) (fun c2 => ?_)
    · exact W.vret hx hb hr (fun tS ht hW => ⟨⟨w, rfl, ⟨by rw [noteL, if_neg (fun h => (aT_has hk hL).mp (hb9.mp c2) h.2)]; exact ⟨fk, fv, f1, f2, f3, h3, hL⟩, fun z _ _ _ => rfl⟩, mB_of ht hP⟩, hS.F ht⟩) hS.2.2 d_T_note_46
    · refine lv_aload_n hx hb d_T_note_16 rfl (lv_at hl 0 rfl) ?_
      refine va_get (D := (dC, dI)) (ci := 3) (v := .ref kt) (C := R_T) (T := F_T) (N := 5) hx hb hg in_T hown hK (hP.one f1) 0 rfl rfl 1 (by decide) (hg _ k_406) (fun _ h9 => h9) rfl d_T_note_17 ?_
      refine lv_aload_n hx hb d_T_note_20 rfl (lv_at hl 0 rfl) ?_
      refine va_get (D := (dC, dI)) (ci := 3) (v := .int (nI L.length)) (C := R_T) (T := F_T) (N := 5) hx hb hg in_T hown hK (hP.one f1) 0 rfl rfl 3 (by decide) (hg _ k_412) (fun _ h9 => h9) rfl d_T_note_21 ?_
      refine lv_iload_n hx hb d_T_note_24 rfl (lv_at hl 1 rfl) ?_
      refine fw_iast (tys := tyl dA) hx hb hK hP hS f2 0 rfl (j := L.length) (x := (nI k)) c1 (by decide) d_T_note_25 (fun w18 H locs ew19 hP hS => ?_)
      have f1 : w18 h = some (.inr (3, [.int (nI o), .ref kt, .ref vt, .int (nI L.length), .long res])) := by rw [ew19, va_up_ne _ _ (fw_ne f1 f2 (by simp))]; exact f1
      have f3 : w18 vt = some (.inl (dA 1, 3, .inr (.inl fv))) := by rw [ew19, va_up_ne _ _ (fw_ne f3 f2 (by simp))]; exact f3
      have f2 : w18 kt = some (.inl (dA 0, 3, .inl (upd fk L.length (nI k)))) := by rw [ew19]; exact va_up_self _ _ _
      refine lv_aload_n hx hb d_T_note_26 rfl (lv_at hl 0 rfl) ?_
      refine va_get (D := (dC, dI)) (ci := 3) (v := .ref vt) (C := R_T) (T := F_T) (N := 5) hx hb hg in_T hown hK (hP.one f1) 0 rfl rfl 2 (by decide) (hg _ k_409) (fun _ h9 => h9) rfl d_T_note_27 ?_
      refine lv_aload_n hx hb d_T_note_30 rfl (lv_at hl 0 rfl) ?_
      refine va_get (D := (dC, dI)) (ci := 3) (v := .int (nI L.length)) (C := R_T) (T := F_T) (N := 5) hx hb hg in_T hown hK (hP.one f1) 0 rfl rfl 3 (by decide) (hg _ k_412) (fun _ h9 => h9) rfl d_T_note_31 ?_
      refine lv_lload_n hx hb d_T_note_34 rfl (lv_at hl 2 rfl) ?_
      refine fw_last (tys := tyl dA) hx hb hK hP hS f3 1 rfl (j := L.length) c1 (by decide) d_T_note_35 (fun w20 H locs ew21 hP hS => ?_)
      have f1 : w20 h = some (.inr (3, [.int (nI o), .ref kt, .ref vt, .int (nI L.length), .long res])) := by rw [ew21, va_up_ne _ _ (fw_ne f1 f3 (by simp))]; exact f1
      have f2 : w20 kt = some (.inl (dA 0, 3, .inl (upd fk L.length (nI k)))) := by rw [ew21, va_up_ne _ _ (fw_ne f2 f3 (by simp))]; exact f2
      have f3 : w20 vt = some (.inl (dA 1, 3, .inr (.inl (vp_updL fv L.length v)))) := by rw [ew21]; exact va_up_self _ _ _
      refine lv_aload_n hx hb d_T_note_36 rfl (lv_at hl 0 rfl) ?_
      refine lv_dup hx hb d_T_note_37 rfl ?_
      refine va_get (D := (dC, dI)) (ci := 3) (v := .int (nI L.length)) (C := R_T) (T := F_T) (N := 5) hx hb hg in_T hown hK (hP.one f1) 0 rfl rfl 3 (by decide) (hg _ k_412) (fun _ h9 => h9) rfl d_T_note_38 ?_
      refine lv_iconst (v := (nI 1)) hx hb d_T_note_41 (by decide) ?_
      refine nu_iadd (r := L.length + 1) hx hb d_T_note_42 (by omega) ?_
      refine fw_put (D := (dC, dI)) (ci := 3) (v := .int (nI (L.length + 1))) (ty := .int) (C := R_T) (T := F_T) (N := 5) hx hb hg in_T ft_T ft_T_ok n_T hown hK hP hS f1 rfl 3 (by decide) (hg _ k_412) (fun _ h9 => h9) rfl (by decide +kernel) rfl rfl (Nat.le_of_ble_eq_true rfl) d_T_note_43 (fun w22 H locs ew23 hP hS => ?_)
      have f2 : w22 kt = some (.inl (dA 0, 3, .inl (upd fk L.length (nI k)))) := by rw [ew23, va_up_ne _ _ (fw_ne f2 f1 (by simp))]; exact f2
      have f3 : w22 vt = some (.inl (dA 1, 3, .inr (.inl (vp_updL fv L.length v)))) := by rw [ew23, va_up_ne _ _ (fw_ne f3 f1 (by simp))]; exact f3
      have f1 : w22 h = some (.inr (3, [.int (nI o), .ref kt, .ref vt, .int (nI (L.length + 1)), .long res])) := by rw [ew23]; exact va_up_self _ _ _
      exact W.vret hx hb hr (fun tS ht hW => ⟨⟨w22, rfl, ⟨by rw [noteL, if_pos ⟨c1, Classical.byContradiction fun h => by rw [hb9.mpr ((aT_has hk hL).mpr h)] at c2; cases c2⟩]; exact ⟨_, _, by rw [List.length_append]; exact f1, f2, f3, by rw [List.length_append]; exact c1, aT_note hk c1 hL⟩, (fun z z1 z2 z3 => by rw [ew23, va_up_ne _ _ z1, ew21, va_up_ne _ _ z3, ew19, va_up_ne _ _ z2])⟩, mB_of ht hP⟩, hS.F ht⟩) hS.2.2 d_T_note_46
end
section
/-- how many of the first n of worker wk's traces there are -/
def cntS (ft : Nat → Option Nat) (wk : Nat) : Nat → Nat
  | 0 => 0
  | n + 1 => cntS ft wk n + (if ft (wk * 12 + n) = none then 0 else 1)
theorem cntS_le (ft : Nat → Option Nat) (wk : Nat) : ∀ n, cntS ft wk n ≤ n
  | 0 => Nat.le_refl 0
  | n + 1 => by
    have h := cntS_le ft wk n
    unfold cntS
    split <;> omega
def cP (fc : Nat → Option Nat) (pl : List Nat) : Prop := ∀ (i t : Nat), pl[i]? = some t → fc i = some t
def cN (fc : Nat → Option Nat) (n : Nat) : Prop := ∀ i : Nat, n ≤ i → i < 16 → fc i = none
/-- a Memory object: its traces ft, its cache's entries pl (addresses, the oldest first), its tallies fa -/
def aM (dA : Nat → ClassId) (w : fw_W) (h tr ca ta : Nat) (ft : Nat → Option Nat) (pl : List Nat) (fa : Nat → Int32) : Prop := ∃ fc : Nat → Option Nat, w h = some (.inr (0, [.ref tr, .ref ca, .int (nI pl.length), .ref ta])) ∧ w tr = some (.inl (dA 3, 24, .inr (.inr (.inr (.inr ft))))) ∧ w ca = some (.inl (dA 3, 16, .inr (.inr (.inr (.inr fc))))) ∧ w ta = some (.inl (dA 0, 11, .inl fa)) ∧ pl.length ≤ 16 ∧ cP fc pl ∧ cN fc pl.length
def oT (w : fw_W) (t o : Nat) : Prop := ∃ x1 x2 x3 x4 : Value, w t = some (.inr (3, [.int (nI o), x1, x2, x3, x4]))
theorem pI_neg {x : Int32} {cs : Nat} (hcs : cs < 2 ^ 31) (h : ¬ x < 0) (h2 : x < nI cs) : ∃ j, j < cs ∧ x = nI j := by
  obtain ⟨j, hj, rfl⟩ := nI_of h
  exact ⟨j, (nI_ltI hj hcs).mp h2, rfl⟩
def dropF (ft : Nat → Option Nat) (wk n : Nat) : Nat → Option Nat := fun z => if 12 * wk ≤ z ∧ z < 12 * wk + n then none else ft z
theorem dropF_0 (ft : Nat → Option Nat) (wk : Nat) : dropF ft wk 0 = ft := by
  funext z
  unfold dropF
  rw [if_neg (by omega)]
theorem dropF_up (ft : Nat → Option Nat) (wk n : Nat) : va_up (dropF ft wk n) (12 * wk + n) none = dropF ft wk (n + 1) := by
  funext z
  unfold va_up dropF
  by_cases h : z = 12 * wk + n
  · rw [if_pos h, if_pos (by omega)]
  · rw [if_neg h]
    by_cases h2 : 12 * wk ≤ z ∧ z < 12 * wk + n
    · rw [if_pos h2, if_pos (by omega)]
    · rw [if_neg h2, if_neg (by omega)]
theorem cP_to {fc fc' : Nat → Option Nat} {pl pl' : List Nat} (h : cP fc pl) (g : Nat → Nat) (h1 : ∀ i t : Nat, pl'[i]? = some t → pl[g i]? = some t) (h2 : ∀ i : Nat, i < pl'.length → fc' i = fc (g i)) : cP fc' pl' := fun i t hi => by
  rw [h2 i (List.getElem?_eq_some_iff.mp hi).1]
  exact h (g i) t (h1 i t hi)
theorem gt_sub {a b : Nat} (ha : a < 2 ^ 30) (hb : b < 2 ^ 30) (h : a ≤ b) : ¬ (0 : Int32) < nI a - nI b := by
  rw [Int32.lt_iff_toInt_lt, pk_sub_toInt ha hb, Int32.toInt_zero]
  omega
theorem gt_nI {a : Nat} (h0 : 0 < a) (ha : a < 2 ^ 31) : (0 : Int32) < nI a := by
  rw [Int32.lt_iff_toInt_lt, nI_toInt ha, Int32.toInt_zero]
  omega
theorem cP_drop {fc fc' : Nat → Option Nat} {pl : List Nat} {g : Nat} (h : cP fc pl) (h2 : ∀ i : Nat, i < pl.length - g → fc' i = fc (i + g)) : cP fc' (pl.drop g) := by
  refine cP_to h (fun i => i + g) (fun i t hi => ?_) (fun i hi => h2 i (by rw [List.length_drop] at hi; exact hi))
  rw [List.getElem?_drop, Nat.add_comm] at hi
  exact hi
theorem cP_app {fc : Nat → Option Nat} {pl : List Nat} {t : Nat} (h : cP fc pl) : cP (va_up fc pl.length (some t)) (pl ++ [t]) := by
  intro i u hi
  by_cases hl : i < pl.length
  · rw [List.getElem?_append_left hl] at hi
    rw [va_up_ne _ _ (by omega)]
    exact h i u hi
  · rw [List.getElem?_append_right (by omega)] at hi
    have h1 : i - pl.length < 1 := (List.getElem?_eq_some_iff.mp hi).1
    have h2 : i = pl.length := by omega
    subst h2
    simp at hi
    rw [va_up_self, hi]
/-- the entries kept of the first i -/
theorem cP_filt {fx : Nat → Option Nat} {pl : List Nat} {p : Nat → Bool} {i t : Nat} (ht : pl[i]? = some t) (h1 : cP fx ((pl.take i).filter p)) (hp : p t = true) : cP (va_up fx ((pl.take i).filter p).length (some t)) ((pl.take (i + 1)).filter p) := by
  have e : (pl.take (i + 1)).filter p = (pl.take i).filter p ++ [t] := by
    rw [List.take_succ, ht, List.filter_append]
    simp [hp]
  rw [e]
  exact cP_app h1
theorem cP_skip {pl : List Nat} {p : Nat → Bool} {i t : Nat} (ht : pl[i]? = some t) (hp : p t = false) : (pl.take (i + 1)).filter p = (pl.take i).filter p := by
  rw [List.take_succ, ht, List.filter_append]
  simp [hp]
theorem filt_len {pl : List Nat} {p : Nat → Bool} {i : Nat} : ((pl.take i).filter p).length ≤ i := by
  have h1 := List.length_filter_le p (pl.take i)
  have h2 := List.length_take_le i pl
  omega
theorem filt_one {pl : List Nat} {p : Nat → Bool} {i t : Nat} (ht : pl[i]? = some t) (hp : p t = true) : ((pl.take (i + 1)).filter p).length = ((pl.take i).filter p).length + 1 := by
  rw [List.take_succ, ht, List.filter_append]
  simp [hp]
theorem cN_app {fc : Nat → Option Nat} {n t : Nat} (h : cN fc n) : cN (va_up fc n (some t)) (n + 1) := fun i h1 h2 => by
  rw [va_up_ne _ _ (by omega)]
  exact h i (by omega) h2
end
section
set_option maxHeartbeats 4000000 in
set_option maxRecDepth 100000 in
theorem c_M_traceOf {l : Launch} {s0 : State} {dC : Nat → ClassId} {dI : Nat → Nat → Nat} {dA : Nat → ClassId} (B0 : BB s0 dC dI dA) (w : fw_W) (h tr ca ta : Nat) (ft : Nat → Option Nat) (pl : List Nat) (fa : Nat → Int32) (wk k : Nat) (hM : aM dA w h tr ca ta ft pl fa) (hwk : wk < 2) (hk : k < 12) : Met l y_M_traceOf [.code y_M_traceOf b_M_traceOf 3 (some (.object "TraceBuilder$Trace"))] ({ frames := 0, cells := 0, slots := 0, locals := 0 }) (mP s0 dC dI w [.ref h, .int (nI wk), .int (nI k)]) (mQq s0 dC dI (fun r w' => w' = w ∧ r = ft (wk * 12 + k))) 0 0 (AA s0) := by
  obtain ⟨fc, f1, f2, f3, f4, h16, hpl, hcn⟩ := hM
  refine mt_ofW B0 (by decide) (Nat.le_of_ble_eq_true rfl) (fun p e s m args below meth c ls hargs X hin hl hP => ?_)
  have X9 := X
  obtain ⟨hx, hb, hr, hml, hown, hg, hK, hn, hE, hlocks, hA⟩ := X9
  have hS : va_S (AA s0) s.heap s.heap [] := va_S.rf
  have hl : lv_has ls 3 [(0, .ref h), (1, .int (nI wk)), (2, .int (nI k))] := hl
  refine lv_aload_n hx hb d_M_traceOf_0 rfl (lv_at hl 0 rfl) ?_
  refine va_get (D := (dC, dI)) (ci := 0) (v := .ref tr) (C := R_M) (T := F_M) (N := 4) hx hb hg in_M hown hK (hP.one f1) 0 rfl rfl 0 (by decide) (hg _ k_116) (fun _ h9 => h9) rfl d_M_traceOf_1 ?_
  refine lv_iload_n hx hb d_M_traceOf_4 rfl (lv_at hl 1 rfl) ?_
  refine lv_bipush (v := (nI 12)) hx hb d_M_traceOf_5 (by decide) ?_
  refine nu_imul (r := 12 * wk) hx hb d_M_traceOf_7 (by omega) ?_
  refine lv_iload_n hx hb d_M_traceOf_8 rfl (lv_at hl 2 rfl) ?_
  refine nu_iadd (r := 12 * wk + k) hx hb d_M_traceOf_9 (by omega) ?_
  refine fw_aldq (tys := tyl dA) hx hb hK hP f2 3 rfl (j := 12 * wk + k) (by omega) (by decide) d_M_traceOf_10 ?_
  exact W.aret (v := va_rf (ft (12 * wk + k))) hx hb hr (Or.inl ⟨_, rfl⟩) (rf_or _) (fun tS ht hW => ⟨⟨(ft (12 * wk + k)), w, rfl, ⟨rfl, by rw [Nat.mul_comm wk 12]⟩, mB_of ht hP⟩, hS.F ht⟩) hS.2.2 d_M_traceOf_11
set_option maxHeartbeats 4000000 in
set_option maxRecDepth 100000 in
theorem c_M_give {l : Launch} {s0 : State} {dC : Nat → ClassId} {dI : Nat → Nat → Nat} {dA : Nat → ClassId} (B0 : BB s0 dC dI dA) (w : fw_W) (h tr ca ta : Nat) (ft : Nat → Option Nat) (pl : List Nat) (fa : Nat → Int32) (wk t o : Nat) (hM : aM dA w h tr ca ta ft pl fa) (hwk : wk < 2) (ho : o < 12) (hT : oT w t o) : Met l y_M_give [.code y_M_give b_M_give 3 none] ({ frames := 0, cells := 0, slots := 0, locals := 0 }) (mP s0 dC dI w [.ref h, .int (nI wk), .ref t]) (mQv s0 dC dI (fun w' => aM dA w' h tr ca ta (va_up ft (wk * 12 + o) (some t)) pl fa ∧ ∀ z, z ≠ tr → w' z = w z)) 0 0 (AA s0) := by
  obtain ⟨x1, x2, x3, x4, f5⟩ := hT
  obtain ⟨fc, f1, f2, f3, f4, h16, hpl, hcn⟩ := hM
  refine mt_ofW B0 (by decide) (Nat.le_of_ble_eq_true rfl) (fun p e s m args below meth c ls hargs X hin hl hP => ?_)
  have X9 := X
  obtain ⟨hx, hb, hr, hml, hown, hg, hK, hn, hE, hlocks, hA⟩ := X9
  have hS : va_S (AA s0) s.heap s.heap [] := va_S.rf
  have hl : lv_has ls 3 [(0, .ref h), (1, .int (nI wk)), (2, .ref t)] := hl
  refine lv_aload_n hx hb d_M_give_0 rfl (lv_at hl 0 rfl) ?_
  refine va_get (D := (dC, dI)) (ci := 0) (v := .ref tr) (C := R_M) (T := F_M) (N := 4) hx hb hg in_M hown hK (hP.one f1) 0 rfl rfl 0 (by decide) (hg _ k_116) (fun _ h9 => h9) rfl d_M_give_1 ?_
  refine lv_iload_n hx hb d_M_give_4 rfl (lv_at hl 1 rfl) ?_
  refine lv_bipush (v := (nI 12)) hx hb d_M_give_5 (by decide) ?_
  refine nu_imul (r := 12 * wk) hx hb d_M_give_7 (by omega) ?_
  refine lv_aload_n hx hb d_M_give_8 rfl (lv_at hl 2 rfl) ?_
  refine va_getN (D := (dC, dI)) (ci := 3) (v := .int (nI o)) (C := R_T) (T := F_T) (N := 5) hx hb hg in_T hown hK (hP.one f5) 0 rfl rfl 0 (by decide) (hn _ u_403) (fun _ h9 => h9) rfl d_M_give_9 ?_
  refine nu_iadd (r := 12 * wk + o) hx hb d_M_give_12 (by omega) ?_
  refine lv_aload_n hx hb d_M_give_13 rfl (lv_at hl 2 rfl) ?_
  refine fw_astq (tys := tyl dA) (r := (R_T, F_T, 5)) hx hb hK hP hS f2 3 rfl 3 f5 rfl (j := 12 * wk + o) (by omega) (by decide) d_M_give_14 (fun w1 H locs ew2 hP hS => ?_)
  have f1 : w1 h = some (.inr (0, [.ref tr, .ref ca, .int (nI pl.length), .ref ta])) := by rw [ew2, va_up_ne _ _ (fw_ne f1 f2 (by simp))]; exact f1
  have f3 : w1 ca = some (.inl (dA 3, 16, .inr (.inr (.inr (.inr fc))))) := by rw [ew2, va_up_ne _ _ (fw_ne f3 f2 (by simp))]; exact f3
  have f4 : w1 ta = some (.inl (dA 0, 11, .inl fa)) := by rw [ew2, va_up_ne _ _ (fw_ne f4 f2 (by simp))]; exact f4
  have f5 : w1 t = some (.inr (3, [.int (nI o), x1, x2, x3, x4])) := by rw [ew2, va_up_ne _ _ (fw_ne f5 f2 (by simp))]; exact f5
  have f2 : w1 tr = some (.inl (dA 3, 24, .inr (.inr (.inr (.inr (va_up ft (12 * wk + o) (some t))))))) := by rw [ew2]; exact va_up_self _ _ _
  exact W.vret hx hb hr (fun tS ht hW => ⟨⟨w1, rfl, ⟨⟨fc, f1, by rw [Nat.mul_comm wk 12]; exact f2, f3, f4, h16, hpl, hcn⟩, (fun z z1 => by rw [ew2, va_up_ne _ _ z1])⟩, mB_of ht hP⟩, hS.F ht⟩) hS.2.2 d_M_give_15
set_option maxHeartbeats 4000000 in
set_option maxRecDepth 100000 in
theorem c_M_tracesOf {l : Launch} {s0 : State} {dC : Nat → ClassId} {dI : Nat → Nat → Nat} {dA : Nat → ClassId} (B0 : BB s0 dC dI dA) (w : fw_W) (h tr ca ta : Nat) (ft : Nat → Option Nat) (pl : List Nat) (fa : Nat → Int32) (wk : Nat) (hM : aM dA w h tr ca ta ft pl fa) (hwk : wk < 2) : Met l y_M_tracesOf [.code y_M_tracesOf b_M_tracesOf 4 (some .int)] ({ frames := 1, cells := 0, slots := 0, locals := 22 }) (mP s0 dC dI w [.ref h, .int (nI wk)]) (mQi s0 dC dI (fun r w' => w' = w ∧ r = nI (cntS ft wk 12))) 0 0 (AA s0) := by
  have hM9 := hM
  obtain ⟨fc, f1, f2, f3, f4, h16, hpl, hcn⟩ := hM
  refine mt_ofW B0 (by decide) (Nat.le_of_ble_eq_true rfl) (fun p e s m args below meth c ls hargs X hin hl hP => ?_)
  have X9 := X
  obtain ⟨hx, hb, hr, hml, hown, hg, hK, hn, hE, hlocks, hA⟩ := X9
  have hS : va_S (AA s0) s.heap s.heap [] := va_S.rf
  have hl : lv_has ls 4 [(0, .ref h), (1, .int (nI wk))] := hl
  refine lv_iconst (v := (nI 0)) hx hb d_M_tracesOf_0 (by decide) ?_
  refine lv_istore_n (lv' := [(2, .int (nI 0)), (0, .ref h), (1, .int (nI wk))]) hx hb d_M_tracesOf_1 rfl hl (by decide) rfl (fun ls hl => ?_)
  refine lv_iconst (v := (nI 0)) hx hb d_M_tracesOf_2 (by decide) ?_
  refine lv_istore_n (lv' := [(3, .int (nI 0)), (2, .int (nI 0)), (0, .ref h), (1, .int (nI wk))]) hx hb d_M_tracesOf_3 rfl hl (by decide) rfl (fun ls hl => ?_)
  have hl : lv_has ls 4 [(3, .int (nI 0)), (2, .int (nI (cntS ft wk 0))), (0, .ref h), (1, .int (nI wk))] := hl
  suffices lp : ∀ (n : Nat) (i : Nat), (i ≤ 12) → (12 < i + n) → ∀ (H : Heap) (locs : List Loc), fw_P (dC, dI) cls_ (AA s0) w H → va_S (AA s0) s.heap H locs → ∀ (ls : Array Slot), lv_has ls 4 [(0, .ref h), (1, .int (nI wk)), (2, .int (nI (cntS ft wk i))), (3, .int (nI i))] → W p l e _ s m args below meth c H locs 0 0 (MQ below _ args s 0 0 (AA s0)) (F0 m 4 ls []) from lp 13 0 (by omega) (by omega) _ _ hP hS ls (lv_sub hl [2, 3, 1, 0] rfl)
  intro n
  induction n with
  | zero => intro i hi hbn; exact absurd hbn (by omega)
  | succ n ih =>
    intro i hi hbn H locs hP hS ls hl
    have hle := cntS_le ft wk i
    refine lv_iload_n hx hb d_M_tracesOf_4 rfl (lv_at hl 3 rfl) ?_
    refine lv_bipush (v := (nI 12)) hx hb d_M_tracesOf_5 (by decide) ?_
    refine nu_ge (tgt := 28) hx hb (by omega) (by omega) d_M_tracesOf_7 (by decide) (fun c1 => ?_) (fun c1 => ?_)
    · refine lv_iload_n hx hb d_M_tracesOf_28 rfl (lv_at hl 2 rfl) ?_
      exact W.iret (v := (nI (cntS ft wk i))) hx hb hr (fun tS ht hW => ⟨⟨(nI (cntS ft wk i)), w, rfl, ⟨rfl, by rw [show i = 12 by omega]⟩, mB_of ht hP⟩, hS.F ht⟩) hS.2.2 d_M_tracesOf_29
    · refine lv_aload_n hx hb d_M_tracesOf_10 rfl (lv_at hl 0 rfl) ?_
      refine lv_iload_n hx hb d_M_tracesOf_11 rfl (lv_at hl 1 rfl) ?_
      refine lv_iload_n hx hb d_M_tracesOf_12 rfl (lv_at hl 3 rfl) ?_
      refine va_callq (rn_V (n := 2) (As := [.int (nI wk), .int (nI i)]) (rest := []) (C := R_M) (T := F_M) (N := 4) (ci := 0) X hP hS (c_M_traceOf B0 w h tr ca ta ft pl fa wk i hM9 hwk (by omega)) k_191 k_193 k_1 k_56 k_194 (by decide +kernel) rfl rfl ⟨Nat.le_of_ble_eq_true rfl, Nat.le_of_ble_eq_true rfl⟩ f1 rfl rfl hl.1 rfl (Nat.le_of_ble_eq_true rfl) d_M_tracesOf_13 ⟨Nat.le_of_ble_eq_true rfl, Nat.le_of_ble_eq_true rfl⟩) hS (fun q _ h => h) (fun q h => h) (fun r w3 tS H locs ht hvm hw hB hz1 hk1 hS => ?_)
      have hP : fw_P (dC, dI) cls_ (AA s0) w3 H := by rw [← ht]; exact hB
      obtain ⟨ew9, er9⟩ := hw
      rw [ew9] at hP
      rcases hq : ft (wk * 12 + i) with _ | t9
      · rw [er9, hq]
        refine lv_ifnullN (tgt := 22) hx hb d_M_tracesOf_16 (by decide) ?_
        refine lv_iinc (v := nI (i + 1)) (lv' := [(3, .int (nI (i + 1))), (0, .ref h), (1, .int (nI wk)), (2, .int (nI (cntS ft wk i)))]) hx hb d_M_tracesOf_22 hl (k := 3) rfl (nI_add _ 1) (by decide) rfl (fun ls hl => ?_)
        refine lv_goto (tgt := 4) hx hb d_M_tracesOf_25 (by decide) ?_
        have hc9 : cntS ft wk (i + 1) = cntS ft wk i := by rw [cntS, hq]; rfl
        rw [← hc9] at hl
        exact ih (i + 1) (by omega) (by omega) _ _ hP hS ls (lv_sub hl [1, 2, 3, 0] rfl)
      · rw [er9, hq]
        refine lv_ifnull hx hb d_M_tracesOf_16 ?_
        refine lv_iinc (v := nI (cntS ft wk i + 1)) (lv' := [(2, .int (nI (cntS ft wk i + 1))), (0, .ref h), (1, .int (nI wk)), (3, .int (nI i))]) hx hb d_M_tracesOf_19 hl (k := 2) rfl (nI_add _ 1) (by decide) rfl (fun ls hl => ?_)
        refine lv_iinc (v := nI (i + 1)) (lv' := [(3, .int (nI (i + 1))), (2, .int (nI (cntS ft wk i + 1))), (0, .ref h), (1, .int (nI wk))]) hx hb d_M_tracesOf_22 hl (k := 3) rfl (nI_add _ 1) (by decide) rfl (fun ls hl => ?_)
        refine lv_goto (tgt := 4) hx hb d_M_tracesOf_25 (by decide) ?_
        have hc9 : cntS ft wk (i + 1) = cntS ft wk i + 1 := by rw [cntS, hq]; rfl
        rw [← hc9] at hl
        exact ih (i + 1) (by omega) (by omega) _ _ hP hS ls (lv_sub hl [2, 3, 1, 0] rfl)
end
section
set_option maxHeartbeats 4000000 in
set_option maxRecDepth 100000 in
theorem c_M_dropTracesOf {l : Launch} {s0 : State} {dC : Nat → ClassId} {dI : Nat → Nat → Nat} {dA : Nat → ClassId} (B0 : BB s0 dC dI dA) (w : fw_W) (h tr ca ta : Nat) (ft : Nat → Option Nat) (pl : List Nat) (fa : Nat → Int32) (wk : Nat) (hM : aM dA w h tr ca ta ft pl fa) (hwk : wk < 2) : Met l y_M_dropTracesOf [.code y_M_dropTracesOf b_M_dropTracesOf 4 (some .int)] ({ frames := 2, cells := 0, slots := 0, locals := 45 }) (mP s0 dC dI w [.ref h, .int (nI wk)]) (mQi s0 dC dI (fun r w' => r = nI (cntS ft wk 12) ∧ aM dA w' h tr ca ta (dropF ft wk 12) pl fa ∧ ∀ z, z ≠ tr → w' z = w z)) 0 0 (AA s0) := by
  have hM9 := hM
  obtain ⟨fc, f1, f2, f3, f4, h16, hpl, hcn⟩ := hM
  refine mt_ofW B0 (by decide) (Nat.le_of_ble_eq_true rfl) (fun p e s m args below meth c ls hargs X hin hl hP => ?_)
  have X9 := X
  obtain ⟨hx, hb, hr, hml, hown, hg, hK, hn, hE, hlocks, hA⟩ := X9
  have hS : va_S (AA s0) s.heap s.heap [] := va_S.rf
  have hl : lv_has ls 4 [(0, .ref h), (1, .int (nI wk))] := hl
  refine lv_aload_n hx hb d_M_dropTracesOf_0 rfl (lv_at hl 0 rfl) ?_
  refine lv_iload_n hx hb d_M_dropTracesOf_1 rfl (lv_at hl 1 rfl) ?_
  refine va_calli (rn_V (n := 1) (As := [.int (nI wk)]) (rest := []) (C := R_M) (T := F_M) (N := 4) (ci := 0) X hP hS (c_M_tracesOf B0 w h tr ca ta ft pl fa wk hM9 hwk) k_538 k_189 k_0 k_56 k_190 (by decide +kernel) rfl rfl ⟨Nat.le_of_ble_eq_true rfl, Nat.le_of_ble_eq_true rfl⟩ f1 rfl rfl hl.1 rfl (Nat.le_of_ble_eq_true rfl) d_M_dropTracesOf_2 ⟨Nat.le_of_ble_eq_true rfl, Nat.le_of_ble_eq_true rfl⟩) hS (fun q _ h => h) (fun q h => h) (fun r w4 tS H locs ht hvm hw hB hz1 hk1 hS => ?_)
  have hP : fw_P (dC, dI) cls_ (AA s0) w4 H := by rw [← ht]; exact hB
  obtain ⟨ew9, er9⟩ := hw
  rw [ew9] at hP
  rw [er9]
  refine lv_istore_n (lv' := [(2, .int (nI (cntS ft wk 12))), (0, .ref h), (1, .int (nI wk))]) hx hb d_M_dropTracesOf_5 rfl hl (by decide) rfl (fun ls hl => ?_)
  refine lv_iconst (v := (nI 0)) hx hb d_M_dropTracesOf_6 (by decide) ?_
  refine lv_istore_n (lv' := [(3, .int (nI 0)), (2, .int (nI (cntS ft wk 12))), (0, .ref h), (1, .int (nI wk))]) hx hb d_M_dropTracesOf_7 rfl hl (by decide) rfl (fun ls hl => ?_)
  rw [← dropF_0 ft wk] at f2
  suffices lp : ∀ (n : Nat) (i : Nat), (i ≤ 12) → (12 < i + n) → ∀ (wl : fw_W) (H : Heap) (locs : List Loc), (wl h = some (.inr (0, [.ref tr, .ref ca, .int (nI pl.length), .ref ta]))) → (wl tr = some (.inl (dA 3, 24, .inr (.inr (.inr (.inr (dropF ft wk i))))))) → (wl ca = some (.inl (dA 3, 16, .inr (.inr (.inr (.inr fc)))))) → (wl ta = some (.inl (dA 0, 11, .inl fa))) → (∀ z, z ≠ tr → wl z = w z) → fw_P (dC, dI) cls_ (AA s0) wl H → va_S (AA s0) s.heap H locs → ∀ (ls : Array Slot), lv_has ls 4 [(0, .ref h), (1, .int (nI wk)), (2, .int (nI (cntS ft wk 12))), (3, .int (nI i))] → W p l e _ s m args below meth c H locs 0 0 (MQ below _ args s 0 0 (AA s0)) (F0 m 8 ls []) from lp 13 0 (by omega) (by omega) _ _ _ f1 f2 f3 f4 (fun z _ => rfl) hP hS ls (lv_sub hl [2, 3, 1, 0] rfl)
  intro n
  induction n with
  | zero => intro i hi hbn; exact absurd hbn (by omega)
  | succ n ih =>
    intro i hi hbn wl H locs f1 f2 f3 f4 hfr hP hS ls hl
    refine lv_iload_n hx hb d_M_dropTracesOf_8 rfl (lv_at hl 3 rfl) ?_
    refine lv_bipush (v := (nI 12)) hx hb d_M_dropTracesOf_9 (by decide) ?_
    refine nu_ge (tgt := 32) hx hb (by omega) (by omega) d_M_dropTracesOf_11 (by decide) (fun c1 => ?_) (fun c1 => ?_)
    · refine lv_iload_n hx hb d_M_dropTracesOf_32 rfl (lv_at hl 2 rfl) ?_
      exact W.iret (v := (nI (cntS ft wk 12))) hx hb hr (fun tS ht hW => ⟨⟨(nI (cntS ft wk 12)), wl, rfl, ⟨rfl, ⟨fc, f1, by rw [show (12 : Nat) = i by omega]; exact f2, f3, f4, h16, hpl, hcn⟩, hfr⟩, mB_of ht hP⟩, hS.F ht⟩) hS.2.2 d_M_dropTracesOf_33
    · refine lv_aload_n hx hb d_M_dropTracesOf_14 rfl (lv_at hl 0 rfl) ?_
      refine va_get (D := (dC, dI)) (ci := 0) (v := .ref tr) (C := R_M) (T := F_M) (N := 4) hx hb hg in_M hown hK (hP.one f1) 0 rfl rfl 0 (by decide) (hg _ k_116) (fun _ h9 => h9) rfl d_M_dropTracesOf_15 ?_
      refine lv_iload_n hx hb d_M_dropTracesOf_18 rfl (lv_at hl 1 rfl) ?_
      refine lv_bipush (v := (nI 12)) hx hb d_M_dropTracesOf_19 (by decide) ?_
      refine nu_imul (r := 12 * wk) hx hb d_M_dropTracesOf_21 (by omega) ?_
      refine lv_iload_n hx hb d_M_dropTracesOf_22 rfl (lv_at hl 3 rfl) ?_
      refine nu_iadd (r := 12 * wk + i) hx hb d_M_dropTracesOf_23 (by omega) ?_
      refine lv_null hx hb d_M_dropTracesOf_24 ?_
      refine fw_astqN (tys := tyl dA) hx hb hK hP hS f2 3 rfl (j := 12 * wk + i) (by omega) (by decide) d_M_dropTracesOf_25 (fun w5 H locs ew6 hP hS => ?_)
      have f1 : w5 h = some (.inr (0, [.ref tr, .ref ca, .int (nI pl.length), .ref ta])) := by rw [ew6, va_up_ne _ _ (fw_ne f1 f2 (by simp))]; exact f1
      have f3 : w5 ca = some (.inl (dA 3, 16, .inr (.inr (.inr (.inr fc))))) := by rw [ew6, va_up_ne _ _ (fw_ne f3 f2 (by simp))]; exact f3
      have f4 : w5 ta = some (.inl (dA 0, 11, .inl fa)) := by rw [ew6, va_up_ne _ _ (fw_ne f4 f2 (by simp))]; exact f4
      have f2 : w5 tr = some (.inl (dA 3, 24, .inr (.inr (.inr (.inr (va_up (dropF ft wk i) (12 * wk + i) none)))))) := by rw [ew6]; exact va_up_self _ _ _
      refine lv_iinc (v := nI (i + 1)) (lv' := [(3, .int (nI (i + 1))), (0, .ref h), (1, .int (nI wk)), (2, .int (nI (cntS ft wk 12)))]) hx hb d_M_dropTracesOf_26 hl (k := 3) rfl (nI_add _ 1) (by decide) rfl (fun ls hl => ?_)
      refine lv_goto (tgt := 8) hx hb d_M_dropTracesOf_29 (by decide) ?_
      rw [dropF_up] at f2
      exact ih (i + 1) (by omega) (by omega) _ _ _ f1 f2 f3 f4 (fun z z1 => by rw [ew6, va_up_ne _ _ z1]; exact hfr z z1) hP hS ls (lv_sub hl [1, 2, 3, 0] rfl)
set_option maxHeartbeats 4000000 in
set_option maxRecDepth 100000 in
theorem c_M_entryAt {l : Launch} {s0 : State} {dC : Nat → ClassId} {dI : Nat → Nat → Nat} {dA : Nat → ClassId} (B0 : BB s0 dC dI dA) (w : fw_W) (h tr ca ta : Nat) (fc : Nat → Option Nat) (cs : Nat) (i : Int32) (f1 : w h = some (.inr (0, [.ref tr, .ref ca, .int (nI cs), .ref ta]))) (f3 : w ca = some (.inl (dA 3, 16, .inr (.inr (.inr (.inr fc)))))) (h16 : cs ≤ 16) : Met l y_M_entryAt [.code y_M_entryAt b_M_entryAt 2 (some (.object "TraceBuilder$Trace"))] ({ frames := 0, cells := 0, slots := 0, locals := 0 }) (mP s0 dC dI w [.ref h, .int i]) (mQq s0 dC dI (fun r w' => w' = w ∧ ((∃ j, j < cs ∧ i = nI j ∧ r = fc j) ∨ ((i < 0 ∨ nI cs ≤ i) ∧ r = none)))) 0 0 (AA s0) := by
  refine mt_ofW B0 (by decide) (Nat.le_of_ble_eq_true rfl) (fun p e s m args below meth c ls hargs X hin hl hP => ?_)
  have X9 := X
  obtain ⟨hx, hb, hr, hml, hown, hg, hK, hn, hE, hlocks, hA⟩ := X9
  have hS : va_S (AA s0) s.heap s.heap [] := va_S.rf
  have hl : lv_has ls 2 [(0, .ref h), (1, .int i)] := hl
  refine lv_iload_n hx hb d_M_entryAt_0 rfl (lv_at hl 1 rfl) ?_
  refine lv_if_lt (tgt := 12) hx hb d_M_entryAt_1 (by decide) (fun c1 => ?_) (fun c1 => ?_)
  · refine lv_null hx hb d_M_entryAt_12 ?_
    refine lv_goto (tgt := 22) hx hb d_M_entryAt_13 (by decide) ?_
    exact W.aret (v := .null) hx hb hr (Or.inl ⟨_, rfl⟩) (Or.inl rfl) (fun tS ht hW => ⟨⟨none, w, rfl, ⟨rfl, Or.inr ⟨Or.inl c1, rfl⟩⟩, mB_of ht hP⟩, hS.F ht⟩) hS.2.2 d_M_entryAt_22
  · refine lv_iload_n hx hb d_M_entryAt_4 rfl (lv_at hl 1 rfl) ?_
    refine lv_aload_n hx hb d_M_entryAt_5 rfl (lv_at hl 0 rfl) ?_
    refine va_get (D := (dC, dI)) (ci := 0) (v := .int (nI cs)) (C := R_M) (T := F_M) (N := 4) hx hb hg in_M hown hK (hP.one f1) 0 rfl rfl 2 (by decide) (hg _ k_118) (fun _ h9 => h9) rfl d_M_entryAt_6 ?_
    refine lv_icmp_lt (tgt := 16) hx hb d_M_entryAt_9 (by decide) (fun c2 => ?_) (fun c2 => ?_)
    · obtain ⟨j, hj, rfl⟩ := pI_neg (by omega) c1 c2
      refine lv_aload_n hx hb d_M_entryAt_16 rfl (lv_at hl 0 rfl) ?_
      refine va_get (D := (dC, dI)) (ci := 0) (v := .ref ca) (C := R_M) (T := F_M) (N := 4) hx hb hg in_M hown hK (hP.one f1) 0 rfl rfl 1 (by decide) (hg _ k_117) (fun _ h9 => h9) rfl d_M_entryAt_17 ?_
      refine lv_iload_n hx hb d_M_entryAt_20 rfl (lv_at hl 1 rfl) ?_
      refine fw_aldq (tys := tyl dA) hx hb hK hP f3 3 rfl (j := j) (by omega) (by decide) d_M_entryAt_21 ?_
      exact W.aret (v := va_rf (fc j)) hx hb hr (Or.inl ⟨_, rfl⟩) (rf_or _) (fun tS ht hW => ⟨⟨(fc j), w, rfl, ⟨rfl, Or.inl ⟨j, hj, rfl, rfl⟩⟩, mB_of ht hP⟩, hS.F ht⟩) hS.2.2 d_M_entryAt_22
    · refine lv_null hx hb d_M_entryAt_12 ?_
      refine lv_goto (tgt := 22) hx hb d_M_entryAt_13 (by decide) ?_
      exact W.aret (v := .null) hx hb hr (Or.inl ⟨_, rfl⟩) (Or.inl rfl) (fun tS ht hW => ⟨⟨none, w, rfl, ⟨rfl, Or.inr ⟨Or.inr (Int32.not_lt.mp c2), rfl⟩⟩, mB_of ht hP⟩, hS.F ht⟩) hS.2.2 d_M_entryAt_22
set_option maxHeartbeats 4000000 in
set_option maxRecDepth 100000 in
theorem c_M_entryIn {l : Launch} {s0 : State} {dC : Nat → ClassId} {dI : Nat → Nat → Nat} {dA : Nat → ClassId} (B0 : BB s0 dC dI dA) (w : fw_W) (h tr ca ta : Nat) (fc : Nat → Option Nat) (cs j : Nat) (f1 : w h = some (.inr (0, [.ref tr, .ref ca, .int (nI cs), .ref ta]))) (f3 : w ca = some (.inl (dA 3, 16, .inr (.inr (.inr (.inr fc)))))) (h16 : cs ≤ 16) (hj : j < cs) : Met l y_M_entryAt [.code y_M_entryAt b_M_entryAt 2 (some (.object "TraceBuilder$Trace"))] ({ frames := 0, cells := 0, slots := 0, locals := 0 }) (mP s0 dC dI w [.ref h, .int (nI j)]) (mQq s0 dC dI (fun r w' => w' = w ∧ r = fc j)) 0 0 (AA s0) := by
  refine mt_ofW B0 (by decide) (Nat.le_of_ble_eq_true rfl) (fun p e s m args below meth c ls hargs X hin hl hP => ?_)
  have X9 := X
  obtain ⟨hx, hb, hr, hml, hown, hg, hK, hn, hE, hlocks, hA⟩ := X9
  have hS : va_S (AA s0) s.heap s.heap [] := va_S.rf
  have hl : lv_has ls 2 [(0, .ref h), (1, .int (nI j))] := hl
  refine lv_iload_n hx hb d_M_entryAt_0 rfl (lv_at hl 1 rfl) ?_
  refine lv_if_lt (tgt := 12) hx hb d_M_entryAt_1 (by decide) (fun c1 => ?_) (fun c1 => ?_)
  · exact absurd c1 (nI_pos (by omega))
  · refine lv_iload_n hx hb d_M_entryAt_4 rfl (lv_at hl 1 rfl) ?_
    refine lv_aload_n hx hb d_M_entryAt_5 rfl (lv_at hl 0 rfl) ?_
    refine va_get (D := (dC, dI)) (ci := 0) (v := .int (nI cs)) (C := R_M) (T := F_M) (N := 4) hx hb hg in_M hown hK (hP.one f1) 0 rfl rfl 2 (by decide) (hg _ k_118) (fun _ h9 => h9) rfl d_M_entryAt_6 ?_
    refine nu_lt (tgt := 16) hx hb (by omega) (by omega) d_M_entryAt_9 (by decide) (fun c2 => ?_) (fun c2 => ?_)
    · refine lv_aload_n hx hb d_M_entryAt_16 rfl (lv_at hl 0 rfl) ?_
      refine va_get (D := (dC, dI)) (ci := 0) (v := .ref ca) (C := R_M) (T := F_M) (N := 4) hx hb hg in_M hown hK (hP.one f1) 0 rfl rfl 1 (by decide) (hg _ k_117) (fun _ h9 => h9) rfl d_M_entryAt_17 ?_
      refine lv_iload_n hx hb d_M_entryAt_20 rfl (lv_at hl 1 rfl) ?_
      refine fw_aldq (tys := tyl dA) hx hb hK hP f3 3 rfl (j := j) (by omega) (by decide) d_M_entryAt_21 ?_
      exact W.aret (v := va_rf (fc j)) hx hb hr (Or.inl ⟨_, rfl⟩) (rf_or _) (fun tS ht hW => ⟨⟨(fc j), w, rfl, ⟨rfl, rfl⟩, mB_of ht hP⟩, hS.F ht⟩) hS.2.2 d_M_entryAt_22
    · exact absurd hj (by omega)
set_option maxHeartbeats 4000000 in
set_option maxRecDepth 100000 in
theorem c_M_clear {l : Launch} {s0 : State} {dC : Nat → ClassId} {dI : Nat → Nat → Nat} {dA : Nat → ClassId} (B0 : BB s0 dC dI dA) (w : fw_W) (h tr ca ta : Nat) (fc : Nat → Option Nat) (cs n0 : Nat) (f1 : w h = some (.inr (0, [.ref tr, .ref ca, .int (nI cs), .ref ta]))) (f3 : w ca = some (.inl (dA 3, 16, .inr (.inr (.inr (.inr fc)))))) (h16 : cs ≤ 16) (hcn : cN fc cs) (hn0 : n0 ≤ cs) : Met l y_M_clearCacheFrom [.code y_M_clearCacheFrom b_M_clearCacheFrom 3 none] ({ frames := 0, cells := 0, slots := 0, locals := 0 }) (mP s0 dC dI w [.ref h, .int (nI n0)]) (mQv s0 dC dI (fun w' => w' h = some (.inr (0, [.ref tr, .ref ca, .int (nI n0), .ref ta])) ∧ (∃ fc' : Nat → Option Nat, w' ca = some (.inl (dA 3, 16, .inr (.inr (.inr (.inr fc'))))) ∧ (∀ i, i < n0 → fc' i = fc i) ∧ cN fc' n0) ∧ ∀ z, z ≠ h → z ≠ ca → w' z = w z)) 0 0 (AA s0) := by
  refine mt_ofW B0 (by decide) (Nat.le_of_ble_eq_true rfl) (fun p e s m args below meth c ls hargs X hin hl hP => ?_)
  have X9 := X
  obtain ⟨hx, hb, hr, hml, hown, hg, hK, hn, hE, hlocks, hA⟩ := X9
  have hS : va_S (AA s0) s.heap s.heap [] := va_S.rf
  have hl : lv_has ls 3 [(0, .ref h), (1, .int (nI n0))] := hl
  refine lv_iload_n hx hb d_M_clearCacheFrom_0 rfl (lv_at hl 1 rfl) ?_
  refine lv_istore_n (lv' := [(2, .int (nI n0)), (0, .ref h), (1, .int (nI n0))]) hx hb d_M_clearCacheFrom_1 rfl hl (by decide) rfl (fun ls hl => ?_)
  suffices lp : ∀ (n : Nat) (i : Nat) (fx : Nat → Option Nat), (i ≤ cs) → (n0 ≤ i) → (∀ j, j < n0 → fx j = fc j) → (∀ j, (n0 ≤ j ∧ j < i) ∨ (cs ≤ j ∧ j < 16) → fx j = none) → (cs < i + n) → ∀ (wl : fw_W) (H : Heap) (locs : List Loc), (wl h = some (.inr (0, [.ref tr, .ref ca, .int (nI cs), .ref ta]))) → (wl ca = some (.inl (dA 3, 16, .inr (.inr (.inr (.inr fx)))))) → (∀ z, z ≠ h → z ≠ ca → wl z = w z) → fw_P (dC, dI) cls_ (AA s0) wl H → va_S (AA s0) s.heap H locs → ∀ (ls : Array Slot), lv_has ls 3 [(0, .ref h), (1, .int (nI n0)), (2, .int (nI i))] → W p l e _ s m args below meth c H locs 0 0 (MQ below _ args s 0 0 (AA s0)) (F0 m 2 ls []) from lp (cs + 1) n0 fc (by omega) (by omega) (fun j _ => rfl) (fun j hj => hcn j (by omega) (by omega)) (by omega) _ _ _ f1 f3 (fun z _ _ => rfl) hP hS ls (lv_sub hl [1, 2, 0] rfl)
  intro n
  induction n with
  | zero => intro i fx hi hi0 hfx hfn hbn; exact absurd hbn (by omega)
  | succ n ih =>
    intro i fx hi hi0 hfx hfn hbn wl H locs f1 f3 hfr hP hS ls hl
    refine lv_iload_n hx hb d_M_clearCacheFrom_2 rfl (lv_at hl 2 rfl) ?_
    refine lv_aload_n hx hb d_M_clearCacheFrom_3 rfl (lv_at hl 0 rfl) ?_
    refine va_get (D := (dC, dI)) (ci := 0) (v := .int (nI cs)) (C := R_M) (T := F_M) (N := 4) hx hb hg in_M hown hK (hP.one f1) 0 rfl rfl 2 (by decide) (hg _ k_118) (fun _ h9 => h9) rfl d_M_clearCacheFrom_4 ?_
    refine nu_ge (tgt := 23) hx hb (by omega) (by omega) d_M_clearCacheFrom_7 (by decide) (fun c1 => ?_) (fun c1 => ?_)
    · refine lv_aload_n hx hb d_M_clearCacheFrom_23 rfl (lv_at hl 0 rfl) ?_
      refine lv_iload_n hx hb d_M_clearCacheFrom_24 rfl (lv_at hl 1 rfl) ?_
      refine fw_put (D := (dC, dI)) (ci := 0) (v := .int (nI n0)) (ty := .int) (C := R_M) (T := F_M) (N := 4) hx hb hg in_M ft_M ft_M_ok n_M hown hK hP hS f1 rfl 2 (by decide) (hg _ k_118) (fun _ h9 => h9) rfl (by decide +kernel) rfl rfl (Nat.le_of_ble_eq_true rfl) d_M_clearCacheFrom_25 (fun w7 H locs ew8 hP hS => ?_)
      have f3 : w7 ca = some (.inl (dA 3, 16, .inr (.inr (.inr (.inr fx))))) := by rw [ew8, va_up_ne _ _ (fw_ne f3 f1 (by simp))]; exact f3
      have f1 : w7 h = some (.inr (0, [.ref tr, .ref ca, .int (nI n0), .ref ta])) := by rw [ew8]; exact va_up_self _ _ _
      exact W.vret hx hb hr (fun tS ht hW => ⟨⟨w7, rfl, ⟨f1, ⟨fx, f3, hfx, fun j h1 h2 => hfn j (by omega)⟩, fun z z1 z2 => by rw [ew8, va_up_ne _ _ z1]; exact hfr z z1 z2⟩, mB_of ht hP⟩, hS.F ht⟩) hS.2.2 d_M_clearCacheFrom_28
    · refine lv_aload_n hx hb d_M_clearCacheFrom_10 rfl (lv_at hl 0 rfl) ?_
      refine va_get (D := (dC, dI)) (ci := 0) (v := .ref ca) (C := R_M) (T := F_M) (N := 4) hx hb hg in_M hown hK (hP.one f1) 0 rfl rfl 1 (by decide) (hg _ k_117) (fun _ h9 => h9) rfl d_M_clearCacheFrom_11 ?_
      refine lv_iload_n hx hb d_M_clearCacheFrom_14 rfl (lv_at hl 2 rfl) ?_
      refine lv_null hx hb d_M_clearCacheFrom_15 ?_
      refine fw_astqN (tys := tyl dA) hx hb hK hP hS f3 3 rfl (j := i) (by omega) (by decide) d_M_clearCacheFrom_16 (fun w9 H locs ew10 hP hS => ?_)
      have f1 : w9 h = some (.inr (0, [.ref tr, .ref ca, .int (nI cs), .ref ta])) := by rw [ew10, va_up_ne _ _ (fw_ne f1 f3 (by simp))]; exact f1
      have f3 : w9 ca = some (.inl (dA 3, 16, .inr (.inr (.inr (.inr (va_up fx i none)))))) := by rw [ew10]; exact va_up_self _ _ _
      refine lv_iinc (v := nI (i + 1)) (lv' := [(2, .int (nI (i + 1))), (0, .ref h), (1, .int (nI n0))]) hx hb d_M_clearCacheFrom_17 hl (k := 2) rfl (nI_add _ 1) (by decide) rfl (fun ls hl => ?_)
      refine lv_goto (tgt := 2) hx hb d_M_clearCacheFrom_20 (by decide) ?_
      exact ih (i + 1) (va_up fx i none) (by omega) (by omega) (fun j hj => by rw [va_up_ne _ _ (by omega)]; exact hfx j hj) (fun j hj => by by_cases h9 : j = i; rw [h9, va_up_self]; rw [va_up_ne _ _ h9]; exact hfn j (by omega)) (by omega) _ _ _ f1 f3 (fun z z1 z2 => by rw [ew10, va_up_ne _ _ z2]; exact hfr z z1 z2) hP hS ls (lv_sub hl [1, 2, 0] rfl)
end
section
set_option maxHeartbeats 4000000 in
set_option maxRecDepth 100000 in
theorem c_M_cut {l : Launch} {s0 : State} {dC : Nat → ClassId} {dI : Nat → Nat → Nat} {dA : Nat → ClassId} (B0 : BB s0 dC dI dA) (w : fw_W) (h tr ca ta : Nat) (ft : Nat → Option Nat) (pl : List Nat) (fa : Nat → Int32) (ow : Nat → Nat) (n0 : Nat) (hM : aM dA w h tr ca ta ft pl fa) (hO : ∀ t ∈ pl, oT w t (ow t)) (hn0 : n0 ≤ 16) : Met l y_M_cutCacheTo [.code y_M_cutCacheTo b_M_cutCacheTo 4 (some .int)] ({ frames := 1, cells := 0, slots := 0, locals := 22 }) (mP s0 dC dI w [.ref h, .int (nI n0)]) (mQi s0 dC dI (fun r w' => r = nI (pl.length - n0) ∧ aM dA w' h tr ca ta ft (pl.drop (pl.length - n0)) fa ∧ ∀ z, z ≠ h → z ≠ ca → w' z = w z)) 0 0 (AA s0) := by
  obtain ⟨fc, f1, f2, f3, f4, h16, hpl, hcn⟩ := hM
  refine mt_ofW B0 (by decide) (Nat.le_of_ble_eq_true rfl) (fun p e s m args below meth c ls hargs X hin hl hP => ?_)
  have X9 := X
  obtain ⟨hx, hb, hr, hml, hown, hg, hK, hn, hE, hlocks, hA⟩ := X9
  have hS : va_S (AA s0) s.heap s.heap [] := va_S.rf
  have hl : lv_has ls 4 [(0, .ref h), (1, .int (nI n0))] := hl
  rcases Nat.lt_or_ge n0 pl.length with hlt | hge
  · refine lv_aload_n hx hb d_M_cutCacheTo_0 rfl (lv_at hl 0 rfl) ?_
    refine va_get (D := (dC, dI)) (ci := 0) (v := .int (nI pl.length)) (C := R_M) (T := F_M) (N := 4) hx hb hg in_M hown hK (hP.one f1) 0 rfl rfl 2 (by decide) (hg _ k_118) (fun _ h9 => h9) rfl d_M_cutCacheTo_1 ?_
    refine lv_iload_n hx hb d_M_cutCacheTo_4 rfl (lv_at hl 1 rfl) ?_
    refine nu_isub (r := pl.length - n0) hx hb d_M_cutCacheTo_5 (by omega) ?_
    refine lv_istore_n (lv' := [(2, .int (nI (pl.length - n0))), (0, .ref h), (1, .int (nI n0))]) hx hb d_M_cutCacheTo_6 rfl hl (by decide) rfl (fun ls hl => ?_)
    refine lv_iload_n hx hb d_M_cutCacheTo_7 rfl (lv_at hl 0 rfl) ?_
    refine lv_if_gt (tgt := 13) hx hb d_M_cutCacheTo_8 (by decide) (fun c1 => ?_) (fun c1 => ?_)
    · have f1w := f1
      have f3w := f3
      refine lv_iconst (v := (nI 0)) hx hb d_M_cutCacheTo_13 (by decide) ?_
      refine lv_istore_n (lv' := [(3, .int (nI 0)), (2, .int (nI (pl.length - n0))), (0, .ref h), (1, .int (nI n0))]) hx hb d_M_cutCacheTo_14 rfl hl (by decide) rfl (fun ls hl => ?_)
      suffices lp : ∀ (n : Nat) (i : Nat) (fx : Nat → Option Nat), (i ≤ n0) → (∀ j, j < i → fx j = fc (j + (pl.length - n0))) → (∀ j, i ≤ j → fx j = fc j) → (n0 < i + n) → ∀ (wl : fw_W) (H : Heap) (locs : List Loc), (wl h = some (.inr (0, [.ref tr, .ref ca, .int (nI pl.length), .ref ta]))) → (wl tr = some (.inl (dA 3, 24, .inr (.inr (.inr (.inr ft)))))) → (wl ca = some (.inl (dA 3, 16, .inr (.inr (.inr (.inr fx)))))) → (wl ta = some (.inl (dA 0, 11, .inl fa))) → (∀ z, z ≠ ca → wl z = w z) → fw_P (dC, dI) cls_ (AA s0) wl H → va_S (AA s0) s.heap H locs → ∀ (ls : Array Slot), lv_has ls 4 [(0, .ref h), (1, .int (nI n0)), (2, .int (nI (pl.length - n0))), (3, .int (nI i))] → W p l e _ s m args below meth c H locs 0 0 (MQ below _ args s 0 0 (AA s0)) (F0 m 15 ls []) from lp (n0 + 1) 0 fc (by omega) (fun j hj => absurd hj (Nat.not_lt_zero j)) (fun j _ => rfl) (by omega) _ _ _ f1 f2 f3 f4 (fun z _ => rfl) hP hS ls (lv_sub hl [2, 3, 1, 0] rfl)
      intro n
      induction n with
      | zero => intro i fx hi hf1 hf2 hbn; exact absurd hbn (by omega)
      | succ n ih =>
        intro i fx hi hf1 hf2 hbn wl H locs f1 f2 f3 f4 hfr hP hS ls hl
        refine lv_iload_n hx hb d_M_cutCacheTo_15 rfl (lv_at hl 3 rfl) ?_
        refine lv_iload_n hx hb d_M_cutCacheTo_16 rfl (lv_at hl 1 rfl) ?_
        refine nu_ge (tgt := 40) hx hb (by omega) (by omega) d_M_cutCacheTo_17 (by decide) (fun c2 => ?_) (fun c2 => ?_)
        · refine lv_aload_n hx hb d_M_cutCacheTo_40 rfl (lv_at hl 0 rfl) ?_
          refine lv_iload_n hx hb d_M_cutCacheTo_41 rfl (lv_at hl 1 rfl) ?_
          refine va_callv (rn_V (n := 1) (As := [.int (nI n0)]) (rest := []) (C := R_M) (T := F_M) (N := 4) (ci := 0) X hP hS (c_M_clear B0 wl h tr ca ta fx pl.length n0 f1 f3 h16 (fun j h1 h2 => (hf2 j (by omega)).trans (hcn j h1 h2)) (by omega)) k_286 k_288 k_7 k_56 k_289 (by decide +kernel) rfl rfl ⟨Nat.le_of_ble_eq_true rfl, Nat.le_of_ble_eq_true rfl⟩ f1 rfl rfl hl.1 rfl (Nat.le_of_ble_eq_true rfl) d_M_cutCacheTo_42 ⟨Nat.le_of_ble_eq_true rfl, Nat.le_of_ble_eq_true rfl⟩) hS (fun q _ h => h) (fun q h => h) (fun w11 tS H locs ht hvm hw hB hz1 hk1 hS => ?_)
          have hP : fw_P (dC, dI) cls_ (AA s0) w11 H := by rw [← ht]; exact hB
          obtain ⟨g1, ⟨fy, g2, g3, gcn⟩, g4⟩ := hw
          have g5 : w11 tr = some (.inl (dA 3, 24, .inr (.inr (.inr (.inr ft))))) := (g4 tr (fw_ne f2 f1 (by simp)) (fw_ne f2 f3 (by simp))).trans f2
          have g6 : w11 ta = some (.inl (dA 0, 11, .inl fa)) := (g4 ta (fw_ne f4 f1 (by simp)) (fw_ne f4 f3 (by simp))).trans f4
          refine lv_iload_n hx hb d_M_cutCacheTo_45 rfl (lv_at hl 2 rfl) ?_
          exact W.iret (v := (nI (pl.length - n0))) hx hb hr (fun tS ht hW => ⟨⟨(nI (pl.length - n0)), w11, rfl, ⟨rfl, ⟨fy, by rw [show (pl.drop (pl.length - n0)).length = n0 by rw [List.length_drop]; omega]; exact g1, g5, g2, g6, by rw [List.length_drop]; omega, cP_drop hpl (fun j hj => (g3 j (by omega)).trans (hf1 j (by omega))), by rw [show (pl.drop (pl.length - n0)).length = n0 by rw [List.length_drop]; omega]; exact gcn⟩, fun z z1 z2 => (g4 z z1 z2).trans (hfr z z2)⟩, mB_of ht hP⟩, hS.F ht⟩) hS.2.2 d_M_cutCacheTo_46
        · refine lv_aload_n hx hb d_M_cutCacheTo_20 rfl (lv_at hl 0 rfl) ?_
          refine va_get (D := (dC, dI)) (ci := 0) (v := .ref ca) (C := R_M) (T := F_M) (N := 4) hx hb hg in_M hown hK (hP.one f1) 0 rfl rfl 1 (by decide) (hg _ k_117) (fun _ h9 => h9) rfl d_M_cutCacheTo_21 ?_
          refine lv_iload_n hx hb d_M_cutCacheTo_24 rfl (lv_at hl 3 rfl) ?_
          refine lv_aload_n hx hb d_M_cutCacheTo_25 rfl (lv_at hl 0 rfl) ?_
          refine va_get (D := (dC, dI)) (ci := 0) (v := .ref ca) (C := R_M) (T := F_M) (N := 4) hx hb hg in_M hown hK (hP.one f1) 0 rfl rfl 1 (by decide) (hg _ k_117) (fun _ h9 => h9) rfl d_M_cutCacheTo_26 ?_
          refine lv_iload_n hx hb d_M_cutCacheTo_29 rfl (lv_at hl 3 rfl) ?_
          refine lv_iload_n hx hb d_M_cutCacheTo_30 rfl (lv_at hl 2 rfl) ?_
          refine nu_iadd (r := i + (pl.length - n0)) hx hb d_M_cutCacheTo_31 (by omega) ?_
          obtain ⟨t9, ht9⟩ : ∃ t, pl[i + (pl.length - n0)]? = some t := ⟨_, List.getElem?_eq_getElem (by omega)⟩
          have e9 : fx (i + (pl.length - n0)) = some t9 := (hf2 _ (by omega)).trans (hpl _ _ ht9)
          refine fw_aldq (tys := tyl dA) hx hb hK hP f3 3 rfl (j := i + (pl.length - n0)) (by omega) (by decide) d_M_cutCacheTo_32 ?_
          rw [e9]
          obtain ⟨x1, x2, x3, x4, f5⟩ := hO t9 (List.mem_of_getElem? ht9)
          rw [← hfr t9 (fw_ne f5 f3w (by simp))] at f5
          refine fw_astq (tys := tyl dA) (r := (R_T, F_T, 5)) hx hb hK hP hS f3 3 rfl 3 f5 rfl (j := i) (by omega) (by decide) d_M_cutCacheTo_33 (fun w12 H locs ew13 hP hS => ?_)
          have f1 : w12 h = some (.inr (0, [.ref tr, .ref ca, .int (nI pl.length), .ref ta])) := by rw [ew13, va_up_ne _ _ (fw_ne f1 f3 (by simp))]; exact f1
          have f2 : w12 tr = some (.inl (dA 3, 24, .inr (.inr (.inr (.inr ft))))) := by rw [ew13, va_up_ne _ _ (fw_ne f2 f3 (by simp))]; exact f2
          have f4 : w12 ta = some (.inl (dA 0, 11, .inl fa)) := by rw [ew13, va_up_ne _ _ (fw_ne f4 f3 (by simp))]; exact f4
          have f5 : w12 t9 = some (.inr (3, [.int (nI (ow t9)), x1, x2, x3, x4])) := by rw [ew13, va_up_ne _ _ (fw_ne f5 f3 (by simp))]; exact f5
          have f3 : w12 ca = some (.inl (dA 3, 16, .inr (.inr (.inr (.inr (va_up fx i (some t9))))))) := by rw [ew13]; exact va_up_self _ _ _
          refine lv_iinc (v := nI (i + 1)) (lv' := [(3, .int (nI (i + 1))), (0, .ref h), (1, .int (nI n0)), (2, .int (nI (pl.length - n0)))]) hx hb d_M_cutCacheTo_34 hl (k := 3) rfl (nI_add _ 1) (by decide) rfl (fun ls hl => ?_)
          refine lv_goto (tgt := 15) hx hb d_M_cutCacheTo_37 (by decide) ?_
          exact ih (i + 1) (va_up fx i (some t9)) (by omega) (fun j hj => by by_cases h9 : j = i; rw [h9, va_up_self]; exact (hpl _ _ ht9).symm; rw [va_up_ne _ _ h9]; exact hf1 j (by omega)) (fun j hj => by rw [va_up_ne _ _ (by omega)]; exact hf2 j (by omega)) (by omega) _ _ _ f1 f2 f3 f4 (fun z z1 => by rw [ew13, va_up_ne _ _ z1]; exact hfr z z1) hP hS ls (lv_sub hl [1, 2, 3, 0] rfl)
    · exact absurd (gt_nI (by omega) (by omega)) c1
  · refine lv_aload_n hx hb d_M_cutCacheTo_0 rfl (lv_at hl 0 rfl) ?_
    refine va_get (D := (dC, dI)) (ci := 0) (v := .int (nI pl.length)) (C := R_M) (T := F_M) (N := 4) hx hb hg in_M hown hK (hP.one f1) 0 rfl rfl 2 (by decide) (hg _ k_118) (fun _ h9 => h9) rfl d_M_cutCacheTo_1 ?_
    refine lv_iload_n hx hb d_M_cutCacheTo_4 rfl (lv_at hl 1 rfl) ?_
    refine lv_isub hx hb d_M_cutCacheTo_5 ?_
    refine lv_istore_n (lv' := [(2, .int ((nI pl.length) - (nI n0))), (0, .ref h), (1, .int (nI n0))]) hx hb d_M_cutCacheTo_6 rfl hl (by decide) rfl (fun ls hl => ?_)
    refine lv_iload_n hx hb d_M_cutCacheTo_7 rfl (lv_at hl 0 rfl) ?_
    refine lv_if_gt (tgt := 13) hx hb d_M_cutCacheTo_8 (by decide) (fun c1 => ?_) (fun c1 => ?_)
    · exact absurd c1 (gt_sub (by omega) (by omega) hge)
    · refine lv_iconst (v := (nI 0)) hx hb d_M_cutCacheTo_11 (by decide) ?_
      exact W.iret (v := (nI 0)) hx hb hr (fun tS ht hW => ⟨⟨(nI 0), w, rfl, ⟨by rw [show pl.length - n0 = 0 by omega], ⟨fc, by rw [show pl.length - n0 = 0 by omega]; exact f1, f2, f3, f4, by rw [List.length_drop]; omega, by rw [show pl.length - n0 = 0 by omega]; exact hpl, by rw [show pl.length - n0 = 0 by omega]; exact hcn⟩, fun z _ _ => rfl⟩, mB_of ht hP⟩, hS.F ht⟩) hS.2.2 d_M_cutCacheTo_12
end
section
set_option maxHeartbeats 4000000 in
set_option maxRecDepth 100000 in
theorem c_M_append {l : Launch} {s0 : State} {dC : Nat → ClassId} {dI : Nat → Nat → Nat} {dA : Nat → ClassId} (B0 : BB s0 dC dI dA) (w : fw_W) (h tr ca ta : Nat) (ft : Nat → Option Nat) (pl : List Nat) (fa : Nat → Int32) (ow : Nat → Nat) (t o : Nat) (hM : aM dA w h tr ca ta ft pl fa) (hO : ∀ t ∈ pl, oT w t (ow t)) (hT : oT w t o) : Met l y_M_append [.code y_M_append b_M_append 2 none] ({ frames := 2, cells := 0, slots := 0, locals := 45 }) (mP s0 dC dI w [.ref h, .ref t]) (mQv s0 dC dI (fun w' => aM dA w' h tr ca ta ft (pl.drop (pl.length - 15) ++ [t]) fa ∧ ∀ z, z ≠ h → z ≠ ca → w' z = w z)) 0 0 (AA s0) := by
  have hM9 := hM
  obtain ⟨x1, x2, x3, x4, f5⟩ := hT
  obtain ⟨fc, f1, f2, f3, f4, h16, hpl, hcn⟩ := hM
  refine mt_ofW B0 (by decide) (Nat.le_of_ble_eq_true rfl) (fun p e s m args below meth c ls hargs X hin hl hP => ?_)
  have X9 := X
  obtain ⟨hx, hb, hr, hml, hown, hg, hK, hn, hE, hlocks, hA⟩ := X9
  have hS : va_S (AA s0) s.heap s.heap [] := va_S.rf
  have hl : lv_has ls 2 [(0, .ref h), (1, .ref t)] := hl
  refine lv_aload_n hx hb d_M_append_0 rfl (lv_at hl 0 rfl) ?_
  refine lv_bipush (v := (nI 15)) hx hb d_M_append_1 (by decide) ?_
  refine va_calli (rn_V (n := 1) (As := [.int (nI 15)]) (rest := []) (C := R_M) (T := F_M) (N := 4) (ci := 0) X hP hS (c_M_cut B0 w h tr ca ta ft pl fa ow 15 hM9 hO (by omega)) k_489 k_491 k_34 k_56 k_492 (by decide +kernel) rfl rfl ⟨Nat.le_of_ble_eq_true rfl, Nat.le_of_ble_eq_true rfl⟩ f1 rfl rfl hl.1 rfl (Nat.le_of_ble_eq_true rfl) d_M_append_3 ⟨Nat.le_of_ble_eq_true rfl, Nat.le_of_ble_eq_true rfl⟩) hS (fun q _ h => h) (fun q h => h) (fun r w14 tS H locs ht hvm hw hB hz1 hk1 hS => ?_)
  have hP : fw_P (dC, dI) cls_ (AA s0) w14 H := by rw [← ht]; exact hB
  obtain ⟨-, ⟨fy, g1, g2, g3, g4, g16, gpl, gcn⟩, gfr⟩ := hw
  rw [← gfr t (fw_ne f5 f1 (by simp)) (fw_ne f5 f3 (by simp))] at f5
  have hlen : (pl.drop (pl.length - 15)).length ≤ 15 := by rw [List.length_drop]; omega
  generalize hdr : pl.drop (pl.length - 15) = dr at g1 g16 gpl gcn hlen ⊢
  refine lv_pop hx hb d_M_append_6 rfl ?_
  refine lv_aload_n hx hb d_M_append_7 rfl (lv_at hl 0 rfl) ?_
  refine va_get (D := (dC, dI)) (ci := 0) (v := .ref ca) (C := R_M) (T := F_M) (N := 4) hx hb hg in_M hown hK (hP.one g1) 0 rfl rfl 1 (by decide) (hg _ k_117) (fun _ h9 => h9) rfl d_M_append_8 ?_
  refine lv_aload_n hx hb d_M_append_11 rfl (lv_at hl 0 rfl) ?_
  refine va_get (D := (dC, dI)) (ci := 0) (v := .int (nI dr.length)) (C := R_M) (T := F_M) (N := 4) hx hb hg in_M hown hK (hP.one g1) 0 rfl rfl 2 (by decide) (hg _ k_118) (fun _ h9 => h9) rfl d_M_append_12 ?_
  refine lv_aload_n hx hb d_M_append_15 rfl (lv_at hl 1 rfl) ?_
  refine fw_astq (tys := tyl dA) (r := (R_T, F_T, 5)) hx hb hK hP hS g3 3 rfl 3 f5 rfl (j := dr.length) (by omega) (by decide) d_M_append_16 (fun w15 H locs ew16 hP hS => ?_)
  have g1 : w15 h = some (.inr (0, [.ref tr, .ref ca, .int (nI dr.length), .ref ta])) := by rw [ew16, va_up_ne _ _ (fw_ne g1 g3 (by simp))]; exact g1
  have g2 : w15 tr = some (.inl (dA 3, 24, .inr (.inr (.inr (.inr ft))))) := by rw [ew16, va_up_ne _ _ (fw_ne g2 g3 (by simp))]; exact g2
  have g4 : w15 ta = some (.inl (dA 0, 11, .inl fa)) := by rw [ew16, va_up_ne _ _ (fw_ne g4 g3 (by simp))]; exact g4
  have f5 : w15 t = some (.inr (3, [.int (nI o), x1, x2, x3, x4])) := by rw [ew16, va_up_ne _ _ (fw_ne f5 g3 (by simp))]; exact f5
  have g3 : w15 ca = some (.inl (dA 3, 16, .inr (.inr (.inr (.inr (va_up fy dr.length (some t))))))) := by rw [ew16]; exact va_up_self _ _ _
  refine lv_aload_n hx hb d_M_append_17 rfl (lv_at hl 0 rfl) ?_
  refine lv_dup hx hb d_M_append_18 rfl ?_
  refine va_get (D := (dC, dI)) (ci := 0) (v := .int (nI dr.length)) (C := R_M) (T := F_M) (N := 4) hx hb hg in_M hown hK (hP.one g1) 0 rfl rfl 2 (by decide) (hg _ k_118) (fun _ h9 => h9) rfl d_M_append_19 ?_
  refine lv_iconst (v := (nI 1)) hx hb d_M_append_22 (by decide) ?_
  refine nu_iadd (r := dr.length + 1) hx hb d_M_append_23 (by omega) ?_
  refine fw_put (D := (dC, dI)) (ci := 0) (v := .int (nI (dr.length + 1))) (ty := .int) (C := R_M) (T := F_M) (N := 4) hx hb hg in_M ft_M ft_M_ok n_M hown hK hP hS g1 rfl 2 (by decide) (hg _ k_118) (fun _ h9 => h9) rfl (by decide +kernel) rfl rfl (Nat.le_of_ble_eq_true rfl) d_M_append_24 (fun w17 H locs ew18 hP hS => ?_)
  have g2 : w17 tr = some (.inl (dA 3, 24, .inr (.inr (.inr (.inr ft))))) := by rw [ew18, va_up_ne _ _ (fw_ne g2 g1 (by simp))]; exact g2
  have g3 : w17 ca = some (.inl (dA 3, 16, .inr (.inr (.inr (.inr (va_up fy dr.length (some t))))))) := by rw [ew18, va_up_ne _ _ (fw_ne g3 g1 (by simp))]; exact g3
  have g4 : w17 ta = some (.inl (dA 0, 11, .inl fa)) := by rw [ew18, va_up_ne _ _ (fw_ne g4 g1 (by simp))]; exact g4
  have f5 : w17 t = some (.inr (3, [.int (nI o), x1, x2, x3, x4])) := by rw [ew18, va_up_ne _ _ (fw_ne f5 g1 (by simp))]; exact f5
  have g1 : w17 h = some (.inr (0, [.ref tr, .ref ca, .int (nI (dr.length + 1)), .ref ta])) := by rw [ew18]; exact va_up_self _ _ _
  exact W.vret hx hb hr (fun tS ht hW => ⟨⟨w17, rfl, ⟨⟨_, by rw [List.length_append]; exact g1, g2, g3, g4, by rw [List.length_append]; exact Nat.succ_le_succ hlen, cP_app gpl, by rw [List.length_append]; exact cN_app gcn⟩, fun z z1 z2 => by rw [ew18, va_up_ne _ _ z1, ew16, va_up_ne _ _ z2]; exact gfr z z1 z2⟩, mB_of ht hP⟩, hS.F ht⟩) hS.2.2 d_M_append_27
set_option maxHeartbeats 4000000 in
set_option maxRecDepth 100000 in
theorem c_M_dropKey {l : Launch} {s0 : State} {dC : Nat → ClassId} {dI : Nat → Nat → Nat} {dA : Nat → ClassId} (B0 : BB s0 dC dI dA) (w : fw_W) (h tr ca ta : Nat) (ft : Nat → Option Nat) (pl : List Nat) (fa : Nat → Int32) (ow : Nat → Nat) (k : Nat) (hM : aM dA w h tr ca ta ft pl fa) (hO : ∀ t ∈ pl, oT w t (ow t)) (hok : ∀ t ∈ pl, ow t < 12) (hk : k < 12) : Met l y_M_dropKey [.code y_M_dropKey b_M_dropKey 5 none] ({ frames := 1, cells := 0, slots := 0, locals := 22 }) (mP s0 dC dI w [.ref h, .int (nI k)]) (mQv s0 dC dI (fun w' => aM dA w' h tr ca ta (va_up (va_up ft k none) (12 + k) none) (pl.filter (fun t => !(ow t == k))) fa ∧ ∀ z, z ≠ h → z ≠ tr → z ≠ ca → w' z = w z)) 0 0 (AA s0) := by
  obtain ⟨fc, f1, f2, f3, f4, h16, hpl, hcn⟩ := hM
  refine mt_ofW B0 (by decide) (Nat.le_of_ble_eq_true rfl) (fun p e s m args below meth c ls hargs X hin hl hP => ?_)
  have X9 := X
  obtain ⟨hx, hb, hr, hml, hown, hg, hK, hn, hE, hlocks, hA⟩ := X9
  have hS : va_S (AA s0) s.heap s.heap [] := va_S.rf
  have hl : lv_has ls 5 [(0, .ref h), (1, .int (nI k))] := hl
  have f1w := f1
  have f2w := f2
  have f3w := f3
  refine lv_iconst (v := (nI 0)) hx hb d_M_dropKey_0 (by decide) ?_
  refine lv_istore_n (lv' := [(2, .int (nI 0)), (0, .ref h), (1, .int (nI k))]) hx hb d_M_dropKey_1 rfl hl (by decide) rfl (fun ls hl => ?_)
  refine lv_iload_n hx hb d_M_dropKey_2 rfl (lv_at hl 0 rfl) ?_
  refine lv_iconst (v := (nI 2)) hx hb d_M_dropKey_3 (by decide) ?_
  refine nu_ge (tgt := 25) hx hb (by omega) (by omega) d_M_dropKey_4 (by decide) (fun c9 => absurd c9 (by omega)) (fun _ => ?_)
  refine lv_aload_n hx hb d_M_dropKey_7 rfl (lv_at hl 1 rfl) ?_
  refine va_get (D := (dC, dI)) (ci := 0) (v := .ref tr) (C := R_M) (T := F_M) (N := 4) hx hb hg in_M hown hK (hP.one f1) 0 rfl rfl 0 (by decide) (hg _ k_116) (fun _ h9 => h9) rfl d_M_dropKey_8 ?_
  refine lv_iload_n hx hb d_M_dropKey_11 rfl (lv_at hl 0 rfl) ?_
  refine lv_bipush (v := (nI 12)) hx hb d_M_dropKey_12 (by decide) ?_
  refine nu_imul (r := 12 * 0) hx hb d_M_dropKey_14 (by omega) ?_
  refine lv_iload_n hx hb d_M_dropKey_15 rfl (lv_at hl 2 rfl) ?_
  refine nu_iadd (r := 12 * 0 + k) hx hb d_M_dropKey_16 (by omega) ?_
  rw [show 12 * 0 + k = k by omega]
  refine lv_null hx hb d_M_dropKey_17 ?_
  refine fw_astqN (tys := tyl dA) hx hb hK hP hS f2 3 rfl (j := k) (by omega) (by decide) d_M_dropKey_18 (fun w19 H locs ew20 hP hS => ?_)
  have f1 : w19 h = some (.inr (0, [.ref tr, .ref ca, .int (nI pl.length), .ref ta])) := by rw [ew20, va_up_ne _ _ (fw_ne f1 f2 (by simp))]; exact f1
  have f3 : w19 ca = some (.inl (dA 3, 16, .inr (.inr (.inr (.inr fc))))) := by rw [ew20, va_up_ne _ _ (fw_ne f3 f2 (by simp))]; exact f3
  have f4 : w19 ta = some (.inl (dA 0, 11, .inl fa)) := by rw [ew20, va_up_ne _ _ (fw_ne f4 f2 (by simp))]; exact f4
  have f2 : w19 tr = some (.inl (dA 3, 24, .inr (.inr (.inr (.inr (va_up ft k none)))))) := by rw [ew20]; exact va_up_self _ _ _
  refine lv_iinc (v := nI 1) (lv' := [(2, .int (nI 1)), (0, .ref h), (1, .int (nI k))]) hx hb d_M_dropKey_19 hl (k := 0) rfl (nI_add _ 1) (by decide) rfl (fun ls hl => ?_)
  refine lv_goto (tgt := 2) hx hb d_M_dropKey_22 (by decide) ?_
  refine lv_iload_n hx hb d_M_dropKey_2 rfl (lv_at hl 0 rfl) ?_
  refine lv_iconst (v := (nI 2)) hx hb d_M_dropKey_3 (by decide) ?_
  refine nu_ge (tgt := 25) hx hb (by omega) (by omega) d_M_dropKey_4 (by decide) (fun c9 => absurd c9 (by omega)) (fun _ => ?_)
  refine lv_aload_n hx hb d_M_dropKey_7 rfl (lv_at hl 1 rfl) ?_
  refine va_get (D := (dC, dI)) (ci := 0) (v := .ref tr) (C := R_M) (T := F_M) (N := 4) hx hb hg in_M hown hK (hP.one f1) 0 rfl rfl 0 (by decide) (hg _ k_116) (fun _ h9 => h9) rfl d_M_dropKey_8 ?_
  refine lv_iload_n hx hb d_M_dropKey_11 rfl (lv_at hl 0 rfl) ?_
  refine lv_bipush (v := (nI 12)) hx hb d_M_dropKey_12 (by decide) ?_
  refine nu_imul (r := 12 * 1) hx hb d_M_dropKey_14 (by omega) ?_
  refine lv_iload_n hx hb d_M_dropKey_15 rfl (lv_at hl 2 rfl) ?_
  refine nu_iadd (r := 12 * 1 + k) hx hb d_M_dropKey_16 (by omega) ?_
  rw [show 12 * 1 + k = 12 + k by omega]
  refine lv_null hx hb d_M_dropKey_17 ?_
  refine fw_astqN (tys := tyl dA) hx hb hK hP hS f2 3 rfl (j := 12 + k) (by omega) (by decide) d_M_dropKey_18 (fun w21 H locs ew22 hP hS => ?_)
  have f1 : w21 h = some (.inr (0, [.ref tr, .ref ca, .int (nI pl.length), .ref ta])) := by rw [ew22, va_up_ne _ _ (fw_ne f1 f2 (by simp))]; exact f1
  have f3 : w21 ca = some (.inl (dA 3, 16, .inr (.inr (.inr (.inr fc))))) := by rw [ew22, va_up_ne _ _ (fw_ne f3 f2 (by simp))]; exact f3
  have f4 : w21 ta = some (.inl (dA 0, 11, .inl fa)) := by rw [ew22, va_up_ne _ _ (fw_ne f4 f2 (by simp))]; exact f4
  have f2 : w21 tr = some (.inl (dA 3, 24, .inr (.inr (.inr (.inr (va_up (va_up ft k none) (12 + k) none)))))) := by rw [ew22]; exact va_up_self _ _ _
  refine lv_iinc (v := nI 2) (lv' := [(2, .int (nI 2)), (0, .ref h), (1, .int (nI k))]) hx hb d_M_dropKey_19 hl (k := 0) rfl (nI_add _ 1) (by decide) rfl (fun ls hl => ?_)
  refine lv_goto (tgt := 2) hx hb d_M_dropKey_22 (by decide) ?_
  refine lv_iload_n hx hb d_M_dropKey_2 rfl (lv_at hl 0 rfl) ?_
  refine lv_iconst (v := (nI 2)) hx hb d_M_dropKey_3 (by decide) ?_
  refine nu_ge (tgt := 25) hx hb (by omega) (by omega) d_M_dropKey_4 (by decide) (fun _ => ?_) (fun c9 => absurd c9 (by omega))
  refine lv_iconst (v := (nI 0)) hx hb d_M_dropKey_25 (by decide) ?_
  refine lv_istore_n (lv' := [(2, .int (nI 0)), (0, .ref h), (1, .int (nI k))]) hx hb d_M_dropKey_26 rfl hl (by decide) rfl (fun ls hl => ?_)
  refine lv_iconst (v := (nI 0)) hx hb d_M_dropKey_27 (by decide) ?_
  refine lv_istore_n (lv' := [(3, .int (nI 0)), (2, .int (nI 0)), (0, .ref h), (1, .int (nI k))]) hx hb d_M_dropKey_28 rfl hl (by decide) rfl (fun ls hl => ?_)
  have hfr0 : ∀ z, z ≠ tr → w21 z = w z := fun z z1 => by rw [ew22, va_up_ne _ _ z1, ew20, va_up_ne _ _ z1]
  have hl : lv_has ls 5 [(3, .int (nI 0)), (2, .int (nI (((pl.take 0).filter (fun t => !(ow t == k))).length))), (0, .ref h), (1, .int (nI k))] := hl
  suffices lp : ∀ (n : Nat) (i : Nat) (fx : Nat → Option Nat), (i ≤ pl.length) → (cP fx ((pl.take i).filter (fun t => !(ow t == k)))) → (∀ j, i ≤ j → fx j = fc j) → (pl.length < i + n) → ∀ (wl : fw_W) (H : Heap) (locs : List Loc), (wl h = some (.inr (0, [.ref tr, .ref ca, .int (nI pl.length), .ref ta]))) → (wl tr = some (.inl (dA 3, 24, .inr (.inr (.inr (.inr (va_up (va_up ft k none) (12 + k) none))))))) → (wl ca = some (.inl (dA 3, 16, .inr (.inr (.inr (.inr fx)))))) → (wl ta = some (.inl (dA 0, 11, .inl fa))) → (∀ z, z ≠ tr → z ≠ ca → wl z = w z) → fw_P (dC, dI) cls_ (AA s0) wl H → va_S (AA s0) s.heap H locs → ∀ (ls : Array Slot), lv_has ls 5 [(0, .ref h), (1, .int (nI k)), (2, .int (nI (((pl.take i).filter (fun t => !(ow t == k))).length))), (3, .int (nI i))] → W p l e _ s m args below meth c H locs 0 0 (MQ below _ args s 0 0 (AA s0)) (F0 m 29 ls []) from lp (pl.length + 1) 0 fc (by omega) (fun j t hj => by simp at hj) (fun j _ => rfl) (by omega) _ _ _ f1 f2 f3 f4 (fun z z1 _ => hfr0 z z1) hP hS ls (lv_sub hl [2, 3, 1, 0] rfl)
  intro n
  induction n with
  | zero => intro i fx hi hf1 hf2 hbn; exact absurd hbn (by omega)
  | succ n ih =>
    intro i fx hi hf1 hf2 hbn wl H locs f1 f2 f3 f4 hfr hP hS ls hl
    have hle : ((pl.take i).filter (fun t => !(ow t == k))).length ≤ i := filt_len
    refine lv_iload_n hx hb d_M_dropKey_29 rfl (lv_at hl 3 rfl) ?_
    refine lv_aload_n hx hb d_M_dropKey_30 rfl (lv_at hl 0 rfl) ?_
    refine va_get (D := (dC, dI)) (ci := 0) (v := .int (nI pl.length)) (C := R_M) (T := F_M) (N := 4) hx hb hg in_M hown hK (hP.one f1) 0 rfl rfl 2 (by decide) (hg _ k_118) (fun _ h9 => h9) rfl d_M_dropKey_31 ?_
    refine nu_ge (tgt := 75) hx hb (by omega) (by omega) d_M_dropKey_34 (by decide) (fun c1 => ?_) (fun c1 => ?_)
    · refine lv_aload_n hx hb d_M_dropKey_75 rfl (lv_at hl 0 rfl) ?_
      refine lv_iload_n hx hb d_M_dropKey_76 rfl (lv_at hl 2 rfl) ?_
      refine va_callv (rn_V (n := 1) (As := [.int (nI (((pl.take i).filter (fun t => !(ow t == k))).length))]) (rest := []) (C := R_M) (T := F_M) (N := 4) (ci := 0) X hP hS (c_M_clear B0 wl h tr ca ta fx pl.length ((pl.take i).filter (fun t => !(ow t == k))).length f1 f3 h16 (fun j h1 h2 => (hf2 j (by omega)).trans (hcn j h1 h2)) (by omega)) k_286 k_288 k_7 k_56 k_289 (by decide +kernel) rfl rfl ⟨Nat.le_of_ble_eq_true rfl, Nat.le_of_ble_eq_true rfl⟩ f1 rfl rfl hl.1 rfl (Nat.le_of_ble_eq_true rfl) d_M_dropKey_77 ⟨Nat.le_of_ble_eq_true rfl, Nat.le_of_ble_eq_true rfl⟩) hS (fun q _ h => h) (fun q h => h) (fun w23 tS H locs ht hvm hw hB hz1 hk1 hS => ?_)
      have hP : fw_P (dC, dI) cls_ (AA s0) w23 H := by rw [← ht]; exact hB
      obtain ⟨g1, ⟨fy, g2, g3, gcn⟩, g4⟩ := hw
      have g5 : w23 tr = some (.inl (dA 3, 24, .inr (.inr (.inr (.inr (va_up (va_up ft k none) (12 + k) none)))))) := (g4 tr (fw_ne f2 f1 (by simp)) (fw_ne f2 f3 (by simp))).trans f2
      have g6 : w23 ta = some (.inl (dA 0, 11, .inl fa)) := (g4 ta (fw_ne f4 f1 (by simp)) (fw_ne f4 f3 (by simp))).trans f4
      rw [show i = pl.length by omega, List.take_length] at g1 g3 gcn hf1 hle
      exact W.vret hx hb hr (fun tS ht hW => ⟨⟨w23, rfl, ⟨⟨fy, g1, g5, g2, g6, by omega, fun j t hj => (g3 j (List.getElem?_eq_some_iff.mp hj).1).trans (hf1 j t hj), gcn⟩, fun z z1 z2 z3 => (g4 z z1 z3).trans (hfr z z2 z3)⟩, mB_of ht hP⟩, hS.F ht⟩) hS.2.2 d_M_dropKey_80
    · obtain ⟨t9, ht9⟩ : ∃ t, pl[i]? = some t := ⟨_, List.getElem?_eq_getElem c1⟩
      obtain ⟨x1, x2, x3, x4, f5⟩ := hO t9 (List.mem_of_getElem? ht9)
      have ho9 := hok t9 (List.mem_of_getElem? ht9)
      rw [← hfr t9 (fw_ne f5 f2w (by simp)) (fw_ne f5 f3w (by simp))] at f5
      refine lv_aload_n hx hb d_M_dropKey_37 rfl (lv_at hl 0 rfl) ?_
      refine lv_iload_n hx hb d_M_dropKey_38 rfl (lv_at hl 3 rfl) ?_
      refine va_callq (rn_V (n := 1) (As := [.int (nI i)]) (rest := []) (C := R_M) (T := F_M) (N := 4) (ci := 0) X hP hS (c_M_entryIn B0 wl h tr ca ta fx pl.length i f1 f3 h16 c1) k_282 k_284 k_6 k_56 k_285 (by decide +kernel) rfl rfl ⟨Nat.le_of_ble_eq_true rfl, Nat.le_of_ble_eq_true rfl⟩ f1 rfl rfl hl.1 rfl (Nat.le_of_ble_eq_true rfl) d_M_dropKey_39 ⟨Nat.le_of_ble_eq_true rfl, Nat.le_of_ble_eq_true rfl⟩) hS (fun q _ h => h) (fun q h => h) (fun r w24 tS H locs ht hvm hw hB hz1 hk1 hS => ?_)
      have hP : fw_P (dC, dI) cls_ (AA s0) w24 H := by rw [← ht]; exact hB
      obtain ⟨ew9, er9⟩ := hw
      rw [ew9] at hP
      rw [er9, hf2 i (Nat.le_refl _), hpl i t9 ht9]
      refine lv_astore (lv' := [(4, .ref t9), (0, .ref h), (1, .int (nI k)), (2, .int (nI (((pl.take i).filter (fun t => !(ow t == k))).length))), (3, .int (nI i))]) hx hb d_M_dropKey_42 hl (by decide) rfl (fun ls hl => ?_)
      refine lv_aload hx hb d_M_dropKey_44 (lv_at hl 0 rfl) ?_
      refine lv_ifnull hx hb d_M_dropKey_46 ?_
      refine lv_aload hx hb d_M_dropKey_49 (lv_at hl 0 rfl) ?_
      refine va_getN (D := (dC, dI)) (ci := 3) (v := .int (nI (ow t9))) (C := R_T) (T := F_T) (N := 5) hx hb hg in_T hown hK (hP.one f5) 0 rfl rfl 0 (by decide) (hn _ u_403) (fun _ h9 => h9) rfl d_M_dropKey_51 ?_
      refine lv_iload_n hx hb d_M_dropKey_54 rfl (lv_at hl 2 rfl) ?_
      refine nu_eq (tgt := 69) hx hb (by omega) (by omega) d_M_dropKey_55 (by decide) (fun c2 => ?_) (fun c2 => ?_)
      · refine lv_iinc (v := nI (i + 1)) (lv' := [(3, .int (nI (i + 1))), (4, .ref t9), (0, .ref h), (1, .int (nI k)), (2, .int (nI (((pl.take i).filter (fun t => !(ow t == k))).length)))]) hx hb d_M_dropKey_69 hl (k := 4) rfl (nI_add _ 1) (by decide) rfl (fun ls hl => ?_)
        refine lv_goto (tgt := 29) hx hb d_M_dropKey_72 (by decide) ?_
        have hs9 := cP_skip (p := (fun t => !(ow t == k))) ht9 (by simp [c2])
        rw [← hs9] at hl hf1
        exact ih (i + 1) fx (by omega) hf1 (fun j hj => hf2 j (by omega)) (by omega) _ _ _ f1 f2 f3 f4 hfr hP hS ls (lv_sub hl [2, 3, 4, 0] rfl)
      · refine lv_aload_n hx hb d_M_dropKey_58 rfl (lv_at hl 1 rfl) ?_
        refine va_get (D := (dC, dI)) (ci := 0) (v := .ref ca) (C := R_M) (T := F_M) (N := 4) hx hb hg in_M hown hK (hP.one f1) 0 rfl rfl 1 (by decide) (hg _ k_117) (fun _ h9 => h9) rfl d_M_dropKey_59 ?_
        refine lv_iload_n hx hb d_M_dropKey_62 rfl (lv_at hl 3 rfl) ?_
        refine lv_aload hx hb d_M_dropKey_63 (lv_at hl 0 rfl) ?_
        refine fw_astq (tys := tyl dA) (r := (R_T, F_T, 5)) hx hb hK hP hS f3 3 rfl 3 f5 rfl (j := ((pl.take i).filter (fun t => !(ow t == k))).length) (by omega) (by decide) d_M_dropKey_65 (fun w25 H locs ew26 hP hS => ?_)
        have f1 : w25 h = some (.inr (0, [.ref tr, .ref ca, .int (nI pl.length), .ref ta])) := by rw [ew26, va_up_ne _ _ (fw_ne f1 f3 (by simp))]; exact f1
        have f2 : w25 tr = some (.inl (dA 3, 24, .inr (.inr (.inr (.inr (va_up (va_up ft k none) (12 + k) none)))))) := by rw [ew26, va_up_ne _ _ (fw_ne f2 f3 (by simp))]; exact f2
        have f4 : w25 ta = some (.inl (dA 0, 11, .inl fa)) := by rw [ew26, va_up_ne _ _ (fw_ne f4 f3 (by simp))]; exact f4
        have f5 : w25 t9 = some (.inr (3, [.int (nI (ow t9)), x1, x2, x3, x4])) := by rw [ew26, va_up_ne _ _ (fw_ne f5 f3 (by simp))]; exact f5
        have f3 : w25 ca = some (.inl (dA 3, 16, .inr (.inr (.inr (.inr (va_up fx (((pl.take i).filter (fun t => !(ow t == k))).length) (some t9))))))) := by rw [ew26]; exact va_up_self _ _ _
        refine lv_iinc (v := nI (((pl.take i).filter (fun t => !(ow t == k))).length + 1)) (lv' := [(2, .int (nI (((pl.take i).filter (fun t => !(ow t == k))).length + 1))), (4, .ref t9), (0, .ref h), (1, .int (nI k)), (3, .int (nI i))]) hx hb d_M_dropKey_66 hl (k := 3) rfl (nI_add _ 1) (by decide) rfl (fun ls hl => ?_)
        refine lv_iinc (v := nI (i + 1)) (lv' := [(3, .int (nI (i + 1))), (2, .int (nI (((pl.take i).filter (fun t => !(ow t == k))).length + 1))), (4, .ref t9), (0, .ref h), (1, .int (nI k))]) hx hb d_M_dropKey_69 hl (k := 4) rfl (nI_add _ 1) (by decide) rfl (fun ls hl => ?_)
        refine lv_goto (tgt := 29) hx hb d_M_dropKey_72 (by decide) ?_
        have hs9 := filt_one (p := (fun t => !(ow t == k))) ht9 (by simp [c2])
        rw [← hs9] at hl
        exact ih (i + 1) (va_up fx ((pl.take i).filter (fun t => !(ow t == k))).length (some t9)) (by omega) (cP_filt ht9 hf1 (by simp [c2])) (fun j hj => by rw [va_up_ne _ _ (by omega)]; exact hf2 j (by omega)) (by omega) _ _ _ f1 f2 f3 f4 (fun z z1 z2 => by rw [ew26, va_up_ne _ _ z2]; exact hfr z z1 z2) hP hS ls (lv_sub hl [3, 4, 1, 0] rfl)
end
section
theorem tbl_ao : Cond.arrayOver (.object R_T) ∈ lw_tbl := by decide +kernel
theorem tbl_aoa : Cond.arrayOver (.array .int) ∈ lw_tbl := by decide +kernel
theorem EE.ao {s0 U : State} {dC : Nat → ClassId} {dI : Nat → Nat → Nat} {dA : Nat → ClassId} (B0 : BB s0 dC dI dA) (h : EE s0 U) : va_AO R_T U := by
  obtain ⟨⟨a0, h0⟩, -⟩ := B0
  exact va_AO.moved h.1.alike (va_AO.of (h0 _ tbl_ao))
theorem EE.aoa {s0 U : State} {dC : Nat → ClassId} {dI : Nat → Nat → Nat} {dA : Nat → ClassId} (B0 : BB s0 dC dI dA) (h : EE s0 U) : va_AOA .int U := by
  obtain ⟨⟨a0, h0⟩, -⟩ := B0
  exact va_AOA.moved h.1.alike (va_AOA.of (h0 _ tbl_aoa))
def mI (m : Nat) : Int32 := nI m - nI 1
theorem mI_s (m : Nat) : mI (m + 1) = nI m := by
  unfold mI
  rw [pk_sub (by omega), Nat.add_sub_cancel]
theorem mI_0 : mI 0 < 0 := by decide
theorem mI_dec (m : Nat) : nI m + Int32.ofInt (-1) = mI m := by
  unfold mI
  rw [Int32.sub_eq_add_neg]
  rfl
/-- the entries of a kind among the newest, the newest first -/
def roL (pl : List Nat) (p : Nat → Bool) (m : Nat) : List Nat := ((pl.drop m).filter p).reverse
theorem roL_end (pl : List Nat) (p : Nat → Bool) : roL pl p pl.length = [] := by simp [roL]
theorem roL_0 (pl : List Nat) (p : Nat → Bool) : roL pl p 0 = (pl.filter p).reverse := by simp [roL]
theorem roL_yes {pl : List Nat} {p : Nat → Bool} {m t : Nat} (ht : pl[m]? = some t) (hp : p t = true) : roL pl p m = roL pl p (m + 1) ++ [t] := by
  have hm := (List.getElem?_eq_some_iff.mp ht).1
  have e : pl.drop m = t :: pl.drop (m + 1) := by
    rw [List.drop_eq_getElem_cons hm]
    congr 1
    exact (List.getElem?_eq_some_iff.mp ht).2
  unfold roL
  rw [e, List.filter_cons, if_pos hp, List.reverse_cons]
theorem roL_no {pl : List Nat} {p : Nat → Bool} {m t : Nat} (ht : pl[m]? = some t) (hp : p t = false) : roL pl p m = roL pl p (m + 1) := by
  have hm := (List.getElem?_eq_some_iff.mp ht).1
  have e : pl.drop m = t :: pl.drop (m + 1) := by
    rw [List.drop_eq_getElem_cons hm]
    congr 1
    exact (List.getElem?_eq_some_iff.mp ht).2
  unfold roL
  rw [e, List.filter_cons, if_neg (by rw [hp]; decide)]
theorem roL_len (pl : List Nat) (p : Nat → Bool) (m : Nat) : (roL pl p m).length ≤ pl.length - m := by
  unfold roL
  rw [List.length_reverse]
  have h := List.length_filter_le p (pl.drop m)
  rw [List.length_drop] at h
  exact h
theorem cP_row {fr : Nat → Option Nat} {L : List Nat} {st t : Nat} (h : cP (fun j => fr (st + j)) L) : cP (fun j => va_up fr (st + L.length) (some t) (st + j)) (L ++ [t]) := by
  have h2 := cP_app (t := t) h
  have e : (fun j => va_up fr (st + L.length) (some t) (st + j)) = va_up (fun j => fr (st + j)) L.length (some t) := by
    funext j
    by_cases hj : j = L.length
    · rw [hj, va_up_self, va_up_self]
    · rw [va_up_ne _ _ hj, va_up_ne _ _ (by omega)]
  rw [e]
  exact h2
end
section
set_option maxHeartbeats 4000000 in
set_option maxRecDepth 100000 in
theorem c_M_copyE {l : Launch} {s0 : State} {dC : Nat → ClassId} {dI : Nat → Nat → Nat} {dA : Nat → ClassId} (B0 : BB s0 dC dI dA) (w : fw_W) (h tr ca ta : Nat) (ft : Nat → Option Nat) (pl : List Nat) (fa : Nat → Int32) (ow : Nat → Nat) (k rw st : Nat) (fr : Nat → Option Nat) (hM : aM dA w h tr ca ta ft pl fa) (hO : ∀ t ∈ pl, oT w t (ow t)) (hok : ∀ t ∈ pl, ow t < 12) (hk : k < 12) (f6 : w rw = some (.inl (dA 3, 192, .inr (.inr (.inr (.inr fr)))))) (hst : st + 16 ≤ 192) : Met l y_M_copyEntriesOf [.code y_M_copyEntriesOf b_M_copyEntriesOf 7 (some .int)] ({ frames := 1, cells := 0, slots := 0, locals := 22 }) (mP s0 dC dI w [.ref h, .int (nI k), .ref rw, .int (nI st)]) (mQi s0 dC dI (fun r w' => r = nI ((pl.filter (fun t => ow t == k)).reverse).length ∧ (∃ fr' : Nat → Option Nat, w' rw = some (.inl (dA 3, 192, .inr (.inr (.inr (.inr fr'))))) ∧ cP (fun j => fr' (st + j)) ((pl.filter (fun t => ow t == k)).reverse) ∧ ∀ z, (z < st ∨ st + 16 ≤ z) → fr' z = fr z) ∧ ∀ z, z ≠ rw → w' z = w z)) 0 0 (AA s0) := by
  obtain ⟨fc, f1, f2, f3, f4, h16, hpl, hcn⟩ := hM
  refine mt_ofW B0 (by decide) (Nat.le_of_ble_eq_true rfl) (fun p e s m args below meth c ls hargs X hin hl hP => ?_)
  have X9 := X
  obtain ⟨hx, hb, hr, hml, hown, hg, hK, hn, hE, hlocks, hA⟩ := X9
  have hS : va_S (AA s0) s.heap s.heap [] := va_S.rf
  have hl : lv_has ls 7 [(0, .ref h), (1, .int (nI k)), (2, .ref rw), (3, .int (nI st))] := hl
  have f6w := f6
  refine lv_iconst (v := (nI 0)) hx hb d_M_copyEntriesOf_0 (by decide) ?_
  refine lv_istore (lv' := [(4, .int (nI 0)), (0, .ref h), (1, .int (nI k)), (2, .ref rw), (3, .int (nI st))]) hx hb d_M_copyEntriesOf_1 hl (by decide) rfl (fun ls hl => ?_)
  refine lv_aload_n hx hb d_M_copyEntriesOf_3 rfl (lv_at hl 1 rfl) ?_
  refine va_get (D := (dC, dI)) (ci := 0) (v := .int (nI pl.length)) (C := R_M) (T := F_M) (N := 4) hx hb hg in_M hown hK (hP.one f1) 0 rfl rfl 2 (by decide) (hg _ k_118) (fun _ h9 => h9) rfl d_M_copyEntriesOf_4 ?_
  refine lv_iconst (v := (nI 1)) hx hb d_M_copyEntriesOf_7 (by decide) ?_
  refine lv_isub hx hb d_M_copyEntriesOf_8 ?_
  refine lv_istore (lv' := [(5, .int ((nI pl.length) - (nI 1))), (4, .int (nI 0)), (0, .ref h), (1, .int (nI k)), (2, .ref rw), (3, .int (nI st))]) hx hb d_M_copyEntriesOf_9 hl (by decide) rfl (fun ls hl => ?_)
  have hl : lv_has ls 7 [(5, .int (mI pl.length)), (4, .int (nI ((roL pl (fun t => ow t == k) pl.length).length))), (0, .ref h), (1, .int (nI k)), (2, .ref rw), (3, .int (nI st))] := by rw [roL_end]; exact hl
  suffices lp : ∀ (n : Nat) (m1 : Nat) (fx : Nat → Option Nat), (m1 ≤ pl.length) → (cP (fun j => fx (st + j)) (roL pl (fun t => ow t == k) m1)) → (∀ z, (z < st ∨ st + 16 ≤ z) → fx z = fr z) → (m1 < n) → ∀ (wl : fw_W) (H : Heap) (locs : List Loc), (wl h = some (.inr (0, [.ref tr, .ref ca, .int (nI pl.length), .ref ta]))) → (wl tr = some (.inl (dA 3, 24, .inr (.inr (.inr (.inr ft)))))) → (wl ca = some (.inl (dA 3, 16, .inr (.inr (.inr (.inr fc)))))) → (wl ta = some (.inl (dA 0, 11, .inl fa))) → (wl rw = some (.inl (dA 3, 192, .inr (.inr (.inr (.inr fx)))))) → (∀ z, z ≠ rw → wl z = w z) → fw_P (dC, dI) cls_ (AA s0) wl H → va_S (AA s0) s.heap H locs → ∀ (ls : Array Slot), lv_has ls 7 [(0, .ref h), (1, .int (nI k)), (2, .ref rw), (3, .int (nI st)), (4, .int (nI ((roL pl (fun t => ow t == k) m1).length))), (5, .int (mI m1))] → W p l e _ s m args below meth c H locs 0 0 (MQ below _ args s 0 0 (AA s0)) (F0 m 11 ls []) from lp (pl.length + 1) pl.length fr (Nat.le_refl _) (by rw [roL_end]; intro j t hj; simp at hj) (fun z _ => rfl) (by omega) _ _ _ f1 f2 f3 f4 f6 (fun z _ => rfl) hP hS ls (lv_sub hl [2, 3, 4, 5, 1, 0] rfl)
  intro n
  induction n with
  | zero => intro m1 fx hm hf1 hf2 hbn; exact absurd hbn (by omega)
  | succ n ih =>
    intro m1 fx hm hf1 hf2 hbn wl H locs f1 f2 f3 f4 f6 hfr hP hS ls hl
    have hrl := roL_len pl (fun t => ow t == k) m1
    refine lv_iload hx hb d_M_copyEntriesOf_11 (lv_at hl 5 rfl) ?_
    refine lv_if_lt (tgt := 55) hx hb d_M_copyEntriesOf_13 (by decide) (fun c1 => ?_) (fun c1 => ?_)
    · refine lv_iload hx hb d_M_copyEntriesOf_55 (lv_at hl 4 rfl) ?_
      obtain rfl : m1 = 0 := by
        rcases m1 with _ | m2
        · rfl
        · rw [mI_s] at c1; exact absurd c1 (nI_pos (by omega))
      rw [roL_0] at hf1
      rw [roL_0]
      exact W.iret (v := (nI (((pl.filter (fun t => ow t == k)).reverse).length))) hx hb hr (fun tS ht hW => ⟨⟨(nI (((pl.filter (fun t => ow t == k)).reverse).length)), wl, rfl, ⟨rfl, ⟨fx, f6, hf1, hf2⟩, hfr⟩, mB_of ht hP⟩, hS.F ht⟩) hS.2.2 d_M_copyEntriesOf_57
    · rcases m1 with _ | m2
      · exact absurd mI_0 c1
      rw [mI_s] at hl
      obtain ⟨t9, ht9⟩ : ∃ t, pl[m2]? = some t := ⟨_, List.getElem?_eq_getElem (by omega)⟩
      obtain ⟨x1, x2, x3, x4, f5⟩ := hO t9 (List.mem_of_getElem? ht9)
      have ho9 := hok t9 (List.mem_of_getElem? ht9)
      rw [← hfr t9 (fw_ne f5 f6w (by simp))] at f5
      refine lv_aload_n hx hb d_M_copyEntriesOf_16 rfl (lv_at hl 0 rfl) ?_
      refine lv_iload hx hb d_M_copyEntriesOf_17 (lv_at hl 5 rfl) ?_
      refine va_callq (rn_V (n := 1) (As := [.int (nI m2)]) (rest := []) (C := R_M) (T := F_M) (N := 4) (ci := 0) X hP hS (c_M_entryIn B0 wl h tr ca ta fc pl.length m2 f1 f3 h16 (by omega)) k_282 k_284 k_6 k_56 k_285 (by decide +kernel) rfl rfl ⟨Nat.le_of_ble_eq_true rfl, Nat.le_of_ble_eq_true rfl⟩ f1 rfl rfl hl.1 rfl (Nat.le_of_ble_eq_true rfl) d_M_copyEntriesOf_19 ⟨Nat.le_of_ble_eq_true rfl, Nat.le_of_ble_eq_true rfl⟩) hS (fun q _ h => h) (fun q h => h) (fun r w27 tS H locs ht hvm hw hB hz1 hk1 hS => ?_)
      have hP : fw_P (dC, dI) cls_ (AA s0) w27 H := by rw [← ht]; exact hB
      obtain ⟨ew9, er9⟩ := hw
      rw [ew9] at hP
      rw [er9, hpl m2 t9 ht9]
      refine lv_astore (lv' := [(6, .ref t9), (0, .ref h), (1, .int (nI k)), (2, .ref rw), (3, .int (nI st)), (4, .int (nI ((roL pl (fun t => ow t == k) (m2 + 1)).length))), (5, .int (nI m2))]) hx hb d_M_copyEntriesOf_22 hl (by decide) rfl (fun ls hl => ?_)
      refine lv_aload hx hb d_M_copyEntriesOf_24 (lv_at hl 0 rfl) ?_
      refine lv_ifnull hx hb d_M_copyEntriesOf_26 ?_
      refine lv_aload hx hb d_M_copyEntriesOf_29 (lv_at hl 0 rfl) ?_
      refine va_getN (D := (dC, dI)) (ci := 3) (v := .int (nI (ow t9))) (C := R_T) (T := F_T) (N := 5) hx hb hg in_T hown hK (hP.one f5) 0 rfl rfl 0 (by decide) (hn _ u_403) (fun _ h9 => h9) rfl d_M_copyEntriesOf_31 ?_
      refine lv_iload_n hx hb d_M_copyEntriesOf_34 rfl (lv_at hl 2 rfl) ?_
      refine nu_ne (tgt := 49) hx hb (by omega) (by omega) d_M_copyEntriesOf_35 (by decide) (fun c2 => ?_) (fun c2 => ?_)
      · refine lv_iinc (v := mI m2) (lv' := [(5, .int (mI m2)), (6, .ref t9), (0, .ref h), (1, .int (nI k)), (2, .ref rw), (3, .int (nI st)), (4, .int (nI ((roL pl (fun t => ow t == k) (m2 + 1)).length)))]) hx hb d_M_copyEntriesOf_49 hl (k := 6) rfl (mI_dec m2) (by decide) rfl (fun ls hl => ?_)
        refine lv_goto (tgt := 11) hx hb d_M_copyEntriesOf_52 (by decide) ?_
        have hs9 := roL_no (p := (fun t => ow t == k)) ht9 (by simp [c2])
        rw [← hs9] at hl hf1
        exact ih m2 fx (by omega) hf1 hf2 (by omega) _ _ _ f1 f2 f3 f4 f6 hfr hP hS ls (lv_sub hl [2, 3, 4, 5, 6, 0] rfl)
      · refine lv_aload_n hx hb d_M_copyEntriesOf_38 rfl (lv_at hl 3 rfl) ?_
        refine lv_iload_n hx hb d_M_copyEntriesOf_39 rfl (lv_at hl 4 rfl) ?_
        refine lv_iload hx hb d_M_copyEntriesOf_40 (lv_at hl 5 rfl) ?_
        refine nu_iadd (r := st + ((roL pl (fun t => ow t == k) (m2 + 1)).length)) hx hb d_M_copyEntriesOf_42 (by omega) ?_
        refine lv_aload hx hb d_M_copyEntriesOf_43 (lv_at hl 0 rfl) ?_
        refine fw_astq (tys := tyl dA) (r := (R_T, F_T, 5)) hx hb hK hP hS f6 3 rfl 3 f5 rfl (j := st + ((roL pl (fun t => ow t == k) (m2 + 1)).length)) (by omega) (by decide) d_M_copyEntriesOf_45 (fun w28 H locs ew29 hP hS => ?_)
        have f1 : w28 h = some (.inr (0, [.ref tr, .ref ca, .int (nI pl.length), .ref ta])) := by rw [ew29, va_up_ne _ _ (fw_ne f1 f6 (by simp))]; exact f1
        have f2 : w28 tr = some (.inl (dA 3, 24, .inr (.inr (.inr (.inr ft))))) := by rw [ew29, va_up_ne _ _ (fw_ne f2 f6 (by simp))]; exact f2
        have f3 : w28 ca = some (.inl (dA 3, 16, .inr (.inr (.inr (.inr fc))))) := by rw [ew29, va_up_ne _ _ (Ne.symm (fw_ne f6 f3 (by simp)))]; exact f3
        have f4 : w28 ta = some (.inl (dA 0, 11, .inl fa)) := by rw [ew29, va_up_ne _ _ (fw_ne f4 f6 (by simp))]; exact f4
        have f5 : w28 t9 = some (.inr (3, [.int (nI (ow t9)), x1, x2, x3, x4])) := by rw [ew29, va_up_ne _ _ (fw_ne f5 f6 (by simp))]; exact f5
        have f6 : w28 rw = some (.inl (dA 3, 192, .inr (.inr (.inr (.inr (va_up fx (st + ((roL pl (fun t => ow t == k) (m2 + 1)).length)) (some t9))))))) := by rw [ew29]; exact va_up_self _ _ _
        refine lv_iinc (v := nI ((roL pl (fun t => ow t == k) (m2 + 1)).length + 1)) (lv' := [(4, .int (nI ((roL pl (fun t => ow t == k) (m2 + 1)).length + 1))), (6, .ref t9), (0, .ref h), (1, .int (nI k)), (2, .ref rw), (3, .int (nI st)), (5, .int (nI m2))]) hx hb d_M_copyEntriesOf_46 hl (k := 5) rfl (nI_add _ 1) (by decide) rfl (fun ls hl => ?_)
        refine lv_iinc (v := mI m2) (lv' := [(5, .int (mI m2)), (4, .int (nI ((roL pl (fun t => ow t == k) (m2 + 1)).length + 1))), (6, .ref t9), (0, .ref h), (1, .int (nI k)), (2, .ref rw), (3, .int (nI st))]) hx hb d_M_copyEntriesOf_49 hl (k := 6) rfl (mI_dec m2) (by decide) rfl (fun ls hl => ?_)
        refine lv_goto (tgt := 11) hx hb d_M_copyEntriesOf_52 (by decide) ?_
        have hs9 := roL_yes (p := (fun t => ow t == k)) ht9 (by simp [c2])
        have hs8 : (roL pl (fun t => ow t == k) m2).length = (roL pl (fun t => ow t == k) (m2 + 1)).length + 1 := by rw [hs9, List.length_append]; rfl
        rw [← hs8] at hl
        exact ih m2 (va_up fx (st + (roL pl (fun t => ow t == k) (m2 + 1)).length) (some t9)) (by omega) (by rw [hs9]; exact cP_row hf1) (fun z hz => by rw [va_up_ne _ _ (by omega)]; exact hf2 z hz) (by omega) _ _ _ f1 f2 f3 f4 f6 (fun z z1 => by rw [ew29, va_up_ne _ _ z1]; exact hfr z z1) hP hS ls (lv_sub hl [3, 4, 5, 6, 1, 0] rfl)
set_option maxHeartbeats 4000000 in
set_option maxRecDepth 100000 in
theorem c_M_init {l : Launch} {s0 : State} {dC : Nat → ClassId} {dI : Nat → Nat → Nat} {dA : Nat → ClassId} (B0 : BB s0 dC dI dA) (w : fw_W) (h : Nat) (f1 : w h = some (.inr (0, [.null, .null, .int 0, .null]))) : Met l y_M_init [.code y_M_init b_M_init 1 none] ({ frames := 1, cells := 3, slots := 51, locals := 12 }) (mP s0 dC dI w [.ref h]) (mQv s0 dC dI (fun w' => ∃ tr ca ta : Nat, w tr = none ∧ w ca = none ∧ w ta = none ∧ aM dA w' h tr ca ta (fun _ => none) [] (fun _ => 0) ∧ ∀ z, z ≠ h → z ≠ tr → z ≠ ca → z ≠ ta → w' z = w z)) 3 51 (AA s0) := by
  refine mt_ofW B0 (by decide) (Nat.le_of_ble_eq_true rfl) (fun p e s m args below meth c ls hargs X hin hl hP => ?_)
  have X9 := X
  obtain ⟨hx, hb, hr, hml, hown, hg, hK, hn, hE, hlocks, hA⟩ := X9
  have hS : va_S (AA s0) s.heap s.heap [] := va_S.rf
  have hl : lv_has ls 1 [(0, .ref h)] := hl
  refine lv_aload_n hx hb d_M_init_0 rfl (lv_at hl 0 rfl) ?_
  refine W.objInit hx hb hown (hg _ k_113) (hg _ k_74) (hg _ k_75) rfl (by rw [hml]; exact hl.1) rfl d_M_init_1 (Nat.le_of_ble_eq_true rfl) (Nat.le_of_ble_eq_true rfl) ?_
  refine W.eq (g2 := F0 m 4 ls []) rfl ?_
  refine lv_aload_n hx hb d_M_init_4 rfl (lv_at hl 0 rfl) ?_
  refine lv_bipush (v := (nI 24)) hx hb d_M_init_5 (by decide) ?_
  refine fw_newq (tys := tyl dA) (C := R_T) (N' := 24) hx hb hown (hg _ k_114) (hE.ao B0) hK hP hS hA 3 rfl (by decide) (by decide) (by decide) (Nat.le_of_ble_eq_true rfl) (Nat.le_of_ble_eq_true rfl) d_M_init_7 (fun q30 w31 H hn33 ew32 hP hS => ?_)
  have f1 : w31 h = some (.inr (0, [.null, .null, .int 0, .null])) := by rw [ew32, va_up_ne _ _ (fw_neN f1 hn33)]; exact f1
  have f34 : w31 q30 = some (.inl (dA 3, 24, .inr (.inr (.inr (.inr (fun _ => none)))))) := by rw [ew32]; exact va_up_self _ _ _
  refine fw_putF (D := (dC, dI)) (ci := 0) (v := .ref q30) (ty := (.array (.object "TraceBuilder$Trace"))) (C := R_M) (T := F_M) (N := 4) hx hb hg in_M ft_M ft_M_ok n_M hown hK hP hS f1 rfl 0 (by decide) (hg _ k_116) (fun _ h9 => h9) rfl (hin rfl) rfl (by decide +kernel) rfl rfl (Nat.le_of_ble_eq_true rfl) d_M_init_10 (fun w35 H locs ew36 hP hS => ?_)
  have f34 : w35 q30 = some (.inl (dA 3, 24, .inr (.inr (.inr (.inr (fun _ => none)))))) := by rw [ew36, va_up_ne _ _ (fw_ne f34 f1 (by simp))]; exact f34
  have f1 : w35 h = some (.inr (0, [.ref q30, .null, .int 0, .null])) := by rw [ew36]; exact va_up_self _ _ _
  refine lv_aload_n hx hb d_M_init_13 rfl (lv_at hl 0 rfl) ?_
  refine lv_bipush (v := (nI 16)) hx hb d_M_init_14 (by decide) ?_
  refine fw_newq (tys := tyl dA) (C := R_T) (N' := 16) hx hb hown (hg _ k_114) (hE.ao B0) hK hP hS hA 3 rfl (by decide) (by decide) (by decide) (Nat.le_of_ble_eq_true rfl) (Nat.le_of_ble_eq_true rfl) d_M_init_16 (fun q37 w38 H hn40 ew39 hP hS => ?_)
  have f1 : w38 h = some (.inr (0, [.ref q30, .null, .int 0, .null])) := by rw [ew39, va_up_ne _ _ (fw_neN f1 hn40)]; exact f1
  have f34 : w38 q30 = some (.inl (dA 3, 24, .inr (.inr (.inr (.inr (fun _ => none)))))) := by rw [ew39, va_up_ne _ _ (fw_neN f34 hn40)]; exact f34
  have f41 : w38 q37 = some (.inl (dA 3, 16, .inr (.inr (.inr (.inr (fun _ => none)))))) := by rw [ew39]; exact va_up_self _ _ _
  refine fw_putF (D := (dC, dI)) (ci := 0) (v := .ref q37) (ty := (.array (.object "TraceBuilder$Trace"))) (C := R_M) (T := F_M) (N := 4) hx hb hg in_M ft_M ft_M_ok n_M hown hK hP hS f1 rfl 1 (by decide) (hg _ k_117) (fun _ h9 => h9) rfl (hin rfl) rfl (by decide +kernel) rfl rfl (Nat.le_of_ble_eq_true rfl) d_M_init_19 (fun w42 H locs ew43 hP hS => ?_)
  have f34 : w42 q30 = some (.inl (dA 3, 24, .inr (.inr (.inr (.inr (fun _ => none)))))) := by rw [ew43, va_up_ne _ _ (fw_ne f34 f1 (by simp))]; exact f34
  have f41 : w42 q37 = some (.inl (dA 3, 16, .inr (.inr (.inr (.inr (fun _ => none)))))) := by rw [ew43, va_up_ne _ _ (fw_ne f41 f1 (by simp))]; exact f41
  have f1 : w42 h = some (.inr (0, [.ref q30, .ref q37, .int 0, .null])) := by rw [ew43]; exact va_up_self _ _ _
  refine lv_aload_n hx hb d_M_init_22 rfl (lv_at hl 0 rfl) ?_
  refine lv_bipush (v := (nI 11)) hx hb d_M_init_23 (by decide) ?_
  refine fw_newa (tys := tyl dA) (atype := .int) (N' := 11) (a0 := (11, .inl (fun _ => 0))) hx hb (hg _ k_106) rfl hK hP hS hA 0 rfl (fun _ => rfl) (by decide) (by decide) (by decide) (Nat.le_of_ble_eq_true rfl) (Nat.le_of_ble_eq_true rfl) d_M_init_25 (fun q44 w45 H hn47 ew46 hP hS => ?_)
  have f1 : w45 h = some (.inr (0, [.ref q30, .ref q37, .int 0, .null])) := by rw [ew46, va_up_ne _ _ (fw_neN f1 hn47)]; exact f1
  have f34 : w45 q30 = some (.inl (dA 3, 24, .inr (.inr (.inr (.inr (fun _ => none)))))) := by rw [ew46, va_up_ne _ _ (fw_neN f34 hn47)]; exact f34
  have f41 : w45 q37 = some (.inl (dA 3, 16, .inr (.inr (.inr (.inr (fun _ => none)))))) := by rw [ew46, va_up_ne _ _ (fw_neN f41 hn47)]; exact f41
  have f48 : w45 q44 = some (.inl (dA 0, 11, .inl (fun _ => 0))) := by rw [ew46]; exact va_up_self _ _ _
  refine fw_putF (D := (dC, dI)) (ci := 0) (v := .ref q44) (ty := (.array .int)) (C := R_M) (T := F_M) (N := 4) hx hb hg in_M ft_M ft_M_ok n_M hown hK hP hS f1 rfl 3 (by decide) (hg _ k_120) (fun _ h9 => h9) rfl (hin rfl) rfl (by decide +kernel) rfl rfl (Nat.le_of_ble_eq_true rfl) d_M_init_27 (fun w49 H locs ew50 hP hS => ?_)
  have f34 : w49 q30 = some (.inl (dA 3, 24, .inr (.inr (.inr (.inr (fun _ => none)))))) := by rw [ew50, va_up_ne _ _ (fw_ne f34 f1 (by simp))]; exact f34
  have f41 : w49 q37 = some (.inl (dA 3, 16, .inr (.inr (.inr (.inr (fun _ => none)))))) := by rw [ew50, va_up_ne _ _ (fw_ne f41 f1 (by simp))]; exact f41
  have f48 : w49 q44 = some (.inl (dA 0, 11, .inl (fun _ => 0))) := by rw [ew50, va_up_ne _ _ (fw_ne f48 f1 (by simp))]; exact f48
  have f1 : w49 h = some (.inr (0, [.ref q30, .ref q37, .int 0, .ref q44])) := by rw [ew50]; exact va_up_self _ _ _
  have zq30 : w q30 = none := by
    have a9 := hn33
    exact a9
  have zq37 : w q37 = none := by
    have a9 := hn40
    rw [ew36] at a9
    have b9 : q37 ≠ h := fun e9 => by rw [e9, va_up_self] at a9; cases a9
    rw [va_up_ne _ _ b9] at a9
    rw [ew32] at a9
    have b9 : q37 ≠ q30 := fun e9 => by rw [e9, va_up_self] at a9; cases a9
    rw [va_up_ne _ _ b9] at a9
    exact a9
  have zq44 : w q44 = none := by
    have a9 := hn47
    rw [ew43] at a9
    have b9 : q44 ≠ h := fun e9 => by rw [e9, va_up_self] at a9; cases a9
    rw [va_up_ne _ _ b9] at a9
    rw [ew39] at a9
    have b9 : q44 ≠ q37 := fun e9 => by rw [e9, va_up_self] at a9; cases a9
    rw [va_up_ne _ _ b9] at a9
    rw [ew36] at a9
    have b9 : q44 ≠ h := fun e9 => by rw [e9, va_up_self] at a9; cases a9
    rw [va_up_ne _ _ b9] at a9
    rw [ew32] at a9
    have b9 : q44 ≠ q30 := fun e9 => by rw [e9, va_up_self] at a9; cases a9
    rw [va_up_ne _ _ b9] at a9
    exact a9
  exact W.vret hx hb hr (fun tS ht hW => ⟨⟨w49, rfl, ⟨q30, q37, q44, zq30, zq37, zq44, ⟨fun _ => none, f1, f34, f41, f48, by decide, fun i t hi => by simp at hi, fun _ _ _ => rfl⟩, (fun z z1 z2 z3 z4 => by rw [ew50, va_up_ne _ _ z1, ew46, va_up_ne _ _ z4, ew43, va_up_ne _ _ z1, ew39, va_up_ne _ _ z3, ew36, va_up_ne _ _ z1, ew32, va_up_ne _ _ z2])⟩, mB_of ht hP⟩, hS.F ht⟩) hS.2.2 d_M_init_30
end
section
set_option maxHeartbeats 4000000 in
set_option maxRecDepth 100000 in
theorem c_M_copyOf {l : Launch} {s0 : State} {dC : Nat → ClassId} {dI : Nat → Nat → Nat} {dA : Nat → ClassId} (B0 : BB s0 dC dI dA) (w : fw_W) (h2 tr2 ca2 ta2 : Nat) (ft2 : Nat → Option Nat) (pl2 : List Nat) (fa2 : Nat → Int32) (h tr ca ta : Nat) (ft : Nat → Option Nat) (pl : List Nat) (fa : Nat → Int32) (ow : Nat → Nat) (hM2 : aM dA w h2 tr2 ca2 ta2 ft2 pl2 fa2) (hM : aM dA w h tr ca ta ft pl fa) (hO : ∀ t ∈ pl, oT w t (ow t)) (hO2 : ∀ i, i < 24 → ∀ t, ft i = some t → ∃ o, oT w t o) (n1 : h2 ≠ h) (n2 : tr2 ≠ tr) (n3 : ca2 ≠ ca) : Met l y_M_becomeCopyOf [.code y_M_becomeCopyOf b_M_becomeCopyOf 3 none] ({ frames := 0, cells := 0, slots := 0, locals := 0 }) (mP s0 dC dI w [.ref h2, .ref h]) (mQv s0 dC dI (fun w' => (∃ ft' : Nat → Option Nat, aM dA w' h2 tr2 ca2 ta2 ft' pl fa2 ∧ ∀ i, i < 24 → ft' i = ft i) ∧ ∀ z, z ≠ h2 → z ≠ tr2 → z ≠ ca2 → w' z = w z)) 0 0 (AA s0) := by
  obtain ⟨fd, k1, k2, k3, k4, k16, kpl, kcn⟩ := hM2
  obtain ⟨fc, f1, f2, f3, f4, h16, hpl, hcn⟩ := hM
  refine mt_ofW B0 (by decide) (Nat.le_of_ble_eq_true rfl) (fun p e s m args below meth c ls hargs X hin hl hP => ?_)
  have X9 := X
  obtain ⟨hx, hb, hr, hml, hown, hg, hK, hn, hE, hlocks, hA⟩ := X9
  have hS : va_S (AA s0) s.heap s.heap [] := va_S.rf
  have hl : lv_has ls 3 [(0, .ref h2), (1, .ref h)] := hl
  have f1w := f1
  have f2w := f2
  have f3w := f3
  have k1w := k1
  have k2w := k2
  have k3w := k3
  refine lv_iconst (v := (nI 0)) hx hb d_M_becomeCopyOf_0 (by decide) ?_
  refine lv_istore_n (lv' := [(2, .int (nI 0)), (0, .ref h2), (1, .ref h)]) hx hb d_M_becomeCopyOf_1 rfl hl (by decide) rfl (fun ls hl => ?_)
  suffices lp : ∀ (n : Nat) (i : Nat) (fx : Nat → Option Nat), (i ≤ 24) → (∀ j, j < i → fx j = ft j) → (24 < i + n) → ∀ (wl : fw_W) (H : Heap) (locs : List Loc), (wl h = some (.inr (0, [.ref tr, .ref ca, .int (nI pl.length), .ref ta]))) → (wl tr = some (.inl (dA 3, 24, .inr (.inr (.inr (.inr ft)))))) → (wl ca = some (.inl (dA 3, 16, .inr (.inr (.inr (.inr fc)))))) → (wl ta = some (.inl (dA 0, 11, .inl fa))) → (wl h2 = some (.inr (0, [.ref tr2, .ref ca2, .int (nI pl2.length), .ref ta2]))) → (wl tr2 = some (.inl (dA 3, 24, .inr (.inr (.inr (.inr fx)))))) → (wl ca2 = some (.inl (dA 3, 16, .inr (.inr (.inr (.inr fd)))))) → (wl ta2 = some (.inl (dA 0, 11, .inl fa2))) → (∀ z, z ≠ tr2 → wl z = w z) → fw_P (dC, dI) cls_ (AA s0) wl H → va_S (AA s0) s.heap H locs → ∀ (ls : Array Slot), lv_has ls 3 [(0, .ref h2), (1, .ref h), (2, .int (nI i))] → W p l e _ s m args below meth c H locs 0 0 (MQ below _ args s 0 0 (AA s0)) (F0 m 2 ls []) from lp 25 0 ft2 (by omega) (fun j hj => absurd hj (Nat.not_lt_zero j)) (by omega) _ _ _ f1 f2 f3 f4 k1 k2 k3 k4 (fun z _ => rfl) hP hS ls (lv_sub hl [1, 2, 0] rfl)
  intro n
  induction n with
  | zero => intro i fx hi hfx hbn; exact absurd hbn (by omega)
  | succ n ih =>
    intro i fx hi hfx hbn wl H locs f1 f2 f3 f4 k1 k2 k3 k4 hfr hP hS ls hl
    refine lv_iload_n hx hb d_M_becomeCopyOf_2 rfl (lv_at hl 2 rfl) ?_
    refine lv_aload_n hx hb d_M_becomeCopyOf_3 rfl (lv_at hl 0 rfl) ?_
    refine va_get (D := (dC, dI)) (ci := 0) (v := .ref tr2) (C := R_M) (T := F_M) (N := 4) hx hb hg in_M hown hK (hP.one k1) 0 rfl rfl 0 (by decide) (hg _ k_116) (fun _ h9 => h9) rfl d_M_becomeCopyOf_4 ?_
    refine va_alen (D := (dC, dI)) (v := nI 24) hx hb hK (hP.one k2) 0 3 rfl rfl rfl d_M_becomeCopyOf_7 ?_
    refine nu_ge (tgt := 29) hx hb (by omega) (by omega) d_M_becomeCopyOf_8 (by decide) (fun c1 => ?_) (fun c1 => ?_)
    · clear ih
      refine lv_iconst (v := (nI 0)) hx hb d_M_becomeCopyOf_29 (by decide) ?_
      refine lv_istore_n (lv' := [(2, .int (nI 0)), (0, .ref h2), (1, .ref h)]) hx hb d_M_becomeCopyOf_30 rfl hl (by decide) rfl (fun ls hl => ?_)
      suffices lp : ∀ (n : Nat) (i2 : Nat) (fy : Nat → Option Nat), (i2 ≤ 16) → (∀ j, j < i2 → fy j = fc j) → (16 < i2 + n) → ∀ (wm : fw_W) (H : Heap) (locs : List Loc), (wm h = some (.inr (0, [.ref tr, .ref ca, .int (nI pl.length), .ref ta]))) → (wm tr = some (.inl (dA 3, 24, .inr (.inr (.inr (.inr ft)))))) → (wm ca = some (.inl (dA 3, 16, .inr (.inr (.inr (.inr fc)))))) → (wm ta = some (.inl (dA 0, 11, .inl fa))) → (wm h2 = some (.inr (0, [.ref tr2, .ref ca2, .int (nI pl2.length), .ref ta2]))) → (wm tr2 = some (.inl (dA 3, 24, .inr (.inr (.inr (.inr fx)))))) → (wm ca2 = some (.inl (dA 3, 16, .inr (.inr (.inr (.inr fy)))))) → (wm ta2 = some (.inl (dA 0, 11, .inl fa2))) → (∀ z, z ≠ tr2 → z ≠ ca2 → wm z = w z) → fw_P (dC, dI) cls_ (AA s0) wm H → va_S (AA s0) s.heap H locs → ∀ (ls : Array Slot), lv_has ls 3 [(0, .ref h2), (1, .ref h), (2, .int (nI i2))] → W p l e _ s m args below meth c H locs 0 0 (MQ below _ args s 0 0 (AA s0)) (F0 m 31 ls []) from lp 17 0 fd (by omega) (fun j hj => absurd hj (Nat.not_lt_zero j)) (by omega) _ _ _ f1 f2 f3 f4 k1 k2 k3 k4 (fun z z1 _ => hfr z z1) hP hS ls (lv_sub hl [1, 2, 0] rfl)
      intro n
      induction n with
      | zero => intro i2 fy hi2 hy1 hbn; exact absurd hbn (by omega)
      | succ n ih =>
        intro i2 fy hi2 hy1 hbn wm H locs f1 f2 f3 f4 k1 k2 k3 k4 hfm hP hS ls hl
        refine lv_iload_n hx hb d_M_becomeCopyOf_31 rfl (lv_at hl 2 rfl) ?_
        refine lv_bipush (v := (nI 16)) hx hb d_M_becomeCopyOf_32 (by decide) ?_
        refine nu_ge (tgt := 55) hx hb (by omega) (by omega) d_M_becomeCopyOf_34 (by decide) (fun c3 => ?_) (fun c3 => ?_)
        · refine lv_aload_n hx hb d_M_becomeCopyOf_55 rfl (lv_at hl 0 rfl) ?_
          refine lv_aload_n hx hb d_M_becomeCopyOf_56 rfl (lv_at hl 1 rfl) ?_
          refine va_get (D := (dC, dI)) (ci := 0) (v := .int (nI pl.length)) (C := R_M) (T := F_M) (N := 4) hx hb hg in_M hown hK (hP.one f1) 0 rfl rfl 2 (by decide) (hg _ k_118) (fun _ h9 => h9) rfl d_M_becomeCopyOf_57 ?_
          refine fw_put (D := (dC, dI)) (ci := 0) (v := .int (nI pl.length)) (ty := .int) (C := R_M) (T := F_M) (N := 4) hx hb hg in_M ft_M ft_M_ok n_M hown hK hP hS k1 rfl 2 (by decide) (hg _ k_118) (fun _ h9 => h9) rfl (by decide +kernel) rfl rfl (Nat.le_of_ble_eq_true rfl) d_M_becomeCopyOf_60 (fun w51 H locs ew52 hP hS => ?_)
          have f1 : w51 h = some (.inr (0, [.ref tr, .ref ca, .int (nI pl.length), .ref ta])) := by rw [ew52, va_up_ne _ _ (Ne.symm n1)]; exact f1
          have f2 : w51 tr = some (.inl (dA 3, 24, .inr (.inr (.inr (.inr ft))))) := by rw [ew52, va_up_ne _ _ (fw_ne f2 k1 (by simp))]; exact f2
          have f3 : w51 ca = some (.inl (dA 3, 16, .inr (.inr (.inr (.inr fc))))) := by rw [ew52, va_up_ne _ _ (fw_ne f3 k1 (by simp))]; exact f3
          have f4 : w51 ta = some (.inl (dA 0, 11, .inl fa)) := by rw [ew52, va_up_ne _ _ (fw_ne f4 k1 (by simp))]; exact f4
          have k2 : w51 tr2 = some (.inl (dA 3, 24, .inr (.inr (.inr (.inr fx))))) := by rw [ew52, va_up_ne _ _ (fw_ne k2 k1 (by simp))]; exact k2
          have k3 : w51 ca2 = some (.inl (dA 3, 16, .inr (.inr (.inr (.inr fy))))) := by rw [ew52, va_up_ne _ _ (fw_ne k3 k1 (by simp))]; exact k3
          have k4 : w51 ta2 = some (.inl (dA 0, 11, .inl fa2)) := by rw [ew52, va_up_ne _ _ (fw_ne k4 k1 (by simp))]; exact k4
          have k1 : w51 h2 = some (.inr (0, [.ref tr2, .ref ca2, .int (nI pl.length), .ref ta2])) := by rw [ew52]; exact va_up_self _ _ _
          exact W.vret hx hb hr (fun tS ht hW => ⟨⟨w51, rfl, ⟨⟨fx, ⟨fy, k1, k2, k3, k4, h16, fun j t hj => (hy1 j (by have := (List.getElem?_eq_some_iff.mp hj).1; omega)).trans (hpl j t hj), fun j h1 h2 => (hy1 j (by omega)).trans (hcn j h1 h2)⟩, fun j hj => hfx j (by omega)⟩, fun z z1 z2 z3 => by rw [ew52, va_up_ne _ _ z1]; exact hfm z z2 z3⟩, mB_of ht hP⟩, hS.F ht⟩) hS.2.2 d_M_becomeCopyOf_63
        · refine lv_aload_n hx hb d_M_becomeCopyOf_37 rfl (lv_at hl 0 rfl) ?_
          refine va_get (D := (dC, dI)) (ci := 0) (v := .ref ca2) (C := R_M) (T := F_M) (N := 4) hx hb hg in_M hown hK (hP.one k1) 0 rfl rfl 1 (by decide) (hg _ k_117) (fun _ h9 => h9) rfl d_M_becomeCopyOf_38 ?_
          refine lv_iload_n hx hb d_M_becomeCopyOf_41 rfl (lv_at hl 2 rfl) ?_
          refine lv_aload_n hx hb d_M_becomeCopyOf_42 rfl (lv_at hl 1 rfl) ?_
          refine va_get (D := (dC, dI)) (ci := 0) (v := .ref ca) (C := R_M) (T := F_M) (N := 4) hx hb hg in_M hown hK (hP.one f1) 0 rfl rfl 1 (by decide) (hg _ k_117) (fun _ h9 => h9) rfl d_M_becomeCopyOf_43 ?_
          refine lv_iload_n hx hb d_M_becomeCopyOf_46 rfl (lv_at hl 2 rfl) ?_
          refine fw_aldq (tys := tyl dA) hx hb hK hP f3 3 rfl (j := i2) (by omega) (by decide) d_M_becomeCopyOf_47 ?_
          by_cases hlt : i2 < pl.length
          · obtain ⟨t9, ht9⟩ : ∃ t, pl[i2]? = some t := ⟨_, List.getElem?_eq_getElem hlt⟩
            obtain ⟨x1, x2, x3, x4, f5⟩ := hO t9 (List.mem_of_getElem? ht9)
            rw [← hfm t9 (fw_ne f5 k2w (by simp)) (fw_ne f5 k3w (by simp))] at f5
            rw [hpl i2 t9 ht9]
            refine fw_astq (tys := tyl dA) (r := (R_T, F_T, 5)) hx hb hK hP hS k3 3 rfl 3 f5 rfl (j := i2) (by omega) (by decide) d_M_becomeCopyOf_48 (fun w53 H locs ew54 hP hS => ?_)
            have f1 : w53 h = some (.inr (0, [.ref tr, .ref ca, .int (nI pl.length), .ref ta])) := by rw [ew54, va_up_ne _ _ (fw_ne f1 k3 (by simp))]; exact f1
            have f2 : w53 tr = some (.inl (dA 3, 24, .inr (.inr (.inr (.inr ft))))) := by rw [ew54, va_up_ne _ _ (fw_ne f2 k3 (by simp))]; exact f2
            have f3 : w53 ca = some (.inl (dA 3, 16, .inr (.inr (.inr (.inr fc))))) := by rw [ew54, va_up_ne _ _ (Ne.symm n3)]; exact f3
            have f4 : w53 ta = some (.inl (dA 0, 11, .inl fa)) := by rw [ew54, va_up_ne _ _ (fw_ne f4 k3 (by simp))]; exact f4
            have k1 : w53 h2 = some (.inr (0, [.ref tr2, .ref ca2, .int (nI pl2.length), .ref ta2])) := by rw [ew54, va_up_ne _ _ (fw_ne k1 k3 (by simp))]; exact k1
            have k2 : w53 tr2 = some (.inl (dA 3, 24, .inr (.inr (.inr (.inr fx))))) := by rw [ew54, va_up_ne _ _ (fw_ne k2 k3 (by simp))]; exact k2
            have k4 : w53 ta2 = some (.inl (dA 0, 11, .inl fa2)) := by rw [ew54, va_up_ne _ _ (fw_ne k4 k3 (by simp))]; exact k4
            have f5 : w53 t9 = some (.inr (3, [.int (nI (ow t9)), x1, x2, x3, x4])) := by rw [ew54, va_up_ne _ _ (fw_ne f5 k3 (by simp))]; exact f5
            have k3 : w53 ca2 = some (.inl (dA 3, 16, .inr (.inr (.inr (.inr (va_up fy i2 (some t9))))))) := by rw [ew54]; exact va_up_self _ _ _
            refine lv_iinc (v := nI (i2 + 1)) (lv' := [(2, .int (nI (i2 + 1))), (0, .ref h2), (1, .ref h)]) hx hb d_M_becomeCopyOf_49 hl (k := 2) rfl (nI_add _ 1) (by decide) rfl (fun ls hl => ?_)
            refine lv_goto (tgt := 31) hx hb d_M_becomeCopyOf_52 (by decide) ?_
            exact ih (i2 + 1) (va_up fy i2 (some t9)) (by omega) (fun j hj => by by_cases h9 : j = i2; rw [h9, va_up_self]; exact (hpl i2 t9 ht9).symm; rw [va_up_ne _ _ h9]; exact hy1 j (by omega)) (by omega) _ _ _ f1 f2 f3 f4 k1 k2 k3 k4 (fun z z1 z2 => by rw [ew54, va_up_ne _ _ z2]; exact hfm z z1 z2) hP hS ls (lv_sub hl [1, 2, 0] rfl)
          · rw [hcn i2 (by omega) (by omega)]
            refine fw_astqN (tys := tyl dA) hx hb hK hP hS k3 3 rfl (j := i2) (by omega) (by decide) d_M_becomeCopyOf_48 (fun w55 H locs ew56 hP hS => ?_)
            have f1 : w55 h = some (.inr (0, [.ref tr, .ref ca, .int (nI pl.length), .ref ta])) := by rw [ew56, va_up_ne _ _ (fw_ne f1 k3 (by simp))]; exact f1
            have f2 : w55 tr = some (.inl (dA 3, 24, .inr (.inr (.inr (.inr ft))))) := by rw [ew56, va_up_ne _ _ (fw_ne f2 k3 (by simp))]; exact f2
            have f3 : w55 ca = some (.inl (dA 3, 16, .inr (.inr (.inr (.inr fc))))) := by rw [ew56, va_up_ne _ _ (Ne.symm n3)]; exact f3
            have f4 : w55 ta = some (.inl (dA 0, 11, .inl fa)) := by rw [ew56, va_up_ne _ _ (fw_ne f4 k3 (by simp))]; exact f4
            have k1 : w55 h2 = some (.inr (0, [.ref tr2, .ref ca2, .int (nI pl2.length), .ref ta2])) := by rw [ew56, va_up_ne _ _ (fw_ne k1 k3 (by simp))]; exact k1
            have k2 : w55 tr2 = some (.inl (dA 3, 24, .inr (.inr (.inr (.inr fx))))) := by rw [ew56, va_up_ne _ _ (fw_ne k2 k3 (by simp))]; exact k2
            have k4 : w55 ta2 = some (.inl (dA 0, 11, .inl fa2)) := by rw [ew56, va_up_ne _ _ (fw_ne k4 k3 (by simp))]; exact k4
            have k3 : w55 ca2 = some (.inl (dA 3, 16, .inr (.inr (.inr (.inr (va_up fy i2 none)))))) := by rw [ew56]; exact va_up_self _ _ _
            refine lv_iinc (v := nI (i2 + 1)) (lv' := [(2, .int (nI (i2 + 1))), (0, .ref h2), (1, .ref h)]) hx hb d_M_becomeCopyOf_49 hl (k := 2) rfl (nI_add _ 1) (by decide) rfl (fun ls hl => ?_)
            refine lv_goto (tgt := 31) hx hb d_M_becomeCopyOf_52 (by decide) ?_
            exact ih (i2 + 1) (va_up fy i2 none) (by omega) (fun j hj => by by_cases h9 : j = i2; rw [h9, va_up_self]; exact (hcn i2 (by omega) (by omega)).symm; rw [va_up_ne _ _ h9]; exact hy1 j (by omega)) (by omega) _ _ _ f1 f2 f3 f4 k1 k2 k3 k4 (fun z z1 z2 => by rw [ew56, va_up_ne _ _ z2]; exact hfm z z1 z2) hP hS ls (lv_sub hl [1, 2, 0] rfl)
    · refine lv_aload_n hx hb d_M_becomeCopyOf_11 rfl (lv_at hl 0 rfl) ?_
      refine va_get (D := (dC, dI)) (ci := 0) (v := .ref tr2) (C := R_M) (T := F_M) (N := 4) hx hb hg in_M hown hK (hP.one k1) 0 rfl rfl 0 (by decide) (hg _ k_116) (fun _ h9 => h9) rfl d_M_becomeCopyOf_12 ?_
      refine lv_iload_n hx hb d_M_becomeCopyOf_15 rfl (lv_at hl 2 rfl) ?_
      refine lv_aload_n hx hb d_M_becomeCopyOf_16 rfl (lv_at hl 1 rfl) ?_
      refine va_get (D := (dC, dI)) (ci := 0) (v := .ref tr) (C := R_M) (T := F_M) (N := 4) hx hb hg in_M hown hK (hP.one f1) 0 rfl rfl 0 (by decide) (hg _ k_116) (fun _ h9 => h9) rfl d_M_becomeCopyOf_17 ?_
      refine lv_iload_n hx hb d_M_becomeCopyOf_20 rfl (lv_at hl 2 rfl) ?_
      refine fw_aldq (tys := tyl dA) hx hb hK hP f2 3 rfl (j := i) (by omega) (by decide) d_M_becomeCopyOf_21 ?_
      rcases hq : ft i with _ | t9
      · refine fw_astqN (tys := tyl dA) hx hb hK hP hS k2 3 rfl (j := i) (by omega) (by decide) d_M_becomeCopyOf_22 (fun w57 H locs ew58 hP hS => ?_)
        have f1 : w57 h = some (.inr (0, [.ref tr, .ref ca, .int (nI pl.length), .ref ta])) := by rw [ew58, va_up_ne _ _ (fw_ne f1 k2 (by simp))]; exact f1
        have f2 : w57 tr = some (.inl (dA 3, 24, .inr (.inr (.inr (.inr ft))))) := by rw [ew58, va_up_ne _ _ (Ne.symm n2)]; exact f2
        have f3 : w57 ca = some (.inl (dA 3, 16, .inr (.inr (.inr (.inr fc))))) := by rw [ew58, va_up_ne _ _ (fw_ne f3 k2 (by simp))]; exact f3
        have f4 : w57 ta = some (.inl (dA 0, 11, .inl fa)) := by rw [ew58, va_up_ne _ _ (fw_ne f4 k2 (by simp))]; exact f4
        have k1 : w57 h2 = some (.inr (0, [.ref tr2, .ref ca2, .int (nI pl2.length), .ref ta2])) := by rw [ew58, va_up_ne _ _ (fw_ne k1 k2 (by simp))]; exact k1
        have k3 : w57 ca2 = some (.inl (dA 3, 16, .inr (.inr (.inr (.inr fd))))) := by rw [ew58, va_up_ne _ _ (fw_ne k3 k2 (by simp))]; exact k3
        have k4 : w57 ta2 = some (.inl (dA 0, 11, .inl fa2)) := by rw [ew58, va_up_ne _ _ (fw_ne k4 k2 (by simp))]; exact k4
        have k2 : w57 tr2 = some (.inl (dA 3, 24, .inr (.inr (.inr (.inr (va_up fx i none)))))) := by rw [ew58]; exact va_up_self _ _ _
        refine lv_iinc (v := nI (i + 1)) (lv' := [(2, .int (nI (i + 1))), (0, .ref h2), (1, .ref h)]) hx hb d_M_becomeCopyOf_23 hl (k := 2) rfl (nI_add _ 1) (by decide) rfl (fun ls hl => ?_)
        refine lv_goto (tgt := 2) hx hb d_M_becomeCopyOf_26 (by decide) ?_
        exact ih (i + 1) (va_up fx i none) (by omega) (fun j hj => by by_cases h9 : j = i; rw [h9, va_up_self]; exact hq.symm; rw [va_up_ne _ _ h9]; exact hfx j (by omega)) (by omega) _ _ _ f1 f2 f3 f4 k1 k2 k3 k4 (fun z z1 => by rw [ew58, va_up_ne _ _ z1]; exact hfr z z1) hP hS ls (lv_sub hl [1, 2, 0] rfl)
      · obtain ⟨o9, x1, x2, x3, x4, f5⟩ := hO2 i (by omega) t9 hq
        rw [← hfr t9 (fw_ne f5 k2w (by simp))] at f5
        refine fw_astq (tys := tyl dA) (r := (R_T, F_T, 5)) hx hb hK hP hS k2 3 rfl 3 f5 rfl (j := i) (by omega) (by decide) d_M_becomeCopyOf_22 (fun w59 H locs ew60 hP hS => ?_)
        have f1 : w59 h = some (.inr (0, [.ref tr, .ref ca, .int (nI pl.length), .ref ta])) := by rw [ew60, va_up_ne _ _ (fw_ne f1 k2 (by simp))]; exact f1
        have f2 : w59 tr = some (.inl (dA 3, 24, .inr (.inr (.inr (.inr ft))))) := by rw [ew60, va_up_ne _ _ (Ne.symm n2)]; exact f2
        have f3 : w59 ca = some (.inl (dA 3, 16, .inr (.inr (.inr (.inr fc))))) := by rw [ew60, va_up_ne _ _ (fw_ne f3 k2 (by simp))]; exact f3
        have f4 : w59 ta = some (.inl (dA 0, 11, .inl fa)) := by rw [ew60, va_up_ne _ _ (fw_ne f4 k2 (by simp))]; exact f4
        have k1 : w59 h2 = some (.inr (0, [.ref tr2, .ref ca2, .int (nI pl2.length), .ref ta2])) := by rw [ew60, va_up_ne _ _ (fw_ne k1 k2 (by simp))]; exact k1
        have k3 : w59 ca2 = some (.inl (dA 3, 16, .inr (.inr (.inr (.inr fd))))) := by rw [ew60, va_up_ne _ _ (fw_ne k3 k2 (by simp))]; exact k3
        have k4 : w59 ta2 = some (.inl (dA 0, 11, .inl fa2)) := by rw [ew60, va_up_ne _ _ (fw_ne k4 k2 (by simp))]; exact k4
        have f5 : w59 t9 = some (.inr (3, [.int (nI o9), x1, x2, x3, x4])) := by rw [ew60, va_up_ne _ _ (fw_ne f5 k2 (by simp))]; exact f5
        have k2 : w59 tr2 = some (.inl (dA 3, 24, .inr (.inr (.inr (.inr (va_up fx i (some t9))))))) := by rw [ew60]; exact va_up_self _ _ _
        refine lv_iinc (v := nI (i + 1)) (lv' := [(2, .int (nI (i + 1))), (0, .ref h2), (1, .ref h)]) hx hb d_M_becomeCopyOf_23 hl (k := 2) rfl (nI_add _ 1) (by decide) rfl (fun ls hl => ?_)
        refine lv_goto (tgt := 2) hx hb d_M_becomeCopyOf_26 (by decide) ?_
        exact ih (i + 1) (va_up fx i (some t9)) (by omega) (fun j hj => by by_cases h9 : j = i; rw [h9, va_up_self]; exact hq.symm; rw [va_up_ne _ _ h9]; exact hfx j (by omega)) (by omega) _ _ _ f1 f2 f3 f4 k1 k2 k3 k4 (fun z z1 => by rw [ew60, va_up_ne _ _ z1]; exact hfr z z1) hP hS ls (lv_sub hl [1, 2, 0] rfl)
end
section
theorem fw_tail {D : va_G} {cl : List vw_C} {A : Nat → Prop} {w : fw_W} {H1 : Heap} {ws L2 : va_W} (hw : ∀ (q : Nat) (e : va_E), w q = some e → ∃ i : Nat, ws[i]? = some (q, e)) (hP : va_P D cl (ws ++ L2) H1) (hD : va_D A (ws ++ L2)) : (∀ (q : Nat) (e : va_E), w q = some e → va_at D cl (q, e) H1 ∧ A q) ∧ ∀ (q : Nat) (e : va_E), (q, e) ∈ L2 → va_at D cl (q, e) H1 ∧ A q ∧ w q = none := by
  refine ⟨fun q e hq => ?_, fun q e hq => ?_⟩
  · obtain ⟨i, hi⟩ := hw q e hq
    have h : (ws ++ L2)[i]? = some (q, e) := by rw [List.getElem?_append_left (List.getElem?_eq_some_iff.mp hi).1]; exact hi
    exact ⟨hP i _ h, hD.2 i _ h⟩
  · obtain ⟨j, hj⟩ := List.getElem?_of_mem hq
    have h : (ws ++ L2)[ws.length + j]? = some (q, e) := by rw [List.getElem?_append_right (by omega), Nat.add_sub_cancel_left]; exact hj
    refine ⟨hP _ _ h, hD.2 _ _ h, ?_⟩
    cases hn : w q with
    | none => rfl
    | some x =>
      obtain ⟨i, hi⟩ := hw q x hn
      have hl := (List.getElem?_eq_some_iff.mp hi).1
      have h2 : (ws ++ L2)[i]? = some (q, x) := by rw [List.getElem?_append_left hl]; exact hi
      have := hD.1 i (ws.length + j) _ _ h2 h rfl
      omega
section MNA
variable {p : Program} {l : Launch} {e : Env} {R : Room} {s : State} {m : MethodId} {args : Array Value} {below : List Frame} {meth : Method} {c : Code} {H : Heap} {locs : List Loc} {cells slots : Nat} {Q : State → Prop}
variable {cc : ByteArray} {pc : Nat} {ls : Array Slot} {rest : List Value} {D : va_G} {cl : List vw_C} {tys : List (ClassId × FieldType)} {A : Nat → Prop} {H0 : Heap} {a : Nat} {w : fw_W}
theorem fw_mna (hexec : p.tables.exec = Jvm.exec) (hb : c.code = cc) {own : String} {index : Nat} {ty : FieldType} {cy cB : ClassId} (hown : s.vm.findClass own = some m.cls) (hclink : (Cond.classLink own index ("[" ++ (FieldType.array ty).toString)).before args s = true) (hover : va_AOA ty s) (harr : (Cond.arrayClass ty).before args s = true) (hcy : s.vm.findClass (FieldType.array ty).toString = some cy)
    (hK : va_K D cl tys s) (hP : fw_P D cl A w H) (hS : va_S A H0 H locs) (hA : ∀ q, H0.size ≤ q → A q) (t0 : Nat) (ht : tys[t0]? = some (cB, .array ty)) {n k : Int32} {N' K' : Nat} {z : vp_A} (hn : ¬ n < 0) (hk : ¬ k < 0) (hN : n.toNatClampNeg = N') (hM : k.toNatClampNeg = K')
    (hb1 : N' * 4 ≤ 536870912) (hb2 : K' * componentBytes ty ≤ 536870912) (hb3 : K' ≤ 536870912) (hdf : fits ty (defaultValue ty) = true) (hdd : (defaultValue ty).isDefault = true) (hcells : cells + (1 + N') ≤ R.cells) (hslots : slots + (N' + N' * K') ≤ R.slots) (hz : ∀ c : ClassId, Jvm.Free.Multi.innerC c K' (defaultValue ty) = vp_cell c z) (hdg : decode cc pc = .ok (.multianewarray index 2, 4))
    (kk : ∀ (q : Nat) (r : Nat → Nat) (w1 : fw_W) (H1 : Heap), w q = none → (∀ i : Nat, i < N' → w (r i) = none) → (∀ i j : Nat, i < N' → j < N' → r i = r j → i = j) → (∀ i : Nat, i < N' → r i ≠ q) → w1 q = some (.inl (cB, N', .inr (.inr (.inr (.inr (fun i => if i < N' then some (r i) else none)))))) → (∀ i : Nat, i < N' → w1 (r i) = some (.inl (cy, z))) → (∀ x : Nat, x ≠ q → (∀ i : Nat, i < N' → x ≠ r i) → w1 x = w x) → fw_P D cl A w1 H1 → va_S A H0 H1 locs →
      W p l e R s m args below meth c H1 locs (cells + 1 + N') (slots + N' + N' * K') Q (F0 m (pc + 4) ls (.ref q :: rest))) : W p l e R s m args below meth c H locs cells slots Q (F0 m pc ls (.int k :: .int n :: rest)) := by
  obtain ⟨ws, hPw, hDw, hw⟩ := fw_open hP
  have hPw' : va_P D cl (ws ++ va_pl [] (fun _ => .inr (0, []))) H := by rw [show va_pl [] (fun _ => (.inr (0, []) : va_E)) = [] from rfl, List.append_nil]; exact hPw
  have hDw' : va_D A (ws ++ va_pl [] (fun _ => .inr (0, []))) := by rw [show va_pl [] (fun _ => (.inr (0, []) : va_E)) = [] from rfl, List.append_nil]; exact hDw
  refine va_mna hexec hb hown hclink hover harr hcy hK hPw' hDw' hS hA hn hk hN hM hb1 hb2 hb3 hdf hdd hcells hslots hz hdg (fun q r cA H1 hinj _ h0 h1 h2 h3 => ?_)
  have e1 : cA = cB := fw_cls (h0.2 tys.length (cA, .array ty) (by simp)).2 (hK.2 t0 _ ht).2
  subst e1
  rw [List.append_assoc] at h1 h2
  obtain ⟨g1, g2⟩ := fw_tail hw h1 h2
  have mq : (q, (.inl (cA, N', .inr (.inr (.inr (.inr (fun i => if i < N' then some (r i) else none))))) : va_E)) ∈ [(q, (.inl (cA, N', .inr (.inr (.inr (.inr (fun i => if i < N' then some (r i) else none))))) : va_E))] ++ va_pl ([] ++ (List.range N').map r) (vr_up (fun _ => .inr (0, [])) ((List.range N').map r) (.inl (cy, z))) := List.mem_append_left _ (List.mem_singleton.mpr rfl)
  have mr : ∀ i : Nat, i < N' → (r i, (.inl (cy, z) : va_E)) ∈ [(q, (.inl (cA, N', .inr (.inr (.inr (.inr (fun i => if i < N' then some (r i) else none))))) : va_E))] ++ va_pl ([] ++ (List.range N').map r) (vr_up (fun _ => .inr (0, [])) ((List.range N').map r) (.inl (cy, z))) := fun i hi => by
    have hm : r i ∈ (List.range N').map r := List.mem_map.mpr ⟨i, List.mem_range.mpr hi, rfl⟩
    refine List.mem_append_right _ (List.mem_map.mpr ⟨r i, by rw [List.nil_append]; exact hm, ?_⟩)
    rw [vr_up_in hm]
  have hne : ∀ i : Nat, i < N' → r i ≠ q := fun i hi e9 => by
    have a1 := (g2 _ _ (mr i hi)).1
    have a2 := (g2 _ _ mq).1
    obtain ⟨j1, hj1⟩ := List.getElem?_of_mem (List.mem_append_right ws mq)
    obtain ⟨j2, hj2⟩ := List.getElem?_of_mem (List.mem_append_right ws (mr i hi))
    have := h2.1 j1 j2 _ _ hj1 hj2 e9.symm
    subst this
    have e8 := hj1.symm.trans hj2
    have hpos : ws.length ≤ j1 := Nat.not_lt.mp fun hlt => by
      rw [List.getElem?_append_left hlt] at hj1
      have := h2.1 j1 ws.length _ _ (by rw [List.getElem?_append_left hlt]; exact hj1) (by rw [List.getElem?_append_right (Nat.le_refl _), Nat.sub_self]; rfl) rfl
      omega
    have p1 : (ws ++ ([(q, (.inl (cA, N', .inr (.inr (.inr (.inr (fun i => if i < N' then some (r i) else none))))) : va_E))] ++ va_pl ([] ++ (List.range N').map r) (vr_up (fun _ => .inr (0, [])) ((List.range N').map r) (.inl (cy, z)))))[ws.length]? = some (q, (.inl (cA, N', .inr (.inr (.inr (.inr (fun i => if i < N' then some (r i) else none))))) : va_E)) := by rw [List.getElem?_append_right (Nat.le_refl _), Nat.sub_self]; rfl
    have p2 : (ws ++ ([(q, (.inl (cA, N', .inr (.inr (.inr (.inr (fun i => if i < N' then some (r i) else none))))) : va_E))] ++ va_pl ([] ++ (List.range N').map r) (vr_up (fun _ => .inr (0, [])) ((List.range N').map r) (.inl (cy, z)))))[ws.length + (1 + i)]? = some (r i, (.inl (cy, z) : va_E)) := by
      rw [List.getElem?_append_right (by omega), Nat.add_sub_cancel_left, List.getElem?_append_right (by simp)]
      have hm : r i ∈ (List.range N').map r := List.mem_map.mpr ⟨i, List.mem_range.mpr hi, rfl⟩
      simp [va_pl, hi, vr_up_in hm]
    have := h2.1 _ _ _ _ p1 p2 e9.symm
    omega
  refine kk q r (fun x => if x = q then some (.inl (cA, N', .inr (.inr (.inr (.inr (fun i => if i < N' then some (r i) else none)))))) else if x ∈ (List.range N').map r then some (.inl (cy, z)) else w x) H1 (g2 _ _ mq).2.2 (fun i hi => (g2 _ _ (mr i hi)).2.2) hinj hne (if_pos rfl) (fun i hi => ?_) (fun x hx hx2 => ?_) (fun x ex hex => ?_) h3
  · show (if r i = q then _ else _) = _
    rw [if_neg (hne i hi), if_pos (List.mem_map.mpr ⟨i, List.mem_range.mpr hi, rfl⟩)]
  · show (if x = q then _ else _) = _
    rw [if_neg hx, if_neg (fun hm => by obtain ⟨i, hi, e9⟩ := List.mem_map.mp hm; exact hx2 i (List.mem_range.mp hi) e9.symm)]
  · have hex : (if x = q then some (.inl (cA, N', .inr (.inr (.inr (.inr (fun i => if i < N' then some (r i) else none)))))) else if x ∈ (List.range N').map r then some (.inl (cy, z)) else w x) = some ex := hex
    by_cases hxq : x = q
    · rw [if_pos hxq] at hex
      cases hex
      subst hxq
      exact ⟨(g2 _ _ mq).1, (g2 _ _ mq).2.1⟩
    · rw [if_neg hxq] at hex
      by_cases hm : x ∈ (List.range N').map r
      · rw [if_pos hm] at hex
        cases hex
        obtain ⟨i, hi, rfl⟩ := List.mem_map.mp hm
        exact ⟨(g2 _ _ (mr i (List.mem_range.mp hi))).1, (g2 _ _ (mr i (List.mem_range.mp hi))).2.1⟩
      · rw [if_neg hm] at hex
        exact g1 x ex hex
end MNA
end
section
def pCount (a b c : Int32) : Nat := (if a = -1 then 0 else 1) + (if b = -1 then 0 else 1) + (if c = -1 then 0 else 1)
/-- a Plan object: kinds, values, rules, the rows of parts, how many parts -/
def aP (dA : Nat → ClassId) (w : fw_W) (h ki va ru pa pc : Nat) (ra : Nat → Nat) (kd : Nat → Nat) (vl : Nat → Int64) (rl : Nat → Nat) (pf : Nat → Nat → Int32) (cn : Nat → Nat) : Prop :=
  w h = some (.inr (1, [.ref ki, .ref va, .ref ru, .ref pa, .ref pc])) ∧ w ki = some (.inl (dA 0, 12, .inl (nf kd))) ∧ w va = some (.inl (dA 1, 12, .inr (.inl vl))) ∧ w ru = some (.inl (dA 0, 12, .inl (nf rl))) ∧ (∃ rows : Nat → Option Nat, w pa = some (.inl (dA 4, 12, .inr (.inr (.inr (.inr rows))))) ∧ ∀ k, k < 12 → rows k = some (ra k)) ∧ (∀ k, k < 12 → w (ra k) = some (.inl (dA 0, 3, .inl (pf k)))) ∧ w pc = some (.inl (dA 0, 12, .inl (nf cn))) ∧ ki ≠ ru ∧ ki ≠ pc ∧ ru ≠ pc ∧ ∀ i j, i < 12 → j < 12 → ra i = ra j → i = j
end
section
set_option maxHeartbeats 4000000 in
set_option maxRecDepth 100000 in
theorem c_B_partsAmong {l : Launch} {s0 : State} {dC : Nat → ClassId} {dI : Nat → Nat → Nat} {dA : Nat → ClassId} (B0 : BB s0 dC dI dA) (w : fw_W) (a b c9 : Int32)  : Met l y_B_partsAmong [.code y_B_partsAmong b_B_partsAmong 3 (some .int)] ({ frames := 0, cells := 0, slots := 0, locals := 0 }) (mP s0 dC dI w [.int a, .int b, .int c9]) (mQi s0 dC dI (fun r w' => w' = w ∧ r = nI (pCount a b c9))) 0 0 (AA s0) := by
  refine mt_ofW B0 (by decide) (Nat.le_of_ble_eq_true rfl) (fun p e s m args below meth c ls hargs X hin hl hP => ?_)
  have X9 := X
  obtain ⟨hx, hb, hr, hml, hown, hg, hK, hn, hE, hlocks, hA⟩ := X9
  have hS : va_S (AA s0) s.heap s.heap [] := va_S.rf
  have hl : lv_has ls 3 [(0, .int a), (1, .int b), (2, .int c9)] := hl
  refine lv_iload_n hx hb d_B_partsAmong_0 rfl (lv_at hl 0 rfl) ?_
  refine lv_iconst (v := (-1)) hx hb d_B_partsAmong_1 (by decide) ?_
  refine lv_icmp_ne (tgt := 9) hx hb d_B_partsAmong_2 (by decide) (fun e1 => ?_) (fun e1 => ?_)
  · refine lv_iconst (v := (nI 1)) hx hb d_B_partsAmong_9 (by decide) ?_
    refine lv_iload_n hx hb d_B_partsAmong_10 rfl (lv_at hl 1 rfl) ?_
    refine lv_iconst (v := (-1)) hx hb d_B_partsAmong_11 (by decide) ?_
    refine lv_icmp_ne (tgt := 19) hx hb d_B_partsAmong_12 (by decide) (fun e2 => ?_) (fun e2 => ?_)
    · refine lv_iconst (v := (nI 1)) hx hb d_B_partsAmong_19 (by decide) ?_
      refine nu_iadd (r := 2) hx hb d_B_partsAmong_20 (by omega) ?_
      refine lv_iload_n hx hb d_B_partsAmong_21 rfl (lv_at hl 2 rfl) ?_
      refine lv_iconst (v := (-1)) hx hb d_B_partsAmong_22 (by decide) ?_
      refine lv_icmp_ne (tgt := 30) hx hb d_B_partsAmong_23 (by decide) (fun e3 => ?_) (fun e3 => ?_)
      · refine lv_iconst (v := (nI 1)) hx hb d_B_partsAmong_30 (by decide) ?_
        refine nu_iadd (r := 3) hx hb d_B_partsAmong_31 (by omega) ?_
        exact W.iret (v := (nI 3)) hx hb hr (fun tS ht hW => ⟨⟨(nI 3), w, rfl, ⟨rfl, by unfold pCount; simp [*]⟩, mB_of ht hP⟩, hS.F ht⟩) hS.2.2 d_B_partsAmong_32
      · refine lv_iconst (v := (nI 0)) hx hb d_B_partsAmong_26 (by decide) ?_
        refine lv_goto (tgt := 31) hx hb d_B_partsAmong_27 (by decide) ?_
        refine nu_iadd (r := 2) hx hb d_B_partsAmong_31 (by omega) ?_
        exact W.iret (v := (nI 2)) hx hb hr (fun tS ht hW => ⟨⟨(nI 2), w, rfl, ⟨rfl, by unfold pCount; simp [*]⟩, mB_of ht hP⟩, hS.F ht⟩) hS.2.2 d_B_partsAmong_32
    · refine lv_iconst (v := (nI 0)) hx hb d_B_partsAmong_15 (by decide) ?_
      refine lv_goto (tgt := 20) hx hb d_B_partsAmong_16 (by decide) ?_
      refine nu_iadd (r := 1) hx hb d_B_partsAmong_20 (by omega) ?_
      refine lv_iload_n hx hb d_B_partsAmong_21 rfl (lv_at hl 2 rfl) ?_
      refine lv_iconst (v := (-1)) hx hb d_B_partsAmong_22 (by decide) ?_
      refine lv_icmp_ne (tgt := 30) hx hb d_B_partsAmong_23 (by decide) (fun e3 => ?_) (fun e3 => ?_)
      · refine lv_iconst (v := (nI 1)) hx hb d_B_partsAmong_30 (by decide) ?_
        refine nu_iadd (r := 2) hx hb d_B_partsAmong_31 (by omega) ?_
        exact W.iret (v := (nI 2)) hx hb hr (fun tS ht hW => ⟨⟨(nI 2), w, rfl, ⟨rfl, by unfold pCount; simp [*]⟩, mB_of ht hP⟩, hS.F ht⟩) hS.2.2 d_B_partsAmong_32
      · refine lv_iconst (v := (nI 0)) hx hb d_B_partsAmong_26 (by decide) ?_
        refine lv_goto (tgt := 31) hx hb d_B_partsAmong_27 (by decide) ?_
        refine nu_iadd (r := 1) hx hb d_B_partsAmong_31 (by omega) ?_
        exact W.iret (v := (nI 1)) hx hb hr (fun tS ht hW => ⟨⟨(nI 1), w, rfl, ⟨rfl, by unfold pCount; simp [*]⟩, mB_of ht hP⟩, hS.F ht⟩) hS.2.2 d_B_partsAmong_32
  · refine lv_iconst (v := (nI 0)) hx hb d_B_partsAmong_5 (by decide) ?_
    refine lv_goto (tgt := 10) hx hb d_B_partsAmong_6 (by decide) ?_
    refine lv_iload_n hx hb d_B_partsAmong_10 rfl (lv_at hl 1 rfl) ?_
    refine lv_iconst (v := (-1)) hx hb d_B_partsAmong_11 (by decide) ?_
    refine lv_icmp_ne (tgt := 19) hx hb d_B_partsAmong_12 (by decide) (fun e2 => ?_) (fun e2 => ?_)
    · refine lv_iconst (v := (nI 1)) hx hb d_B_partsAmong_19 (by decide) ?_
      refine nu_iadd (r := 1) hx hb d_B_partsAmong_20 (by omega) ?_
      refine lv_iload_n hx hb d_B_partsAmong_21 rfl (lv_at hl 2 rfl) ?_
      refine lv_iconst (v := (-1)) hx hb d_B_partsAmong_22 (by decide) ?_
      refine lv_icmp_ne (tgt := 30) hx hb d_B_partsAmong_23 (by decide) (fun e3 => ?_) (fun e3 => ?_)
      · refine lv_iconst (v := (nI 1)) hx hb d_B_partsAmong_30 (by decide) ?_
        refine nu_iadd (r := 2) hx hb d_B_partsAmong_31 (by omega) ?_
        exact W.iret (v := (nI 2)) hx hb hr (fun tS ht hW => ⟨⟨(nI 2), w, rfl, ⟨rfl, by unfold pCount; simp [*]⟩, mB_of ht hP⟩, hS.F ht⟩) hS.2.2 d_B_partsAmong_32
      · refine lv_iconst (v := (nI 0)) hx hb d_B_partsAmong_26 (by decide) ?_
        refine lv_goto (tgt := 31) hx hb d_B_partsAmong_27 (by decide) ?_
        refine nu_iadd (r := 1) hx hb d_B_partsAmong_31 (by omega) ?_
        exact W.iret (v := (nI 1)) hx hb hr (fun tS ht hW => ⟨⟨(nI 1), w, rfl, ⟨rfl, by unfold pCount; simp [*]⟩, mB_of ht hP⟩, hS.F ht⟩) hS.2.2 d_B_partsAmong_32
    · refine lv_iconst (v := (nI 0)) hx hb d_B_partsAmong_15 (by decide) ?_
      refine lv_goto (tgt := 20) hx hb d_B_partsAmong_16 (by decide) ?_
      refine nu_iadd (r := 0) hx hb d_B_partsAmong_20 (by omega) ?_
      refine lv_iload_n hx hb d_B_partsAmong_21 rfl (lv_at hl 2 rfl) ?_
      refine lv_iconst (v := (-1)) hx hb d_B_partsAmong_22 (by decide) ?_
      refine lv_icmp_ne (tgt := 30) hx hb d_B_partsAmong_23 (by decide) (fun e3 => ?_) (fun e3 => ?_)
      · refine lv_iconst (v := (nI 1)) hx hb d_B_partsAmong_30 (by decide) ?_
        refine nu_iadd (r := 1) hx hb d_B_partsAmong_31 (by omega) ?_
        exact W.iret (v := (nI 1)) hx hb hr (fun tS ht hW => ⟨⟨(nI 1), w, rfl, ⟨rfl, by unfold pCount; simp [*]⟩, mB_of ht hP⟩, hS.F ht⟩) hS.2.2 d_B_partsAmong_32
      · refine lv_iconst (v := (nI 0)) hx hb d_B_partsAmong_26 (by decide) ?_
        refine lv_goto (tgt := 31) hx hb d_B_partsAmong_27 (by decide) ?_
        refine nu_iadd (r := 0) hx hb d_B_partsAmong_31 (by omega) ?_
        exact W.iret (v := (nI 0)) hx hb hr (fun tS ht hW => ⟨⟨(nI 0), w, rfl, ⟨rfl, by unfold pCount; simp [*]⟩, mB_of ht hP⟩, hS.F ht⟩) hS.2.2 d_B_partsAmong_32
set_option maxHeartbeats 4000000 in
set_option maxRecDepth 100000 in
theorem c_P_isInput {l : Launch} {s0 : State} {dC : Nat → ClassId} {dI : Nat → Nat → Nat} {dA : Nat → ClassId} (B0 : BB s0 dC dI dA) (w : fw_W) (h ki va ru pa pc : Nat) (ra : Nat → Nat) (kd : Nat → Nat) (vl : Nat → Int64) (rl : Nat → Nat) (pf : Nat → Nat → Int32) (cn : Nat → Nat) (k : Nat) (v : Int64) (hQ : aP dA w h ki va ru pa pc ra kd vl rl pf cn) (hk : k < 12) (hkd : kd k < 3) : Met l y_P_isInput [.code y_P_isInput b_P_isInput 4 (some .boolean)] ({ frames := 0, cells := 0, slots := 0, locals := 0 }) (mP s0 dC dI w [.ref h, .int (nI k), .long v]) (mQi s0 dC dI (fun r w' => w' = w ∧ ∃ b : Bool, r = nI b.toNat ∧ (b = true ↔ kd k = 1 ∧ vl k = v))) 0 0 (AA s0) := by
  obtain ⟨f1, f2, f3, f4, ⟨rows, f5, hrows⟩, hra, f6, d1, d2, d3, dinj⟩ := hQ
  refine mt_ofW B0 (by decide) (Nat.le_of_ble_eq_true rfl) (fun p e s m args below meth c ls hargs X hin hl hP => ?_)
  have X9 := X
  obtain ⟨hx, hb, hr, hml, hown, hg, hK, hn, hE, hlocks, hA⟩ := X9
  have hS : va_S (AA s0) s.heap s.heap [] := va_S.rf
  have hl : lv_has ls 4 [(0, .ref h), (1, .int (nI k)), (2, .long v)] := hl
  refine lv_aload_n hx hb d_P_isInput_0 rfl (lv_at hl 0 rfl) ?_
  refine va_get (D := (dC, dI)) (ci := 1) (v := .ref ki) (C := R_P) (T := F_P) (N := 5) hx hb hg in_P hown hK (hP.one f1) 0 rfl rfl 0 (by decide) (hg _ k_84) (fun _ h9 => h9) rfl d_P_isInput_1 ?_
  refine lv_iload_n hx hb d_P_isInput_4 rfl (lv_at hl 1 rfl) ?_
  refine fw_iald (tys := tyl dA) hx hb hK hP f2 0 rfl (j := k) (by omega) (by decide) d_P_isInput_5 ?_
  refine lv_iconst (v := (nI 1)) hx hb d_P_isInput_6 (by decide) ?_
  refine nu_ne (tgt := 25) hx hb (by omega) (by omega) d_P_isInput_7 (by decide) (fun c1 => ?_) (fun c1 => ?_)
  · refine lv_iconst (v := (nI 0)) hx hb d_P_isInput_25 (by decide) ?_
    exact W.zret (v := (nI 0)) hx hb hr (by decide) (fun tS ht hW => ⟨⟨(nI 0), w, rfl, ⟨rfl, false, rfl, ⟨fun h9 => (by cases h9), fun h9 => absurd h9.1 c1⟩⟩, mB_of ht hP⟩, hS.F ht⟩) hS.2.2 d_P_isInput_26
  · refine lv_aload_n hx hb d_P_isInput_10 rfl (lv_at hl 0 rfl) ?_
    refine va_get (D := (dC, dI)) (ci := 1) (v := .ref va) (C := R_P) (T := F_P) (N := 5) hx hb hg in_P hown hK (hP.one f1) 0 rfl rfl 1 (by decide) (hg _ k_87) (fun _ h9 => h9) rfl d_P_isInput_11 ?_
    refine lv_iload_n hx hb d_P_isInput_14 rfl (lv_at hl 1 rfl) ?_
    refine fw_lald (tys := tyl dA) hx hb hK hP f3 1 rfl (j := k) (by omega) (by decide) d_P_isInput_15 ?_
    refine lv_lload_n hx hb d_P_isInput_16 rfl (lv_at hl 2 rfl) ?_
    refine W.lcmp hx hb d_P_isInput_17 ?_
    refine lv_if_ne (tgt := 25) hx hb d_P_isInput_18 (by decide) (fun c2 => ?_) (fun c2 => ?_)
    · refine lv_iconst (v := (nI 0)) hx hb d_P_isInput_25 (by decide) ?_
      exact W.zret (v := (nI 0)) hx hb hr (by decide) (fun tS ht hW => ⟨⟨(nI 0), w, rfl, ⟨rfl, false, rfl, ⟨fun h9 => (by cases h9), fun h9 => absurd ((lg_cmp_eq _ _).mpr h9.2) c2⟩⟩, mB_of ht hP⟩, hS.F ht⟩) hS.2.2 d_P_isInput_26
    · refine lv_iconst (v := (nI 1)) hx hb d_P_isInput_21 (by decide) ?_
      refine lv_goto (tgt := 26) hx hb d_P_isInput_22 (by decide) ?_
      exact W.zret (v := (nI 1)) hx hb hr (by decide) (fun tS ht hW => ⟨⟨(nI 1), w, rfl, ⟨rfl, true, rfl, ⟨fun _ => ⟨c1, (lg_cmp_eq _ _).mp c2⟩, fun _ => rfl⟩⟩, mB_of ht hP⟩, hS.F ht⟩) hS.2.2 d_P_isInput_26
set_option maxHeartbeats 4000000 in
set_option maxRecDepth 100000 in
theorem c_P_setInput {l : Launch} {s0 : State} {dC : Nat → ClassId} {dI : Nat → Nat → Nat} {dA : Nat → ClassId} (B0 : BB s0 dC dI dA) (w : fw_W) (h ki va ru pa pc : Nat) (ra : Nat → Nat) (kd : Nat → Nat) (vl : Nat → Int64) (rl : Nat → Nat) (pf : Nat → Nat → Int32) (cn : Nat → Nat) (k : Nat) (v : Int64) (hQ : aP dA w h ki va ru pa pc ra kd vl rl pf cn) (hk : k < 12) : Met l y_P_setInput [.code y_P_setInput b_P_setInput 4 none] ({ frames := 0, cells := 0, slots := 0, locals := 0 }) (mP s0 dC dI w [.ref h, .int (nI k), .long v]) (mQv s0 dC dI (fun w' => aP dA w' h ki va ru pa pc ra (va_up kd k 1) (vp_updL vl k v) rl pf cn ∧ ∀ z, z ≠ ki → z ≠ va → w' z = w z)) 0 0 (AA s0) := by
  obtain ⟨f1, f2, f3, f4, ⟨rows, f5, hrows⟩, hra, f6, d1, d2, d3, dinj⟩ := hQ
  refine mt_ofW B0 (by decide) (Nat.le_of_ble_eq_true rfl) (fun p e s m args below meth c ls hargs X hin hl hP => ?_)
  have X9 := X
  obtain ⟨hx, hb, hr, hml, hown, hg, hK, hn, hE, hlocks, hA⟩ := X9
  have hS : va_S (AA s0) s.heap s.heap [] := va_S.rf
  have hl : lv_has ls 4 [(0, .ref h), (1, .int (nI k)), (2, .long v)] := hl
  have f2w := f2
  have f3w := f3
  refine lv_aload_n hx hb d_P_setInput_0 rfl (lv_at hl 0 rfl) ?_
  refine va_get (D := (dC, dI)) (ci := 1) (v := .ref ki) (C := R_P) (T := F_P) (N := 5) hx hb hg in_P hown hK (hP.one f1) 0 rfl rfl 0 (by decide) (hg _ k_84) (fun _ h9 => h9) rfl d_P_setInput_1 ?_
  refine lv_iload_n hx hb d_P_setInput_4 rfl (lv_at hl 1 rfl) ?_
  refine lv_iconst (v := (nI 1)) hx hb d_P_setInput_5 (by decide) ?_
  refine fw_iast (tys := tyl dA) hx hb hK hP hS f2 0 rfl (j := k) (x := (nI 1)) (by omega) (by decide) d_P_setInput_6 (fun w1 H locs ew2 hP hS => ?_)
  rw [nf_up] at ew2
  have f1 : w1 h = some (.inr (1, [.ref ki, .ref va, .ref ru, .ref pa, .ref pc])) := by rw [ew2, va_up_ne _ _ (fw_ne f1 f2 (by simp))]; exact f1
  have f3 : w1 va = some (.inl (dA 1, 12, .inr (.inl vl))) := by rw [ew2, va_up_ne _ _ (fw_ne f3 f2 (by simp))]; exact f3
  have f4 : w1 ru = some (.inl (dA 0, 12, .inl (nf rl))) := by rw [ew2, va_up_ne _ _ (Ne.symm d1)]; exact f4
  have f5 : w1 pa = some (.inl (dA 4, 12, .inr (.inr (.inr (.inr rows))))) := by rw [ew2, va_up_ne _ _ (fw_ne f5 f2 (by simp))]; exact f5
  have f6 : w1 pc = some (.inl (dA 0, 12, .inl (nf cn))) := by rw [ew2, va_up_ne _ _ (Ne.symm d2)]; exact f6
  have f2 : w1 ki = some (.inl (dA 0, 12, .inl (nf (va_up kd k 1)))) := by rw [ew2]; exact va_up_self _ _ _
  refine lv_aload_n hx hb d_P_setInput_7 rfl (lv_at hl 0 rfl) ?_
  refine va_get (D := (dC, dI)) (ci := 1) (v := .ref va) (C := R_P) (T := F_P) (N := 5) hx hb hg in_P hown hK (hP.one f1) 0 rfl rfl 1 (by decide) (hg _ k_87) (fun _ h9 => h9) rfl d_P_setInput_8 ?_
  refine lv_iload_n hx hb d_P_setInput_11 rfl (lv_at hl 1 rfl) ?_
  refine lv_lload_n hx hb d_P_setInput_12 rfl (lv_at hl 2 rfl) ?_
  refine fw_last (tys := tyl dA) hx hb hK hP hS f3 1 rfl (j := k) (by omega) (by decide) d_P_setInput_13 (fun w3 H locs ew4 hP hS => ?_)
  have f1 : w3 h = some (.inr (1, [.ref ki, .ref va, .ref ru, .ref pa, .ref pc])) := by rw [ew4, va_up_ne _ _ (fw_ne f1 f3 (by simp))]; exact f1
  have f2 : w3 ki = some (.inl (dA 0, 12, .inl (nf (va_up kd k 1)))) := by rw [ew4, va_up_ne _ _ (fw_ne f2 f3 (by simp))]; exact f2
  have f4 : w3 ru = some (.inl (dA 0, 12, .inl (nf rl))) := by rw [ew4, va_up_ne _ _ (fw_ne f4 f3 (by simp))]; exact f4
  have f5 : w3 pa = some (.inl (dA 4, 12, .inr (.inr (.inr (.inr rows))))) := by rw [ew4, va_up_ne _ _ (fw_ne f5 f3 (by simp))]; exact f5
  have f6 : w3 pc = some (.inl (dA 0, 12, .inl (nf cn))) := by rw [ew4, va_up_ne _ _ (fw_ne f6 f3 (by simp))]; exact f6
  have f3 : w3 va = some (.inl (dA 1, 12, .inr (.inl (vp_updL vl k v)))) := by rw [ew4]; exact va_up_self _ _ _
  have hfr : ∀ z, z ≠ ki → z ≠ va → w3 z = w z := (fun z z1 z2 => by rw [ew4, va_up_ne _ _ z2, ew2, va_up_ne _ _ z1])
  exact W.vret hx hb hr (fun tS ht hW => ⟨⟨w3, rfl, ⟨⟨f1, f2, f3, f4, ⟨rows, f5, hrows⟩, fun j hj => (hfr _ (fw_ne (hra j hj) f2w (by simp)) (fw_ne (hra j hj) f3w (by simp))).trans (hra j hj), f6, d1, d2, d3, dinj⟩, hfr⟩, mB_of ht hP⟩, hS.F ht⟩) hS.2.2 d_P_setInput_14
set_option maxHeartbeats 4000000 in
set_option maxRecDepth 100000 in
theorem c_P_isTask {l : Launch} {s0 : State} {dC : Nat → ClassId} {dI : Nat → Nat → Nat} {dA : Nat → ClassId} (B0 : BB s0 dC dI dA) (w : fw_W) (h ki va ru pa pc : Nat) (ra : Nat → Nat) (kd : Nat → Nat) (vl : Nat → Int64) (rl : Nat → Nat) (pf : Nat → Nat → Int32) (cn : Nat → Nat) (k r9 : Nat) (a b c9 : Int32) (hQ : aP dA w h ki va ru pa pc ra kd vl rl pf cn) (hk : k < 12) (hr9 : r9 < 10) (hkd : kd k < 3) (hrl : rl k < 10) : Met l y_P_isTask [.code y_P_isTask b_P_isTask 7 (some .boolean)] ({ frames := 0, cells := 0, slots := 0, locals := 0 }) (mP s0 dC dI w [.ref h, .int (nI k), .int (nI r9), .int a, .int b, .int c9]) (mQi s0 dC dI (fun r w' => w' = w ∧ ∃ b9 : Bool, r = nI b9.toNat ∧ (b9 = true ↔ kd k = 2 ∧ rl k = r9 ∧ pf k 0 = a ∧ pf k 1 = b ∧ pf k 2 = c9))) 0 0 (AA s0) := by
  obtain ⟨f1, f2, f3, f4, ⟨rows, f5, hrows⟩, hra, f6, d1, d2, d3, dinj⟩ := hQ
  refine mt_ofW B0 (by decide) (Nat.le_of_ble_eq_true rfl) (fun p e s m args below meth c ls hargs X hin hl hP => ?_)
  have X9 := X
  obtain ⟨hx, hb, hr, hml, hown, hg, hK, hn, hE, hlocks, hA⟩ := X9
  have hS : va_S (AA s0) s.heap s.heap [] := va_S.rf
  have hl : lv_has ls 7 [(0, .ref h), (1, .int (nI k)), (2, .int (nI r9)), (3, .int a), (4, .int b), (5, .int c9)] := hl
  have f7 := hra k hk
  refine lv_aload_n hx hb d_P_isTask_0 rfl (lv_at hl 0 rfl) ?_
  refine va_get (D := (dC, dI)) (ci := 1) (v := .ref pa) (C := R_P) (T := F_P) (N := 5) hx hb hg in_P hown hK (hP.one f1) 0 rfl rfl 3 (by decide) (hg _ k_91) (fun _ h9 => h9) rfl d_P_isTask_1 ?_
  refine lv_iload_n hx hb d_P_isTask_4 rfl (lv_at hl 1 rfl) ?_
  refine fw_aldg (tys := tyl dA) hx hb hK hP f5 4 rfl (j := k) (by omega) (by decide) d_P_isTask_5 ?_
  rw [hrows k hk]
  refine lv_astore (lv' := [(6, .ref (ra k)), (0, .ref h), (1, .int (nI k)), (2, .int (nI r9)), (3, .int a), (4, .int b), (5, .int c9)]) hx hb d_P_isTask_6 hl (by decide) rfl (fun ls hl => ?_)
  refine lv_aload_n hx hb d_P_isTask_8 rfl (lv_at hl 1 rfl) ?_
  refine va_get (D := (dC, dI)) (ci := 1) (v := .ref ki) (C := R_P) (T := F_P) (N := 5) hx hb hg in_P hown hK (hP.one f1) 0 rfl rfl 0 (by decide) (hg _ k_84) (fun _ h9 => h9) rfl d_P_isTask_9 ?_
  refine lv_iload_n hx hb d_P_isTask_12 rfl (lv_at hl 2 rfl) ?_
  refine fw_iald (tys := tyl dA) hx hb hK hP f2 0 rfl (j := k) (by omega) (by decide) d_P_isTask_13 ?_
  refine lv_iconst (v := (nI 2)) hx hb d_P_isTask_14 (by decide) ?_
  refine nu_ne (tgt := 58) hx hb (by omega) (by omega) d_P_isTask_15 (by decide) (fun c1 => ?_) (fun c1 => ?_)
  · refine lv_iconst (v := (nI 0)) hx hb d_P_isTask_58 (by decide) ?_
    exact W.zret (v := (nI 0)) hx hb hr (by decide) (fun tS ht hW => ⟨⟨(nI 0), w, rfl, ⟨rfl, false, rfl, ⟨fun h9 => (by cases h9), fun h9 => absurd h9.1 c1⟩⟩, mB_of ht hP⟩, hS.F ht⟩) hS.2.2 d_P_isTask_59
  · refine lv_aload_n hx hb d_P_isTask_18 rfl (lv_at hl 1 rfl) ?_
    refine va_get (D := (dC, dI)) (ci := 1) (v := .ref ru) (C := R_P) (T := F_P) (N := 5) hx hb hg in_P hown hK (hP.one f1) 0 rfl rfl 2 (by decide) (hg _ k_89) (fun _ h9 => h9) rfl d_P_isTask_19 ?_
    refine lv_iload_n hx hb d_P_isTask_22 rfl (lv_at hl 2 rfl) ?_
    refine fw_iald (tys := tyl dA) hx hb hK hP f4 0 rfl (j := k) (by omega) (by decide) d_P_isTask_23 ?_
    refine lv_iload_n hx hb d_P_isTask_24 rfl (lv_at hl 3 rfl) ?_
    refine nu_ne (tgt := 58) hx hb (by omega) (by omega) d_P_isTask_25 (by decide) (fun c2 => ?_) (fun c2 => ?_)
    · refine lv_iconst (v := (nI 0)) hx hb d_P_isTask_58 (by decide) ?_
      exact W.zret (v := (nI 0)) hx hb hr (by decide) (fun tS ht hW => ⟨⟨(nI 0), w, rfl, ⟨rfl, false, rfl, ⟨fun h9 => (by cases h9), fun h9 => absurd h9.2.1 c2⟩⟩, mB_of ht hP⟩, hS.F ht⟩) hS.2.2 d_P_isTask_59
    · refine lv_aload hx hb d_P_isTask_28 (lv_at hl 0 rfl) ?_
      refine lv_iconst (v := (nI 0)) hx hb d_P_isTask_30 (by decide) ?_
      refine fw_iald (tys := tyl dA) hx hb hK hP f7 0 rfl (j := 0) (by omega) (by decide) d_P_isTask_31 ?_
      refine lv_iload_n hx hb d_P_isTask_32 rfl (lv_at hl 4 rfl) ?_
      refine lv_icmp_ne (tgt := 58) hx hb d_P_isTask_33 (by decide) (fun c3 => ?_) (fun c3 => ?_)
      · refine lv_iconst (v := (nI 0)) hx hb d_P_isTask_58 (by decide) ?_
        exact W.zret (v := (nI 0)) hx hb hr (by decide) (fun tS ht hW => ⟨⟨(nI 0), w, rfl, ⟨rfl, false, rfl, ⟨fun h9 => (by cases h9), fun h9 => absurd h9.2.2.1 c3⟩⟩, mB_of ht hP⟩, hS.F ht⟩) hS.2.2 d_P_isTask_59
      · refine lv_aload hx hb d_P_isTask_36 (lv_at hl 0 rfl) ?_
        refine lv_iconst (v := (nI 1)) hx hb d_P_isTask_38 (by decide) ?_
        refine fw_iald (tys := tyl dA) hx hb hK hP f7 0 rfl (j := 1) (by omega) (by decide) d_P_isTask_39 ?_
        refine lv_iload hx hb d_P_isTask_40 (lv_at hl 5 rfl) ?_
        refine lv_icmp_ne (tgt := 58) hx hb d_P_isTask_42 (by decide) (fun c4 => ?_) (fun c4 => ?_)
        · refine lv_iconst (v := (nI 0)) hx hb d_P_isTask_58 (by decide) ?_
          exact W.zret (v := (nI 0)) hx hb hr (by decide) (fun tS ht hW => ⟨⟨(nI 0), w, rfl, ⟨rfl, false, rfl, ⟨fun h9 => (by cases h9), fun h9 => absurd h9.2.2.2.1 c4⟩⟩, mB_of ht hP⟩, hS.F ht⟩) hS.2.2 d_P_isTask_59
        · refine lv_aload hx hb d_P_isTask_45 (lv_at hl 0 rfl) ?_
          refine lv_iconst (v := (nI 2)) hx hb d_P_isTask_47 (by decide) ?_
          refine fw_iald (tys := tyl dA) hx hb hK hP f7 0 rfl (j := 2) (by omega) (by decide) d_P_isTask_48 ?_
          refine lv_iload hx hb d_P_isTask_49 (lv_at hl 6 rfl) ?_
          refine lv_icmp_ne (tgt := 58) hx hb d_P_isTask_51 (by decide) (fun c5 => ?_) (fun c5 => ?_)
          · refine lv_iconst (v := (nI 0)) hx hb d_P_isTask_58 (by decide) ?_
            exact W.zret (v := (nI 0)) hx hb hr (by decide) (fun tS ht hW => ⟨⟨(nI 0), w, rfl, ⟨rfl, false, rfl, ⟨fun h9 => (by cases h9), fun h9 => absurd h9.2.2.2.2 c5⟩⟩, mB_of ht hP⟩, hS.F ht⟩) hS.2.2 d_P_isTask_59
          · refine lv_iconst (v := (nI 1)) hx hb d_P_isTask_54 (by decide) ?_
            refine lv_goto (tgt := 59) hx hb d_P_isTask_55 (by decide) ?_
            exact W.zret (v := (nI 1)) hx hb hr (by decide) (fun tS ht hW => ⟨⟨(nI 1), w, rfl, ⟨rfl, true, rfl, ⟨fun _ => ⟨c1, c2, c3, c4, c5⟩, fun _ => rfl⟩⟩, mB_of ht hP⟩, hS.F ht⟩) hS.2.2 d_P_isTask_59
set_option maxHeartbeats 4000000 in
set_option maxRecDepth 100000 in
theorem c_P_setTask {l : Launch} {s0 : State} {dC : Nat → ClassId} {dI : Nat → Nat → Nat} {dA : Nat → ClassId} (B0 : BB s0 dC dI dA) (w : fw_W) (h ki va ru pa pc : Nat) (ra : Nat → Nat) (kd : Nat → Nat) (vl : Nat → Int64) (rl : Nat → Nat) (pf : Nat → Nat → Int32) (cn : Nat → Nat) (k r9 : Nat) (a b c9 : Int32) (hQ : aP dA w h ki va ru pa pc ra kd vl rl pf cn) (hk : k < 12) : Met l y_P_setTask [.code y_P_setTask b_P_setTask 6 none] ({ frames := 1, cells := 0, slots := 0, locals := 30 }) (mP s0 dC dI w [.ref h, .int (nI k), .int (nI r9), .int a, .int b, .int c9]) (mQv s0 dC dI (fun w' => aP dA w' h ki va ru pa pc ra (va_up kd k 2) vl (va_up rl k r9) (va_up pf k (upd (upd (upd (pf k) 0 a) 1 b) 2 c9)) (va_up cn k (pCount a b c9)) ∧ ∀ z, z ≠ ki → z ≠ ru → z ≠ ra k → z ≠ pc → w' z = w z)) 0 0 (AA s0) := by
  obtain ⟨f1, f2, f3, f4, ⟨rows, f5, hrows⟩, hra, f6, d1, d2, d3, dinj⟩ := hQ
  refine mt_ofW B0 (by decide) (Nat.le_of_ble_eq_true rfl) (fun p e s m args below meth c ls hargs X hin hl hP => ?_)
  have X9 := X
  obtain ⟨hx, hb, hr, hml, hown, hg, hK, hn, hE, hlocks, hA⟩ := X9
  have hS : va_S (AA s0) s.heap s.heap [] := va_S.rf
  have hl : lv_has ls 6 [(0, .ref h), (1, .int (nI k)), (2, .int (nI r9)), (3, .int a), (4, .int b), (5, .int c9)] := hl
  have f2w := f2
  have f4w := f4
  have f6w := f6
  have f7 := hra k hk
  have f7w := f7
  refine lv_aload_n hx hb d_P_setTask_0 rfl (lv_at hl 0 rfl) ?_
  refine va_get (D := (dC, dI)) (ci := 1) (v := .ref ki) (C := R_P) (T := F_P) (N := 5) hx hb hg in_P hown hK (hP.one f1) 0 rfl rfl 0 (by decide) (hg _ k_84) (fun _ h9 => h9) rfl d_P_setTask_1 ?_
  refine lv_iload_n hx hb d_P_setTask_4 rfl (lv_at hl 1 rfl) ?_
  refine lv_iconst (v := (nI 2)) hx hb d_P_setTask_5 (by decide) ?_
  refine fw_iast (tys := tyl dA) hx hb hK hP hS f2 0 rfl (j := k) (x := (nI 2)) (by omega) (by decide) d_P_setTask_6 (fun w5 H locs ew6 hP hS => ?_)
  rw [nf_up] at ew6
  have f1 : w5 h = some (.inr (1, [.ref ki, .ref va, .ref ru, .ref pa, .ref pc])) := by rw [ew6, va_up_ne _ _ (fw_ne f1 f2 (by simp))]; exact f1
  have f3 : w5 va = some (.inl (dA 1, 12, .inr (.inl vl))) := by rw [ew6, va_up_ne _ _ (fw_ne f3 f2 (by simp))]; exact f3
  have f4 : w5 ru = some (.inl (dA 0, 12, .inl (nf rl))) := by rw [ew6, va_up_ne _ _ (Ne.symm d1)]; exact f4
  have f5 : w5 pa = some (.inl (dA 4, 12, .inr (.inr (.inr (.inr rows))))) := by rw [ew6, va_up_ne _ _ (fw_ne f5 f2 (by simp))]; exact f5
  have f6 : w5 pc = some (.inl (dA 0, 12, .inl (nf cn))) := by rw [ew6, va_up_ne _ _ (Ne.symm d2)]; exact f6
  have f7 : w5 (ra k) = some (.inl (dA 0, 3, .inl (pf k))) := by rw [ew6, va_up_ne _ _ (fw_ne f7 f2 (by simp))]; exact f7
  have f2 : w5 ki = some (.inl (dA 0, 12, .inl (nf (va_up kd k 2)))) := by rw [ew6]; exact va_up_self _ _ _
  refine lv_aload_n hx hb d_P_setTask_7 rfl (lv_at hl 0 rfl) ?_
  refine va_get (D := (dC, dI)) (ci := 1) (v := .ref ru) (C := R_P) (T := F_P) (N := 5) hx hb hg in_P hown hK (hP.one f1) 0 rfl rfl 2 (by decide) (hg _ k_89) (fun _ h9 => h9) rfl d_P_setTask_8 ?_
  refine lv_iload_n hx hb d_P_setTask_11 rfl (lv_at hl 1 rfl) ?_
  refine lv_iload_n hx hb d_P_setTask_12 rfl (lv_at hl 2 rfl) ?_
  refine fw_iast (tys := tyl dA) hx hb hK hP hS f4 0 rfl (j := k) (x := (nI r9)) (by omega) (by decide) d_P_setTask_13 (fun w7 H locs ew8 hP hS => ?_)
  rw [nf_up] at ew8
  have f1 : w7 h = some (.inr (1, [.ref ki, .ref va, .ref ru, .ref pa, .ref pc])) := by rw [ew8, va_up_ne _ _ (fw_ne f1 f4 (by simp))]; exact f1
  have f2 : w7 ki = some (.inl (dA 0, 12, .inl (nf (va_up kd k 2)))) := by rw [ew8, va_up_ne _ _ d1]; exact f2
  have f3 : w7 va = some (.inl (dA 1, 12, .inr (.inl vl))) := by rw [ew8, va_up_ne _ _ (fw_ne f3 f4 (by simp))]; exact f3
  have f5 : w7 pa = some (.inl (dA 4, 12, .inr (.inr (.inr (.inr rows))))) := by rw [ew8, va_up_ne _ _ (fw_ne f5 f4 (by simp))]; exact f5
  have f6 : w7 pc = some (.inl (dA 0, 12, .inl (nf cn))) := by rw [ew8, va_up_ne _ _ (Ne.symm d3)]; exact f6
  have f7 : w7 (ra k) = some (.inl (dA 0, 3, .inl (pf k))) := by rw [ew8, va_up_ne _ _ (fw_ne f7 f4 (by simp))]; exact f7
  have f4 : w7 ru = some (.inl (dA 0, 12, .inl (nf (va_up rl k r9)))) := by rw [ew8]; exact va_up_self _ _ _
  refine lv_aload_n hx hb d_P_setTask_14 rfl (lv_at hl 0 rfl) ?_
  refine va_get (D := (dC, dI)) (ci := 1) (v := .ref pa) (C := R_P) (T := F_P) (N := 5) hx hb hg in_P hown hK (hP.one f1) 0 rfl rfl 3 (by decide) (hg _ k_91) (fun _ h9 => h9) rfl d_P_setTask_15 ?_
  refine lv_iload_n hx hb d_P_setTask_18 rfl (lv_at hl 1 rfl) ?_
  refine fw_aldg (tys := tyl dA) hx hb hK hP f5 4 rfl (j := k) (by omega) (by decide) d_P_setTask_19 ?_
  rw [hrows k hk]
  refine lv_iconst (v := (nI 0)) hx hb d_P_setTask_20 (by decide) ?_
  refine lv_iload_n hx hb d_P_setTask_21 rfl (lv_at hl 3 rfl) ?_
  refine fw_iast (tys := tyl dA) hx hb hK hP hS f7 0 rfl (j := 0) (x := a) (by omega) (by decide) d_P_setTask_22 (fun w9 H locs ew10 hP hS => ?_)
  have f1 : w9 h = some (.inr (1, [.ref ki, .ref va, .ref ru, .ref pa, .ref pc])) := by rw [ew10, va_up_ne _ _ (fw_ne f1 f7 (by simp))]; exact f1
  have f2 : w9 ki = some (.inl (dA 0, 12, .inl (nf (va_up kd k 2)))) := by rw [ew10, va_up_ne _ _ (fw_ne f2 f7 (by simp))]; exact f2
  have f3 : w9 va = some (.inl (dA 1, 12, .inr (.inl vl))) := by rw [ew10, va_up_ne _ _ (fw_ne f3 f7 (by simp))]; exact f3
  have f4 : w9 ru = some (.inl (dA 0, 12, .inl (nf (va_up rl k r9)))) := by rw [ew10, va_up_ne _ _ (fw_ne f4 f7 (by simp))]; exact f4
  have f5 : w9 pa = some (.inl (dA 4, 12, .inr (.inr (.inr (.inr rows))))) := by rw [ew10, va_up_ne _ _ (fw_ne f5 f7 (by simp))]; exact f5
  have f6 : w9 pc = some (.inl (dA 0, 12, .inl (nf cn))) := by rw [ew10, va_up_ne _ _ (fw_ne f6 f7 (by simp))]; exact f6
  have f7 : w9 (ra k) = some (.inl (dA 0, 3, .inl (upd (pf k) 0 a))) := by rw [ew10]; exact va_up_self _ _ _
  refine lv_aload_n hx hb d_P_setTask_23 rfl (lv_at hl 0 rfl) ?_
  refine va_get (D := (dC, dI)) (ci := 1) (v := .ref pa) (C := R_P) (T := F_P) (N := 5) hx hb hg in_P hown hK (hP.one f1) 0 rfl rfl 3 (by decide) (hg _ k_91) (fun _ h9 => h9) rfl d_P_setTask_24 ?_
  refine lv_iload_n hx hb d_P_setTask_27 rfl (lv_at hl 1 rfl) ?_
  refine fw_aldg (tys := tyl dA) hx hb hK hP f5 4 rfl (j := k) (by omega) (by decide) d_P_setTask_28 ?_
  rw [hrows k hk]
  refine lv_iconst (v := (nI 1)) hx hb d_P_setTask_29 (by decide) ?_
  refine lv_iload hx hb d_P_setTask_30 (lv_at hl 4 rfl) ?_
  refine fw_iast (tys := tyl dA) hx hb hK hP hS f7 0 rfl (j := 1) (x := b) (by omega) (by decide) d_P_setTask_32 (fun w11 H locs ew12 hP hS => ?_)
  have f1 : w11 h = some (.inr (1, [.ref ki, .ref va, .ref ru, .ref pa, .ref pc])) := by rw [ew12, va_up_ne _ _ (fw_ne f1 f7 (by simp))]; exact f1
  have f2 : w11 ki = some (.inl (dA 0, 12, .inl (nf (va_up kd k 2)))) := by rw [ew12, va_up_ne _ _ (fw_ne f2 f7 (by simp))]; exact f2
  have f3 : w11 va = some (.inl (dA 1, 12, .inr (.inl vl))) := by rw [ew12, va_up_ne _ _ (fw_ne f3 f7 (by simp))]; exact f3
  have f4 : w11 ru = some (.inl (dA 0, 12, .inl (nf (va_up rl k r9)))) := by rw [ew12, va_up_ne _ _ (fw_ne f4 f7 (by simp))]; exact f4
  have f5 : w11 pa = some (.inl (dA 4, 12, .inr (.inr (.inr (.inr rows))))) := by rw [ew12, va_up_ne _ _ (fw_ne f5 f7 (by simp))]; exact f5
  have f6 : w11 pc = some (.inl (dA 0, 12, .inl (nf cn))) := by rw [ew12, va_up_ne _ _ (fw_ne f6 f7 (by simp))]; exact f6
  have f7 : w11 (ra k) = some (.inl (dA 0, 3, .inl (upd (upd (pf k) 0 a) 1 b))) := by rw [ew12]; exact va_up_self _ _ _
  refine lv_aload_n hx hb d_P_setTask_33 rfl (lv_at hl 0 rfl) ?_
  refine va_get (D := (dC, dI)) (ci := 1) (v := .ref pa) (C := R_P) (T := F_P) (N := 5) hx hb hg in_P hown hK (hP.one f1) 0 rfl rfl 3 (by decide) (hg _ k_91) (fun _ h9 => h9) rfl d_P_setTask_34 ?_
  refine lv_iload_n hx hb d_P_setTask_37 rfl (lv_at hl 1 rfl) ?_
  refine fw_aldg (tys := tyl dA) hx hb hK hP f5 4 rfl (j := k) (by omega) (by decide) d_P_setTask_38 ?_
  rw [hrows k hk]
  refine lv_iconst (v := (nI 2)) hx hb d_P_setTask_39 (by decide) ?_
  refine lv_iload hx hb d_P_setTask_40 (lv_at hl 5 rfl) ?_
  refine fw_iast (tys := tyl dA) hx hb hK hP hS f7 0 rfl (j := 2) (x := c9) (by omega) (by decide) d_P_setTask_42 (fun w13 H locs ew14 hP hS => ?_)
  have f1 : w13 h = some (.inr (1, [.ref ki, .ref va, .ref ru, .ref pa, .ref pc])) := by rw [ew14, va_up_ne _ _ (fw_ne f1 f7 (by simp))]; exact f1
  have f2 : w13 ki = some (.inl (dA 0, 12, .inl (nf (va_up kd k 2)))) := by rw [ew14, va_up_ne _ _ (fw_ne f2 f7 (by simp))]; exact f2
  have f3 : w13 va = some (.inl (dA 1, 12, .inr (.inl vl))) := by rw [ew14, va_up_ne _ _ (fw_ne f3 f7 (by simp))]; exact f3
  have f4 : w13 ru = some (.inl (dA 0, 12, .inl (nf (va_up rl k r9)))) := by rw [ew14, va_up_ne _ _ (fw_ne f4 f7 (by simp))]; exact f4
  have f5 : w13 pa = some (.inl (dA 4, 12, .inr (.inr (.inr (.inr rows))))) := by rw [ew14, va_up_ne _ _ (fw_ne f5 f7 (by simp))]; exact f5
  have f6 : w13 pc = some (.inl (dA 0, 12, .inl (nf cn))) := by rw [ew14, va_up_ne _ _ (fw_ne f6 f7 (by simp))]; exact f6
  have f7 : w13 (ra k) = some (.inl (dA 0, 3, .inl (upd (upd (upd (pf k) 0 a) 1 b) 2 c9))) := by rw [ew14]; exact va_up_self _ _ _
  refine lv_aload_n hx hb d_P_setTask_43 rfl (lv_at hl 0 rfl) ?_
  refine va_get (D := (dC, dI)) (ci := 1) (v := .ref pc) (C := R_P) (T := F_P) (N := 5) hx hb hg in_P hown hK (hP.one f1) 0 rfl rfl 4 (by decide) (hg _ k_93) (fun _ h9 => h9) rfl d_P_setTask_44 ?_
  refine lv_iload_n hx hb d_P_setTask_47 rfl (lv_at hl 1 rfl) ?_
  refine lv_iload_n hx hb d_P_setTask_48 rfl (lv_at hl 3 rfl) ?_
  refine lv_iload hx hb d_P_setTask_49 (lv_at hl 4 rfl) ?_
  refine lv_iload hx hb d_P_setTask_51 (lv_at hl 5 rfl) ?_
  refine va_calli (rn_SN (n := 3) (As := [.int a, .int b, .int c9]) (rest := [.int (nI k), .ref pc]) X hP hS (c_B_partsAmong B0 w13 a b c9) u_316 k_304 k_54 k_305 (by decide +kernel) rfl rfl ⟨Nat.le_of_ble_eq_true rfl, Nat.le_of_ble_eq_true rfl⟩ rfl hl.1 rfl (Nat.le_of_ble_eq_true rfl) d_P_setTask_53 ⟨Nat.le_of_ble_eq_true rfl, Nat.le_of_ble_eq_true rfl⟩) hS (fun q _ h => h) (fun q h => h) (fun r w15 tS H locs ht hvm hw hB hz1 hk1 hS => ?_)
  have hP : fw_P (dC, dI) cls_ (AA s0) w15 H := by rw [← ht]; exact hB
  obtain ⟨ew9, er9⟩ := hw
  rw [ew9] at hP
  rw [er9]
  refine fw_iast (tys := tyl dA) hx hb hK hP hS f6 0 rfl (j := k) (x := (nI (pCount a b c9))) (by omega) (by decide) d_P_setTask_56 (fun w16 H locs ew17 hP hS => ?_)
  rw [nf_up] at ew17
  have f1 : w16 h = some (.inr (1, [.ref ki, .ref va, .ref ru, .ref pa, .ref pc])) := by rw [ew17, va_up_ne _ _ (fw_ne f1 f6 (by simp))]; exact f1
  have f2 : w16 ki = some (.inl (dA 0, 12, .inl (nf (va_up kd k 2)))) := by rw [ew17, va_up_ne _ _ d2]; exact f2
  have f3 : w16 va = some (.inl (dA 1, 12, .inr (.inl vl))) := by rw [ew17, va_up_ne _ _ (fw_ne f3 f6 (by simp))]; exact f3
  have f4 : w16 ru = some (.inl (dA 0, 12, .inl (nf (va_up rl k r9)))) := by rw [ew17, va_up_ne _ _ d3]; exact f4
  have f5 : w16 pa = some (.inl (dA 4, 12, .inr (.inr (.inr (.inr rows))))) := by rw [ew17, va_up_ne _ _ (fw_ne f5 f6 (by simp))]; exact f5
  have f7 : w16 (ra k) = some (.inl (dA 0, 3, .inl (upd (upd (upd (pf k) 0 a) 1 b) 2 c9))) := by rw [ew17, va_up_ne _ _ (fw_ne f7 f6 (by simp))]; exact f7
  have f6 : w16 pc = some (.inl (dA 0, 12, .inl (nf (va_up cn k (pCount a b c9))))) := by rw [ew17]; exact va_up_self _ _ _
  have hfr : ∀ z, z ≠ ki → z ≠ ru → z ≠ ra k → z ≠ pc → w16 z = w z := (fun z z1 z2 z3 z4 => by rw [ew17, va_up_ne _ _ z4, ew14, va_up_ne _ _ z3, ew12, va_up_ne _ _ z3, ew10, va_up_ne _ _ z3, ew8, va_up_ne _ _ z2, ew6, va_up_ne _ _ z1])
  exact W.vret hx hb hr (fun tS ht hW => ⟨⟨w16, rfl, ⟨⟨f1, f2, f3, f4, ⟨rows, f5, hrows⟩, fun j hj => by by_cases h9 : j = k; subst h9; rw [va_up_self]; exact f7; rw [va_up_ne _ _ h9, hfr _ (fw_ne (hra j hj) f2w (by simp)) (fw_ne (hra j hj) f4w (by simp)) (fun e9 => h9 (dinj j k hj hk e9)) (fw_ne (hra j hj) f6w (by simp))]; exact hra j hj, f6, d1, d2, d3, dinj⟩, hfr⟩, mB_of ht hP⟩, hS.F ht⟩) hS.2.2 d_P_setTask_57
end
section
/-! ===== a session as a function ===== -/
/-- traces, cache, tallies, finished, open, values, something ran, failure, traces made -/
abbrev SS : Type := (Nat → Option tv) × List tv × (Nat → Int32) × (Nat → Bool) × (Nat → Bool) × (Nat → Int64) × Bool × Nat × Nat
abbrev s_tr (σ : SS) : Nat → Option tv := σ.1
abbrev s_cl (σ : SS) : List tv := σ.2.1
abbrev s_ta (σ : SS) : Nat → Int32 := σ.2.2.1
abbrev s_fin (σ : SS) : Nat → Bool := σ.2.2.2.1
abbrev s_opn (σ : SS) : Nat → Bool := σ.2.2.2.2.1
abbrev s_val (σ : SS) : Nat → Int64 := σ.2.2.2.2.2.1
abbrev s_ran (σ : SS) : Bool := σ.2.2.2.2.2.2.1
abbrev s_fl (σ : SS) : Nat := σ.2.2.2.2.2.2.2.1
abbrev s_md (σ : SS) : Nat := σ.2.2.2.2.2.2.2.2
def sTal (i : Nat) (σ : SS) : SS := (s_tr σ, s_cl σ, upd (s_ta σ) i (s_ta σ i + nI 1), s_fin σ, s_opn σ, s_val σ, s_ran σ, s_fl σ, s_md σ)
def sFail (n : Nat) (σ : SS) : SS := (s_tr σ, s_cl σ, s_ta σ, s_fin σ, s_opn σ, s_val σ, s_ran σ, (if s_fl σ = 0 then n else s_fl σ), s_md σ)
def sFin (k : Nat) (v : Int64) (σ : SS) : SS := (s_tr σ, s_cl σ, s_ta σ, va_up (s_fin σ) k true, va_up (s_opn σ) k false, vp_updL (s_val σ) k v, s_ran σ, s_fl σ, s_md σ)
def sOpen (k : Nat) (σ : SS) : SS := (s_tr σ, s_cl σ, s_ta σ, s_fin σ, va_up (s_opn σ) k true, s_val σ, s_ran σ, s_fl σ, s_md σ)
def sGive (i : Nat) (T : tv) (σ : SS) : SS := (va_up (s_tr σ) i (some T), s_cl σ, s_ta σ, s_fin σ, s_opn σ, s_val σ, s_ran σ, s_fl σ, s_md σ)
def sApp (T : tv) (σ : SS) : SS := (s_tr σ, (s_cl σ).drop ((s_cl σ).length - 15) ++ [T], s_ta σ, s_fin σ, s_opn σ, s_val σ, s_ran σ, s_fl σ, s_md σ)
def sRan (σ : SS) : SS := (s_tr σ, s_cl σ, s_ta σ, s_fin σ, s_opn σ, s_val σ, true, s_fl σ, s_md σ + 1)
/-- the plan: kinds, inputs, rules, parts, how many -/
abbrev PD : Type := (Nat → Nat) × (Nat → Int64) × (Nat → Nat) × (Nat → Nat → Int32) × (Nat → Nat)
abbrev p_kd (P : PD) : Nat → Nat := P.1
abbrev p_vl (P : PD) : Nat → Int64 := P.2.1
abbrev p_rl (P : PD) : Nat → Nat := P.2.2.1
abbrev p_pf (P : PD) : Nat → Nat → Int32 := P.2.2.2.1
abbrev p_cn (P : PD) : Nat → Nat := P.2.2.2.2
def p_pt (P : PD) (k i : Nat) : Nat := (p_pf P k i).toNatClampNeg
def p_need (r : Nat) : Nat := if r = 2 then 3 else if r = 3 ∨ r = 5 ∨ r = 7 ∨ r = 9 then 2 else if r = 4 ∨ r = 8 then 1 else 0
/-- a plan that tasks may be made of -/
def p_ok (P : PD) : Prop := ∀ k, k < 12 → p_kd P k < 3 ∧ (p_kd P k = 2 → p_rl P k < 10 ∧ p_cn P k ≤ 3 ∧ p_need (p_rl P k) ≤ p_cn P k ∧ (∀ i, i < p_cn P k → p_pf P k i = nI (p_pt P k i) ∧ p_pt P k i < 12) ∧ ∀ i, p_cn P k ≤ i → i < 3 → p_pf P k i = -1)
abbrev RX : Type := Nat → SS → Int64 × SS
/-- what a running rule has: what it noted, the session -/
abbrev XS : Type := List (Nat × Int64) × SS
def askV (rec : RX) (k : Nat) (x : XS) : Int64 × XS := if s_fl x.2 = 0 then ((rec k (sTal 0 x.2)).1, noteL x.1 k (rec k (sTal 0 x.2)).1, (rec k (sTal 0 x.2)).2) else (0, x)
def foldV (rec : RX) (op : Int64 → Int64 → Int64) : List Nat → Int64 → XS → Int64 × XS
  | [], a, x => (a, x)
  | p :: r, a, x => foldV rec op r (op a (askV rec p x).1) (askV rec p x).2
def failV (n : Nat) (x : XS) : Int64 × XS := (0, x.1, sFail n x.2)
def fMod (a b : Int64) : Int64 := if (a - a / b * b) ≠ 0 ∧ (a ^^^ b) < 0 then (a - a / b * b) + b else a - a / b * b
def p_parts (P : PD) (k : Nat) : List Nat := (List.range (p_cn P k)).map (p_pt P k)
def ruleV (rec : RX) (P : PD) (k : Nat) (x : XS) : Int64 × XS :=
  match p_rl P k with
  | 0 => foldV rec (fun a b => a + b) (p_parts P k) 0 x
  | 1 => foldV rec (fun a b => a * b) (p_parts P k) 1 x
  | 2 => askV rec (if 0 < (askV rec (p_pt P k 0) x).1 then p_pt P k 1 else p_pt P k 2) (askV rec (p_pt P k 0) x).2
  | 3 => if (askV rec (p_pt P k 1) (askV rec (p_pt P k 0) x).2).1 = 0 then failV 2 (askV rec (p_pt P k 1) (askV rec (p_pt P k 0) x).2).2 else ((askV rec (p_pt P k 0) x).1 / (askV rec (p_pt P k 1) (askV rec (p_pt P k 0) x).2).1, (askV rec (p_pt P k 1) (askV rec (p_pt P k 0) x).2).2)
  | 4 => askV rec (fMod (askV rec (p_pt P k 0) x).1 12).toInt32.toNatClampNeg (askV rec (p_pt P k 0) x).2
  | 5 => if (askV rec (p_pt P k 1) (askV rec (p_pt P k 0) x).2).1 = 0 then failV 2 (askV rec (p_pt P k 1) (askV rec (p_pt P k 0) x).2).2 else ((askV rec (p_pt P k 0) x).1 - (askV rec (p_pt P k 0) x).1 / (askV rec (p_pt P k 1) (askV rec (p_pt P k 0) x).2).1 * (askV rec (p_pt P k 1) (askV rec (p_pt P k 0) x).2).1, (askV rec (p_pt P k 1) (askV rec (p_pt P k 0) x).2).2)
  | 6 => if p_cn P k = 0 then failV 1 x else foldV rec (fun a b => if a < b then b else a) ((p_parts P k).drop 1) (askV rec (p_pt P k 0) x).1 (askV rec (p_pt P k 0) x).2
  | 7 => foldV rec (fun a b => a + b) (List.replicate (fMod (askV rec (p_pt P k 0) x).1 4).toInt32.toNatClampNeg (p_pt P k 1)) (askV rec (p_pt P k 0) x).1 (askV rec (p_pt P k 0) x).2
  | 8 => (7, (askV rec (p_pt P k 0) x).2)
  | 9 => if (askV rec (p_pt P k 1) (askV rec (p_pt P k 0) x).2).1 < (askV rec (p_pt P k 0) x).1 then failV 3 (askV rec (p_pt P k 1) (askV rec (p_pt P k 0) x).2).2 else ((askV rec (p_pt P k 0) x).1, (askV rec (p_pt P k 1) (askV rec (p_pt P k 0) x).2).2)
  | _ => (0, x)
def agrV (rec : RX) : List (Nat × Int64) → SS → Bool × SS
  | [], σ => (decide (s_fl σ = 0), σ)
  | q :: r, σ => if s_fl σ = 0 then (if (rec q.1 σ).1 = q.2 then agrV rec r (rec q.1 σ).2 else (false, (rec q.1 σ).2)) else (false, σ)
def candV (rec : RX) : List tv → SS → Option tv × SS
  | [], σ => (none, σ)
  | T :: r, σ => if s_fl σ = 0 then (if (agrV rec T.2.1 σ).1 = true then (some T, (agrV rec T.2.1 σ).2) else candV rec r (agrV rec T.2.1 σ).2) else (none, σ)
def ownV (rec : RX) (o : Option tv) (σ : SS) : Bool × SS := match o with
  | none => (false, σ)
  | some T => agrV rec T.2.1 σ
def runV (rec : RX) (P : PD) (wk k : Nat) (σ : SS) : Int64 × SS :=
  if s_fl (ruleV rec P k ([], sRan σ)).2.2 = 0 then ((ruleV rec P k ([], sRan σ)).1, sFin k (ruleV rec P k ([], sRan σ)).1 (sApp (k, (ruleV rec P k ([], sRan σ)).2.1, (ruleV rec P k ([], sRan σ)).1) (sGive (wk * 12 + k) (k, (ruleV rec P k ([], sRan σ)).2.1, (ruleV rec P k ([], sRan σ)).1) (sTal 3 (ruleV rec P k ([], sRan σ)).2.2)))) else (0, sTal 4 (ruleV rec P k ([], sRan σ)).2.2)
def entV (k : Nat) (cl : List tv) : List tv := (cl.filter (fun T => T.1 == k)).reverse
def nextV (rec : RX) (P : PD) (wk k : Nat) (σ : SS) : Int64 × SS :=
  match (candV rec (entV k (s_cl σ)) σ).1 with
  | some T => (T.2.2, sFin k T.2.2 (sGive (wk * 12 + T.1) T (sTal 2 (candV rec (entV k (s_cl σ)) σ).2)))
  | none => if s_fl (candV rec (entV k (s_cl σ)) σ).2 = 0 then runV rec P wk k (candV rec (entV k (s_cl σ)) σ).2 else (0, (candV rec (entV k (s_cl σ)) σ).2)
def resV (o : Option tv) : Int64 := match o with
  | none => 0
  | some T => T.2.2
def taskV (rec : RX) (P : PD) (wk k : Nat) (σ : SS) : Int64 × SS :=
  if (ownV rec (s_tr σ (wk * 12 + k)) σ).1 = true then (resV (s_tr σ (wk * 12 + k)), sFin k (resV (s_tr σ (wk * 12 + k))) (sTal 1 (ownV rec (s_tr σ (wk * 12 + k)) σ).2))
  else nextV rec P wk k (ownV rec (s_tr σ (wk * 12 + k)) σ).2
def stepV (rec : RX) (P : PD) (wk k : Nat) (σ : SS) : Int64 × SS :=
  if 12 ≤ k then (0, σ)
  else if s_fin σ k = true then (s_val σ k, σ)
  else if s_opn σ k = true then (0, sFail 3 (sTal 10 σ))
  else if p_kd P k = 0 then (0, sFail 1 σ)
  else if p_kd P k = 1 then (p_vl P k, sFin k (p_vl P k) σ)
  else taskV rec P wk k (sOpen k σ)
def sv (P : PD) (wk : Nat) : Nat → RX
  | 0 => fun _ σ => (0, σ)
  | n + 1 => stepV (sv P wk n) P wk
/-- how many keys are neither open nor finished, of the first n -/
def frS (σ : SS) : Nat → Nat
  | 0 => 0
  | n + 1 => frS σ n + (if s_opn σ n = true ∨ s_fin σ n = true then 0 else 1)
abbrev fr12 (σ : SS) : Nat := frS σ 12
/-! what a session keeps: open keys stay open, finished ones finished; each trace made takes a free key -/
def Kp (σ τ : SS) : Prop := (∀ j, s_opn σ j = true → s_opn τ j = true) ∧ (∀ j, s_fin σ j = true → s_fin τ j = true ∧ s_val τ j = s_val σ j) ∧ s_md σ ≤ s_md τ ∧ s_md τ + fr12 τ ≤ s_md σ + fr12 σ
theorem frS_le {σ τ : SS} (h1 : ∀ j, s_opn σ j = true ∨ s_fin σ j = true → s_opn τ j = true ∨ s_fin τ j = true) : ∀ n, frS τ n ≤ frS σ n
  | 0 => Nat.le_refl 0
  | n + 1 => by
    have h := frS_le h1 n
    unfold frS
    by_cases h2 : s_opn σ n = true ∨ s_fin σ n = true
    · rw [if_pos h2, if_pos (h1 n h2)]; omega
    · rw [if_neg h2]; split <;> omega
theorem Kp.rf (σ : SS) : Kp σ σ := ⟨fun _ h => h, fun _ h => ⟨h, rfl⟩, Nat.le_refl _, Nat.le_refl _⟩
theorem Kp.tr {σ τ υ : SS} (h1 : Kp σ τ) (h2 : Kp τ υ) : Kp σ υ := ⟨fun j h => h2.1 j (h1.1 j h), fun j h => ⟨(h2.2.1 j (h1.2.1 j h).1).1, (h2.2.1 j (h1.2.1 j h).1).2.trans (h1.2.1 j h).2⟩, Nat.le_trans h1.2.2.1 h2.2.2.1, Nat.le_trans h2.2.2.2 h1.2.2.2⟩
theorem Kp.fr {σ τ : SS} (h : Kp σ τ) : fr12 τ ≤ fr12 σ := frS_le (fun j hj => hj.elim (fun a => Or.inl (h.1 j a)) (fun a => Or.inr (h.2.1 j a).1)) 12
theorem frS_same {σ τ : SS} (h1 : s_opn τ = s_opn σ) (h2 : s_fin τ = s_fin σ) : ∀ n, frS τ n = frS σ n
  | 0 => rfl
  | n + 1 => by unfold frS; rw [frS_same h1 h2 n, h1, h2]
theorem Kp.same {σ τ : SS} (h1 : s_opn τ = s_opn σ) (h2 : s_fin τ = s_fin σ) (h3 : s_val τ = s_val σ) (h4 : s_md τ = s_md σ) : Kp σ τ := ⟨fun j h => by rw [h1]; exact h, fun j h => ⟨by rw [h2]; exact h, by rw [h3]⟩, by rw [h4]; exact Nat.le_refl _, by rw [h4, show fr12 τ = fr12 σ from frS_same h1 h2 12]; exact Nat.le_refl _⟩
theorem Kp_tal (i : Nat) (σ : SS) : Kp σ (sTal i σ) := Kp.same rfl rfl rfl rfl
theorem Kp_fail (i : Nat) (σ : SS) : Kp σ (sFail i σ) := Kp.same rfl rfl rfl rfl
theorem Kp_give (i : Nat) (T : tv) (σ : SS) : Kp σ (sGive i T σ) := Kp.same rfl rfl rfl rfl
theorem Kp_app (T : tv) (σ : SS) : Kp σ (sApp T σ) := Kp.same rfl rfl rfl rfl
theorem Kp_ask {rec : RX} (hr : ∀ k σ, Kp σ (rec k σ).2) (k : Nat) (x : XS) : Kp x.2 (askV rec k x).2.2 := by
  unfold askV
  split
  · exact (Kp_tal 0 x.2).tr (hr k _)
  · exact Kp.rf _
theorem Kp_fold {rec : RX} (hr : ∀ k σ, Kp σ (rec k σ).2) (op : Int64 → Int64 → Int64) : ∀ (L : List Nat) (a : Int64) (x : XS), Kp x.2 (foldV rec op L a x).2.2
  | [], a, x => Kp.rf _
  | p :: r, a, x => (Kp_ask hr p x).tr (Kp_fold hr op r _ _)
theorem Kp_rule {rec : RX} (hr : ∀ k σ, Kp σ (rec k σ).2) (P : PD) (k : Nat) (x : XS) : Kp x.2 (ruleV rec P k x).2.2 := by
  unfold ruleV
  split
  · exact Kp_fold hr _ _ _ _
  · exact Kp_fold hr _ _ _ _
  · exact (Kp_ask hr _ _).tr (Kp_ask hr _ _)
  · split
    · exact ((Kp_ask hr _ _).tr (Kp_ask hr _ _)).tr (Kp_fail _ _)
    · exact (Kp_ask hr _ _).tr (Kp_ask hr _ _)
  · exact (Kp_ask hr _ _).tr (Kp_ask hr _ _)
  · split
    · exact ((Kp_ask hr _ _).tr (Kp_ask hr _ _)).tr (Kp_fail _ _)
    · exact (Kp_ask hr _ _).tr (Kp_ask hr _ _)
  · split
    · exact Kp_fail _ _
    · exact (Kp_ask hr _ _).tr (Kp_fold hr _ _ _ _)
  · exact (Kp_ask hr _ _).tr (Kp_fold hr _ _ _ _)
  · exact Kp_ask hr _ _
  · split
    · exact ((Kp_ask hr _ _).tr (Kp_ask hr _ _)).tr (Kp_fail _ _)
    · exact (Kp_ask hr _ _).tr (Kp_ask hr _ _)
  · exact Kp.rf _
theorem Kp_agr {rec : RX} (hr : ∀ k σ, Kp σ (rec k σ).2) : ∀ (L : List (Nat × Int64)) (σ : SS), Kp σ (agrV rec L σ).2
  | [], σ => Kp.rf _
  | q :: r, σ => by
    unfold agrV
    split
    · split
      · exact (hr _ _).tr (Kp_agr hr r _)
      · exact hr _ _
    · exact Kp.rf _
theorem Kp_cand {rec : RX} (hr : ∀ k σ, Kp σ (rec k σ).2) : ∀ (L : List tv) (σ : SS), Kp σ (candV rec L σ).2
  | [], σ => Kp.rf _
  | T :: r, σ => by
    unfold candV
    split
    · split
      · exact Kp_agr hr _ _
      · exact (Kp_agr hr _ _).tr (Kp_cand hr r _)
    · exact Kp.rf _
theorem Kp_own {rec : RX} (hr : ∀ k σ, Kp σ (rec k σ).2) (o : Option tv) (σ : SS) : Kp σ (ownV rec o σ).2 := by
  cases o with
  | none => exact Kp.rf _
  | some T => exact Kp_agr hr _ _
end
section
theorem frS_open_ge {σ : SS} {k : Nat} : ∀ n, n ≤ k → frS (sOpen k σ) n = frS σ n
  | 0, _ => rfl
  | n + 1, h => by
    have e : s_opn (sOpen k σ) n = s_opn σ n := va_up_ne _ _ (by omega)
    have e2 : s_fin (sOpen k σ) n = s_fin σ n := rfl
    unfold frS
    rw [frS_open_ge n (by omega), e, e2]
theorem frS_open {σ : SS} {k : Nat} (h1 : s_opn σ k = false) (h2 : s_fin σ k = false) : ∀ n, k < n → frS (sOpen k σ) n + 1 = frS σ n
  | 0, h => absurd h (Nat.not_lt_zero k)
  | n + 1, h => by
    have e2 : s_fin (sOpen k σ) n = s_fin σ n := rfl
    by_cases hk : k = n
    · subst hk
      have e : s_opn (sOpen k σ) k = true := va_up_self _ _ _
      unfold frS
      rw [frS_open_ge k (Nat.le_refl _), e, if_pos (Or.inl rfl), h1, h2, if_neg (by simp)]
    · have e : s_opn (sOpen k σ) n = s_opn σ n := va_up_ne _ _ (by omega)
      have hi := frS_open h1 h2 n (by omega)
      unfold frS
      rw [e, e2, ← hi]
      omega
def Kq (σ τ : SS) : Prop := (∀ j, s_opn σ j = true → s_opn τ j = true) ∧ (∀ j, s_fin σ j = true → s_fin τ j = true ∧ s_val τ j = s_val σ j) ∧ s_md σ ≤ s_md τ ∧ s_md τ + fr12 τ ≤ s_md σ + fr12 σ + 1
theorem Kp.kq {σ τ : SS} (h : Kp σ τ) : Kq σ τ := ⟨h.1, h.2.1, h.2.2.1, Nat.le_succ_of_le h.2.2.2⟩
theorem Kq.kp {σ τ υ : SS} (h1 : Kq σ τ) (h2 : Kp τ υ) : Kq σ υ := ⟨fun j h => h2.1 j (h1.1 j h), fun j h => ⟨(h2.2.1 j (h1.2.1 j h).1).1, (h2.2.1 j (h1.2.1 j h).1).2.trans (h1.2.1 j h).2⟩, Nat.le_trans h1.2.2.1 h2.2.2.1, Nat.le_trans h2.2.2.2 h1.2.2.2⟩
theorem Kp.pq {σ τ υ : SS} (h1 : Kp σ τ) (h2 : Kq τ υ) : Kq σ υ := ⟨fun j h => h2.1 j (h1.1 j h), fun j h => ⟨(h2.2.1 j (h1.2.1 j h).1).1, (h2.2.1 j (h1.2.1 j h).1).2.trans (h1.2.1 j h).2⟩, Nat.le_trans h1.2.2.1 h2.2.2.1, Nat.le_trans h2.2.2.2 (Nat.succ_le_succ h1.2.2.2)⟩
theorem Kq_ran (σ : SS) : Kq σ (sRan σ) := ⟨fun _ h => h, fun _ h => ⟨h, rfl⟩, Nat.le_succ _, by rw [show fr12 (sRan σ) = fr12 σ from frS_same rfl rfl 12]; show s_md σ + 1 + _ ≤ _; omega⟩
theorem Kq.out {σ τ : SS} {k : Nat} (hk : k < 12) (h1 : s_opn σ k = false) (h2 : s_fin σ k = false) (h : Kq (sOpen k σ) τ) : Kp σ τ := by
  refine ⟨fun j hj => ?_, fun j hj => h.2.1 j hj, h.2.2.1, ?_⟩
  · refine h.1 j ?_
    by_cases e : j = k
    · rw [e, h1] at hj; cases hj
    · exact (va_up_ne _ _ e).trans hj
  · have a := h.2.2.2
    have b : fr12 (sOpen k σ) + 1 = fr12 σ := frS_open h1 h2 12 hk
    have d : s_md (sOpen k σ) = s_md σ := rfl
    omega
theorem Kq.fin {σ τ : SS} {k : Nat} {v : Int64} (hk : k < 12) (h1 : s_opn σ k = false) (h2 : s_fin σ k = false) (h : Kq (sOpen k σ) τ) : Kp σ (sFin k v τ) := by
  have h0 := h.out hk h1 h2
  have ho : s_opn τ k = true := h.1 k (va_up_self _ _ _)
  refine ⟨fun j hj => ?_, fun j hj => ?_, h0.2.2.1, Nat.le_trans (Nat.add_le_add_left (frS_le (fun j hj => ?_) 12) _) h0.2.2.2⟩
  · have e : j ≠ k := fun e => by rw [e, h1] at hj; cases hj
    exact (va_up_ne _ _ e).trans (h0.1 j hj)
  · have e : j ≠ k := fun e => by rw [e, h2] at hj; cases hj
    exact ⟨(va_up_ne _ _ e).trans (h0.2.1 j hj).1, (pk_uLn e).trans (h0.2.1 j hj).2⟩
  · by_cases e : j = k
    · rw [e]; exact Or.inr (va_up_self _ _ _)
    · exact hj.elim (fun a => Or.inl ((va_up_ne _ _ e).trans a)) (fun a => Or.inr ((va_up_ne _ _ e).trans a))
theorem Kp_fin1 {σ : SS} {k : Nat} {v : Int64} (h1 : s_opn σ k = false) (h2 : s_fin σ k = false) : Kp σ (sFin k v σ) := by
  refine ⟨fun j hj => ?_, fun j hj => ?_, Nat.le_refl _, Nat.add_le_add_left (frS_le (fun j hj => ?_) 12) _⟩
  · have e : j ≠ k := fun e => by rw [e, h1] at hj; cases hj
    exact (va_up_ne _ _ e).trans hj
  · have e : j ≠ k := fun e => by rw [e, h2] at hj; cases hj
    exact ⟨(va_up_ne _ _ e).trans hj, pk_uLn e⟩
  · by_cases e : j = k
    · rw [e]; exact Or.inr (va_up_self _ _ _)
    · exact hj.elim (fun a => Or.inl ((va_up_ne _ _ e).trans a)) (fun a => Or.inr ((va_up_ne _ _ e).trans a))
theorem Kp_run {rec : RX} (hr : ∀ k σ, Kp σ (rec k σ).2) (P : PD) (wk : Nat) {σ σ2 : SS} {k : Nat} (hk : k < 12) (h1 : s_opn σ k = false) (h2 : s_fin σ k = false) (h : Kp (sOpen k σ) σ2) : Kp σ (runV rec P wk k σ2).2 := by
  have h3 : Kq (sOpen k σ) (ruleV rec P k ([], sRan σ2)).2.2 := (h.pq (Kq_ran σ2)).kp (Kp_rule hr P k ([], sRan σ2))
  unfold runV
  split
  · exact Kq.fin hk h1 h2 (((h3.kp (Kp_tal _ _)).kp (Kp_give _ _ _)).kp (Kp_app _ _))
  · exact Kq.out hk h1 h2 (h3.kp (Kp_tal _ _))
theorem Kp_task {rec : RX} (hr : ∀ k σ, Kp σ (rec k σ).2) (P : PD) (wk : Nat) {σ : SS} {k : Nat} (hk : k < 12) (h1 : s_opn σ k = false) (h2 : s_fin σ k = false) : Kp σ (taskV rec P wk k (sOpen k σ)).2 := by
  have ho := Kp_own hr (s_tr (sOpen k σ) (wk * 12 + k)) (sOpen k σ)
  unfold taskV
  split
  · exact Kq.fin hk h1 h2 (ho.tr (Kp_tal _ _)).kq
  · generalize (ownV rec (s_tr (sOpen k σ) (wk * 12 + k)) (sOpen k σ)).2 = σ1 at ho ⊢
    have hc := Kp_cand hr (entV k (s_cl σ1)) σ1
    unfold nextV
    split
    · exact Kq.fin hk h1 h2 (((ho.tr hc).tr (Kp_tal _ _)).tr (Kp_give _ _ _)).kq
    · split
      · exact Kp_run hr P wk hk h1 h2 (ho.tr hc)
      · exact Kq.out hk h1 h2 (ho.tr hc).kq
theorem Kp_step {rec : RX} (hr : ∀ k σ, Kp σ (rec k σ).2) (P : PD) (wk k : Nat) (σ : SS) : Kp σ (stepV rec P wk k σ).2 := by
  unfold stepV
  split
  · exact Kp.rf _
  · split
    · exact Kp.rf _
    · split
      · exact (Kp_tal _ _).tr (Kp_fail _ _)
      · split
        · exact Kp_fail _ _
        · split
          · exact Kp_fin1 (by simpa using ‹¬ s_opn σ k = true›) (by simpa using ‹¬ s_fin σ k = true›)
          · exact Kp_task hr P wk (by omega) (by simpa using ‹¬ s_opn σ k = true›) (by simpa using ‹¬ s_fin σ k = true›)
theorem Kp_sv (P : PD) (wk : Nat) : ∀ (n k : Nat) (σ : SS), Kp σ (sv P wk n k σ).2
  | 0, k, σ => Kp.rf _
  | n + 1, k, σ => Kp_step (Kp_sv P wk n) P wk k σ
end
section
/-! ===== the class's cells in a session; ad: 0 session (1 finished, 2 open, 3 values, 4 rows), 5 memory (6 traces, 7 cache, 8 tallies), 9 plan (10 kinds, 11 values, 12 rules, 13 parts, 14 counts, 15.. rows) ===== -/
def isT (dA : Nat → ClassId) (Fz : Nat → Prop) (w : fw_W) (t : Nat) (T : tv) : Prop := (∃ kt vt : Nat, aT dA w t kt vt T.1 T.2.1 T.2.2 ∧ Fz t ∧ Fz kt ∧ Fz vt) ∧ T.1 < 12
theorem isT.kept {dA : Nat → ClassId} {Fz Fz' : Nat → Prop} {w w' : fw_W} {t : Nat} {T : tv} (h : isT dA Fz w t T) (hz : ∀ q, Fz q → w' q = w q) (hF : ∀ q, Fz q → Fz' q) : isT dA Fz' w' t T := by
  obtain ⟨⟨kt, vt, a, b, c, d⟩, e⟩ := h
  exact ⟨⟨kt, vt, a.kept (hz _ b) (hz _ c) (hz _ d), hF _ b, hF _ c, hF _ d⟩, e⟩
theorem isT.o {dA : Nat → ClassId} {Fz : Nat → Prop} {w : fw_W} {t : Nat} {T : tv} (h : isT dA Fz w t T) : oT w t T.1 := by
  obtain ⟨⟨kt, vt, ⟨fk, fv, a, -⟩, -⟩, -⟩ := h
  exact ⟨_, _, _, _, a⟩
def rT (dA : Nat → ClassId) (Fz : Nat → Prop) (w : fw_W) : Option Nat → Option tv → Prop
  | none, none => True
  | some t, some T => isT dA Fz w t T
  | _, _ => False
theorem rT.kept {dA : Nat → ClassId} {Fz Fz' : Nat → Prop} {w w' : fw_W} {r : Option Nat} {o : Option tv} (h : rT dA Fz w r o) (hz : ∀ q, Fz q → w' q = w q) (hF : ∀ q, Fz q → Fz' q) : rT dA Fz' w' r o := by
  cases r <;> cases o
  · trivial
  · exact h
  · exact h
  · exact isT.kept h hz hF
def poolL (dA : Nat → ClassId) (Fz : Nat → Prop) (w : fw_W) (pl : List Nat) (cl : List tv) : Prop := pl.length = cl.length ∧ ∀ (i t : Nat) (T : tv), pl[i]? = some t → cl[i]? = some T → isT dA Fz w t T
theorem poolL.kept {dA : Nat → ClassId} {Fz Fz' : Nat → Prop} {w w' : fw_W} {pl : List Nat} {cl : List tv} (h : poolL dA Fz w pl cl) (hz : ∀ q, Fz q → w' q = w q) (hF : ∀ q, Fz q → Fz' q) : poolL dA Fz' w' pl cl := ⟨h.1, fun i t T a b => (h.2 i t T a b).kept hz hF⟩
def S5 (dA : Nat → ClassId) (ad : Nat → Nat) (wk : Nat) (rows : Nat → Option Nat) (w : fw_W) (σ : SS) : Prop :=
  w (ad 0) = some (.inr (2, [.ref (ad 9), .ref (ad 5), .int (nI wk), .ref (ad 1), .ref (ad 2), .ref (ad 3), .ref (ad 4), .int (nI (s_ran σ).toNat), .int (nI (s_fl σ))])) ∧ w (ad 1) = some (.inl (dA 2, 12, .inl (zf (s_fin σ)))) ∧ w (ad 2) = some (.inl (dA 2, 12, .inl (zf (s_opn σ)))) ∧ w (ad 3) = some (.inl (dA 1, 12, .inr (.inl (s_val σ)))) ∧ w (ad 4) = some (.inl (dA 3, 192, .inr (.inr (.inr (.inr rows)))))
def M4 (dA : Nat → ClassId) (ad : Nat → Nat) (Fz : Nat → Prop) (w : fw_W) (tr : Nat → Option tv) (cl : List tv) (ta : Nat → Int32) : Prop :=
  ∃ (ft : Nat → Option Nat) (pl : List Nat), aM dA w (ad 5) (ad 6) (ad 7) (ad 8) ft pl ta ∧ (∀ i, i < 24 → rT dA Fz w (ft i) (tr i)) ∧ poolL dA Fz w pl cl
def P6 (dA : Nat → ClassId) (ad : Nat → Nat) (w : fw_W) (P : PD) : Prop := aP dA w (ad 9) (ad 10) (ad 11) (ad 12) (ad 13) (ad 14) (fun k => ad (15 + k)) (p_kd P) (p_vl P) (p_rl P) (p_pf P) (p_cn P)
def RS (dA : Nat → ClassId) (ad : Nat → Nat) (Fz : Nat → Prop) (P : PD) (wk : Nat) (rows : Nat → Option Nat) (w : fw_W) (σ : SS) : Prop :=
  S5 dA ad wk rows w σ ∧ M4 dA ad Fz w (s_tr σ) (s_cl σ) (s_ta σ) ∧ P6 dA ad w P ∧ ((∀ i, i < 27 → ¬ Fz (ad i)) ∧ ∀ q, Fz q → w q ≠ none) ∧ s_fl σ < 4
theorem aM.kept {dA : Nat → ClassId} {w w' : fw_W} {h tr ca ta : Nat} {ft : Nat → Option Nat} {pl : List Nat} {fa : Nat → Int32} (hM : aM dA w h tr ca ta ft pl fa) (h1 : w' h = w h) (h2 : w' tr = w tr) (h3 : w' ca = w ca) (h4 : w' ta = w ta) : aM dA w' h tr ca ta ft pl fa := by
  obtain ⟨fc, a, b, c, d, e⟩ := hM
  exact ⟨fc, h1.trans a, h2.trans b, h3.trans c, h4.trans d, e⟩
theorem S5.kept {dA : Nat → ClassId} {ad : Nat → Nat} {wk : Nat} {rows : Nat → Option Nat} {w w' : fw_W} {σ : SS} (h : S5 dA ad wk rows w σ) (hk : ∀ i, i < 5 → w' (ad i) = w (ad i)) : S5 dA ad wk rows w' σ := ⟨(hk 0 (by omega)).trans h.1, (hk 1 (by omega)).trans h.2.1, (hk 2 (by omega)).trans h.2.2.1, (hk 3 (by omega)).trans h.2.2.2.1, (hk 4 (by omega)).trans h.2.2.2.2⟩
theorem M4.kept {dA : Nat → ClassId} {ad : Nat → Nat} {Fz Fz' : Nat → Prop} {w w' : fw_W} {tr : Nat → Option tv} {cl : List tv} {ta : Nat → Int32} (h : M4 dA ad Fz w tr cl ta) (hk : ∀ i, 5 ≤ i → i < 9 → w' (ad i) = w (ad i)) (hz : ∀ q, Fz q → w' q = w q) (hF : ∀ q, Fz q → Fz' q) : M4 dA ad Fz' w' tr cl ta := by
  obtain ⟨ft, pl, a, b, c⟩ := h
  exact ⟨ft, pl, a.kept (hk 5 (by omega) (by omega)) (hk 6 (by omega) (by omega)) (hk 7 (by omega) (by omega)) (hk 8 (by omega) (by omega)), fun i hi => (b i hi).kept hz hF, c.kept hz hF⟩
theorem P6.kept {dA : Nat → ClassId} {ad : Nat → Nat} {w w' : fw_W} {P : PD} (h : P6 dA ad w P) (hk : ∀ i, 9 ≤ i → i < 27 → w' (ad i) = w (ad i)) : P6 dA ad w' P := by
  obtain ⟨a, b, c, d, ⟨rows, e, e2⟩, f, g, r⟩ := h
  exact ⟨(hk 9 (by omega) (by omega)).trans a, (hk 10 (by omega) (by omega)).trans b, (hk 11 (by omega) (by omega)).trans c, (hk 12 (by omega) (by omega)).trans d, ⟨rows, (hk 13 (by omega) (by omega)).trans e, e2⟩, fun k hk2 => (hk (15 + k) (by omega) (by omega)).trans (f k hk2), (hk 14 (by omega) (by omega)).trans g, r⟩
def Inj (ad : Nat → Nat) : Prop := ∀ i j, i < 27 → j < 27 → ad i = ad j → i = j
theorem Inj.ne {ad : Nat → Nat} (h : Inj ad) {i j : Nat} (hi : i < 27) (hj : j < 27) (n : i ≠ j) : ad i ≠ ad j := fun e => n (h i j hi hj e)
/-- only the block's cells change -/
def Out (ad : Nat → Nat) (w w' : fw_W) : Prop := ∀ q, (∀ i, i < 27 → q ≠ ad i) → w' q = w q
theorem RS.fz {dA : Nat → ClassId} {ad : Nat → Nat} {Fz : Nat → Prop} {P : PD} {wk : Nat} {rows : Nat → Option Nat} {w w' : fw_W} {σ : SS} (h : RS dA ad Fz P wk rows w σ) (ho : Out ad w w') : ∀ q, Fz q → w' q = w q := fun q hq => ho q (fun i hi e => h.2.2.2.1.1 i hi (e ▸ hq))
/-- a step of a session: from w, σ to w', σ' -/
def VP (dA : Nat → ClassId) (ad : Nat → Nat) (P : PD) (wk : Nat) (Fz : Nat → Prop) (rows : Nat → Option Nat) (w : fw_W) (σ : SS) (w' : fw_W) (σ' : SS) : Prop :=
  ∃ (Fz' : Nat → Prop) (rows' : Nat → Option Nat), RS dA ad Fz' P wk rows' w' σ' ∧ (∀ q, Fz q → Fz' q) ∧ (∀ q, Fz' q → Fz q ∨ w q = none) ∧ (∀ (q : Nat) (e : va_E), w q = some e → (∀ i, i < 27 → q ≠ ad i) → w' q = some e) ∧ ∀ z, s_opn σ (z / 16) = true → rows' z = rows z
theorem VP.of {dA : Nat → ClassId} {ad : Nat → Nat} {P : PD} {wk : Nat} {Fz : Nat → Prop} {rows : Nat → Option Nat} {w w' : fw_W} {σ σ' : SS} (h : RS dA ad Fz P wk rows w' σ') (ho : Out ad w w') : VP dA ad P wk Fz rows w σ w' σ' := ⟨Fz, rows, h, fun _ h => h, fun _ h => Or.inl h, fun q e hq hn => (ho q hn).trans hq, fun _ _ => rfl⟩
theorem fd_kept {Fz : Nat → Prop} {w w' : fw_W} (hz : ∀ q, Fz q → w' q = w q) (h : ∀ q, Fz q → w q ≠ none) : ∀ q, Fz q → w' q ≠ none := fun q hq => by rw [hz q hq]; exact h q hq
end
section
def VQ (dA : Nat → ClassId) (ad : Nat → Nat) (P : PD) (wk : Nat) (Fz : Nat → Prop) (rows : Nat → Option Nat) (w : fw_W) (σ : SS) (Fz' : Nat → Prop) (rows' : Nat → Option Nat) (w' : fw_W) (σ' : SS) : Prop :=
  RS dA ad Fz' P wk rows' w' σ' ∧ (∀ q, Fz q → Fz' q) ∧ (∀ q, Fz' q → Fz q ∨ w q = none) ∧ (∀ (q : Nat) (e : va_E), w q = some e → (∀ i, i < 27 → q ≠ ad i) → w' q = some e) ∧ ∀ z, s_opn σ (z / 16) = true → rows' z = rows z
section VQS
variable {dA : Nat → ClassId} {ad : Nat → Nat} {P : PD} {wk : Nat} {Fz Fz1 Fz2 : Nat → Prop} {rows rows1 rows2 : Nat → Option Nat} {w w1 w2 : fw_W} {σ σ1 σ2 : SS}
theorem VQ.p (h : VQ dA ad P wk Fz rows w σ Fz1 rows1 w1 σ1) : VP dA ad P wk Fz rows w σ w1 σ1 := ⟨Fz1, rows1, h⟩
theorem VQ.rf (h : RS dA ad Fz P wk rows w σ) : VQ dA ad P wk Fz rows w σ Fz rows w σ := ⟨h, fun _ h => h, fun _ h => Or.inl h, fun _ _ h _ => h, fun _ _ => rfl⟩
theorem VQ.of (h : RS dA ad Fz P wk rows w1 σ1) (ho : Out ad w w1) : VQ dA ad P wk Fz rows w σ Fz rows w1 σ1 := ⟨h, fun _ h => h, fun _ h => Or.inl h, fun q e hq hn => (ho q hn).trans hq, fun _ _ => rfl⟩
theorem VQ.tr (h1 : VQ dA ad P wk Fz rows w σ Fz1 rows1 w1 σ1) (h2 : VQ dA ad P wk Fz1 rows1 w1 σ1 Fz2 rows2 w2 σ2) (hk : ∀ j, s_opn σ j = true → s_opn σ1 j = true) (h0 : RS dA ad Fz P wk rows w σ) (hb : ∀ i, i < 27 → w (ad i) ≠ none) : VQ dA ad P wk Fz rows w σ Fz2 rows2 w2 σ2 := by
  obtain ⟨a1, a2, a3, a4, a5⟩ := h1
  obtain ⟨b1, b2, b3, b4, b5⟩ := h2
  refine ⟨b1, fun q hq => b2 q (a2 q hq), fun q hq => ?_, fun q e hq hn => b4 q e (a4 q e hq hn) hn, fun z hz => (b5 z (hk _ hz)).trans (a5 z hz)⟩
  rcases b3 q hq with h | h
  · exact a3 q h
  · cases hw : w q with
    | none => exact Or.inr rfl
    | some e =>
      by_cases hn : ∀ i, i < 27 → q ≠ ad i
      · rw [a4 q e hw hn] at h; cases h
      · exact absurd hq (fun hq => hn (fun i hi e9 => b1.2.2.2.1.1 i hi (e9 ▸ hq)))
theorem RS.blk (h : RS dA ad Fz P wk rows w σ) : ∀ i, i < 27 → w (ad i) ≠ none := by
  obtain ⟨⟨g0, g1, g2, g3, g4⟩, ⟨ft, pl, ⟨fc, m1, m2, m3, m4, -⟩, -⟩, ⟨p0, p1, p2, p3, ⟨rw, p4, -⟩, p5, p6, -⟩, -⟩ := h
  intro i hi
  match i, hi with
  | 0, _ => rw [g0]; exact fun h => by cases h
  | 1, _ => rw [g1]; exact fun h => by cases h
  | 2, _ => rw [g2]; exact fun h => by cases h
  | 3, _ => rw [g3]; exact fun h => by cases h
  | 4, _ => rw [g4]; exact fun h => by cases h
  | 5, _ => rw [m1]; exact fun h => by cases h
  | 6, _ => rw [m2]; exact fun h => by cases h
  | 7, _ => rw [m3]; exact fun h => by cases h
  | 8, _ => rw [m4]; exact fun h => by cases h
  | 9, _ => rw [p0]; exact fun h => by cases h
  | 10, _ => rw [p1]; exact fun h => by cases h
  | 11, _ => rw [p2]; exact fun h => by cases h
  | 12, _ => rw [p3]; exact fun h => by cases h
  | 13, _ => rw [p4]; exact fun h => by cases h
  | 14, _ => rw [p6]; exact fun h => by cases h
  | n + 15, h =>
    have := p5 n (by omega)
    rw [show n + 15 = 15 + n by omega, this]
    exact fun h => by cases h
theorem VQ.aT {h kt vt o : Nat} {L : List (Nat × Int64)} {res : Int64} (hV : VQ dA ad P wk Fz rows w σ Fz1 rows1 w1 σ1) (hT : aT dA w h kt vt o L res) (n1 : ∀ i, i < 27 → h ≠ ad i) (n2 : ∀ i, i < 27 → kt ≠ ad i) (n3 : ∀ i, i < 27 → vt ≠ ad i) : aT dA w1 h kt vt o L res := by
  obtain ⟨fk, fv, a, b, c, d⟩ := hT
  exact ⟨fk, fv, hV.2.2.2.1 _ _ a n1, hV.2.2.2.1 _ _ b n2, hV.2.2.2.1 _ _ c n3, d⟩
theorem VQ.isT {t : Nat} {T : tv} (h0 : RS dA ad Fz P wk rows w σ) (hV : VQ dA ad P wk Fz rows w σ Fz1 rows1 w1 σ1) (hT : isT dA Fz w t T) : isT dA Fz1 w1 t T := by
  obtain ⟨⟨kt, vt, a, b, c, d⟩, e⟩ := hT
  exact ⟨⟨kt, vt, hV.aT a (fun i hi e9 => h0.2.2.2.1.1 i hi (e9 ▸ b)) (fun i hi e9 => h0.2.2.2.1.1 i hi (e9 ▸ c)) (fun i hi e9 => h0.2.2.2.1.1 i hi (e9 ▸ d)), hV.2.1 _ b, hV.2.1 _ c, hV.2.1 _ d⟩, e⟩
end VQS
/-- how many traces a step has made -/
def dm (σ τ : SS) : Nat := s_md τ - s_md σ
def rmV (n d : Nat) : Room := { frames := 7 * n + 4, cells := 3 * d, slots := 11 * d, locals := 210 * n + 60 }
/-- valueOf, where at most n keys are free -/
def VO (l : Launch) (s0 : State) (dC : Nat → ClassId) (dI : Nat → Nat → Nat) (dA : Nat → ClassId) (ad : Nat → Nat) (P : PD) (wk n : Nat) : Prop :=
  ∀ (w : fw_W) (Fz : Nat → Prop) (rows : Nat → Option Nat) (σ : SS) (k : Nat), RS dA ad Fz P wk rows w σ → k < 12 → fr12 σ ≤ n →
    Met l y_S_valueOf [.code y_S_valueOf b_S_valueOf 2 (some .long)] (rmV n (dm σ (sv P wk (n + 1) k σ).2)) (mP s0 dC dI w [.ref (ad 0), .int (nI k)]) (mQl s0 dC dI (fun r w' => r = (sv P wk (n + 1) k σ).1 ∧ VP dA ad P wk Fz rows w σ w' (sv P wk (n + 1) k σ).2)) (3 * dm σ (sv P wk (n + 1) k σ).2) (11 * dm σ (sv P wk (n + 1) k σ).2) (AA s0)
theorem agrV_drop {rec : RX} {L : List (Nat × Int64)} {i : Nat} {q : Nat × Int64} (h : L[i]? = some q) : L.drop i = q :: L.drop (i + 1) := by
  have hm := (List.getElem?_eq_some_iff.mp h).1
  rw [List.drop_eq_getElem_cons hm]
  congr 1
  exact (List.getElem?_eq_some_iff.mp h).2
end
section
/-- the owner that the heap's picture says -/
def owF (w : fw_W) (t : Nat) : Nat := match w t with
  | some (.inr (3, .int x :: _)) => x.toNatClampNeg
  | _ => 0
theorem owF_eq {dA : Nat → ClassId} {Fz : Nat → Prop} {w : fw_W} {t : Nat} {T : tv} (h : isT dA Fz w t T) : owF w t = T.1 := by
  obtain ⟨⟨kt, vt, ⟨fk, fv, a, -⟩, -⟩, e⟩ := h
  unfold owF
  rw [a]
  exact nI_clamp (by omega)
theorem poolL.nil {dA : Nat → ClassId} {Fz : Nat → Prop} {w : fw_W} : poolL dA Fz w [] [] := ⟨rfl, fun i t T h => by simp at h⟩
theorem poolL.cons {dA : Nat → ClassId} {Fz : Nat → Prop} {w : fw_W} {t : Nat} {T : tv} {pl : List Nat} {cl : List tv} (h : isT dA Fz w t T) (hp : poolL dA Fz w pl cl) : poolL dA Fz w (t :: pl) (T :: cl) := by
  refine ⟨congrArg (· + 1) hp.1, fun i u U h1 h2 => ?_⟩
  cases i with
  | zero => cases h1; cases h2; exact h
  | succ i => exact hp.2 i u U h1 h2
theorem poolL.uncons {dA : Nat → ClassId} {Fz : Nat → Prop} {w : fw_W} {t : Nat} {T : tv} {pl : List Nat} {cl : List tv} (h : poolL dA Fz w (t :: pl) (T :: cl)) : isT dA Fz w t T ∧ poolL dA Fz w pl cl := ⟨h.2 0 t T rfl rfl, Nat.succ.inj h.1, fun i u U h1 h2 => h.2 (i + 1) u U h1 h2⟩
theorem poolL.app {dA : Nat → ClassId} {Fz : Nat → Prop} {w : fw_W} : ∀ {a c : List Nat} {b d : List tv}, poolL dA Fz w a b → poolL dA Fz w c d → poolL dA Fz w (a ++ c) (b ++ d)
  | [], c, [], d, _, h2 => h2
  | [], c, _ :: _, d, h1, _ => absurd h1.1 (by simp)
  | _ :: _, c, [], d, h1, _ => absurd h1.1 (by simp)
  | t :: a, c, T :: b, d, h1, h2 => poolL.cons h1.uncons.1 (poolL.app h1.uncons.2 h2)
theorem poolL.rev {dA : Nat → ClassId} {Fz : Nat → Prop} {w : fw_W} : ∀ {a : List Nat} {b : List tv}, poolL dA Fz w a b → poolL dA Fz w a.reverse b.reverse
  | [], [], h => h
  | [], _ :: _, h1 => absurd h1.1 (by simp)
  | _ :: _, [], h1 => absurd h1.1 (by simp)
  | t :: a, T :: b, h => by
    rw [List.reverse_cons, List.reverse_cons]
    exact poolL.app (poolL.rev h.uncons.2) (poolL.cons h.uncons.1 poolL.nil)
theorem poolL.filt {dA : Nat → ClassId} {Fz : Nat → Prop} {w : fw_W} {f : Nat → Bool} : ∀ {a : List Nat} {b : List tv}, poolL dA Fz w a b → poolL dA Fz w (a.filter (fun t => f (owF w t))) (b.filter (fun T => f T.1))
  | [], [], h => h
  | [], _ :: _, h1 => absurd h1.1 (by simp)
  | _ :: _, [], h1 => absurd h1.1 (by simp)
  | t :: a, T :: b, h => by
    rw [List.filter_cons, List.filter_cons, owF_eq h.uncons.1]
    split
    · exact poolL.cons h.uncons.1 (poolL.filt h.uncons.2)
    · exact poolL.filt h.uncons.2
theorem poolL.drop {dA : Nat → ClassId} {Fz : Nat → Prop} {w : fw_W} {a : List Nat} {b : List tv} (h : poolL dA Fz w a b) (n : Nat) : poolL dA Fz w (a.drop n) (b.drop n) := by
  refine ⟨by rw [List.length_drop, List.length_drop, h.1], fun i t T h1 h2 => ?_⟩
  rw [List.getElem?_drop] at h1 h2
  exact h.2 _ t T h1 h2
theorem poolL.mem {dA : Nat → ClassId} {Fz : Nat → Prop} {w : fw_W} {a : List Nat} {b : List tv} (h : poolL dA Fz w a b) {t : Nat} (ht : t ∈ a) : ∃ T, T ∈ b ∧ isT dA Fz w t T := by
  obtain ⟨i, hi⟩ := List.getElem?_of_mem ht
  have hl := (List.getElem?_eq_some_iff.mp hi).1
  have hl2 : i < b.length := by rw [← h.1]; exact hl
  exact ⟨b[i], List.getElem_mem _, h.2 i t _ hi (List.getElem?_eq_getElem hl2)⟩
theorem poolL.o {dA : Nat → ClassId} {Fz : Nat → Prop} {w : fw_W} {a : List Nat} {b : List tv} (h : poolL dA Fz w a b) : ∀ t ∈ a, oT w t (owF w t) := fun t ht => by
  obtain ⟨T, -, hT⟩ := h.mem ht
  rw [owF_eq hT]
  exact hT.o
theorem poolL.o12 {dA : Nat → ClassId} {Fz : Nat → Prop} {w : fw_W} {a : List Nat} {b : List tv} (h : poolL dA Fz w a b) : ∀ t ∈ a, owF w t < 12 := fun t ht => by
  obtain ⟨T, -, hT⟩ := h.mem ht
  rw [owF_eq hT]
  exact hT.2
theorem filt_rev_le {α : Type} (l : List α) (f : α → Bool) : (l.filter f).reverse.length ≤ l.length := by
  rw [List.length_reverse]
  exact List.length_filter_le f l
/-- as VQ, but the row of k is free -/
def VR (dA : Nat → ClassId) (ad : Nat → Nat) (P : PD) (wk k : Nat) (Fz : Nat → Prop) (rows : Nat → Option Nat) (w : fw_W) (σ : SS) (Fz' : Nat → Prop) (rows' : Nat → Option Nat) (w' : fw_W) (σ' : SS) : Prop :=
  RS dA ad Fz' P wk rows' w' σ' ∧ (∀ q, Fz q → Fz' q) ∧ (∀ q, Fz' q → Fz q ∨ w q = none) ∧ (∀ (q : Nat) (e : va_E), w q = some e → (∀ i, i < 27 → q ≠ ad i) → w' q = some e) ∧ ∀ z, z / 16 ≠ k → s_opn σ (z / 16) = true → rows' z = rows z
section VRS
variable {dA : Nat → ClassId} {ad : Nat → Nat} {P : PD} {wk k : Nat} {Fz Fz1 Fz2 : Nat → Prop} {rows rows1 rows2 : Nat → Option Nat} {w w1 w2 : fw_W} {σ σ1 σ2 : SS}
theorem VQ.r (h : VQ dA ad P wk Fz rows w σ Fz1 rows1 w1 σ1) : VR dA ad P wk k Fz rows w σ Fz1 rows1 w1 σ1 := ⟨h.1, h.2.1, h.2.2.1, h.2.2.2.1, fun z _ h2 => h.2.2.2.2 z h2⟩
theorem VR.tr (h1 : VR dA ad P wk k Fz rows w σ Fz1 rows1 w1 σ1) (h2 : VR dA ad P wk k Fz1 rows1 w1 σ1 Fz2 rows2 w2 σ2) (hk : ∀ j, s_opn σ j = true → s_opn σ1 j = true) (hb : ∀ i, i < 27 → w (ad i) ≠ none) : VR dA ad P wk k Fz rows w σ Fz2 rows2 w2 σ2 := by
  obtain ⟨a1, a2, a3, a4, a5⟩ := h1
  obtain ⟨b1, b2, b3, b4, b5⟩ := h2
  refine ⟨b1, fun q hq => b2 q (a2 q hq), fun q hq => ?_, fun q e hq hn => b4 q e (a4 q e hq hn) hn, fun z h9 hz => (b5 z h9 (hk _ hz)).trans (a5 z h9 hz)⟩
  rcases b3 q hq with h | h
  · exact a3 q h
  · cases hw : w q with
    | none => exact Or.inr rfl
    | some e =>
      by_cases hn : ∀ i, i < 27 → q ≠ ad i
      · rw [a4 q e hw hn] at h; cases h
      · exact absurd hq (fun hq => hn (fun i hi e9 => b1.2.2.2.1.1 i hi (e9 ▸ hq)))
theorem VR.isT {t : Nat} {T : tv} (h0 : RS dA ad Fz P wk rows w σ) (hV : VR dA ad P wk k Fz rows w σ Fz1 rows1 w1 σ1) (hT : isT dA Fz w t T) : isT dA Fz1 w1 t T := by
  obtain ⟨⟨kt, vt, ⟨fk, fv, a1, a2, a3, a4⟩, b, c, d⟩, e⟩ := hT
  exact ⟨⟨kt, vt, ⟨fk, fv, hV.2.2.2.1 _ _ a1 (fun i hi e9 => h0.2.2.2.1.1 i hi (e9 ▸ b)), hV.2.2.2.1 _ _ a2 (fun i hi e9 => h0.2.2.2.1.1 i hi (e9 ▸ c)), hV.2.2.2.1 _ _ a3 (fun i hi e9 => h0.2.2.2.1.1 i hi (e9 ▸ d)), a4⟩, hV.2.1 _ b, hV.2.1 _ c, hV.2.1 _ d⟩, e⟩
theorem VR.close (h1 : s_opn σ k = false) {w0 : fw_W} (ho : Out ad w0 w) (h : VR dA ad P wk k Fz rows w (sOpen k σ) Fz1 rows1 w1 σ1) (hn : ∀ q, w q = none → w0 q = none) : VQ dA ad P wk Fz rows w0 σ Fz1 rows1 w1 σ1 := by
  obtain ⟨a1, a2, a3, a4, a5⟩ := h
  refine ⟨a1, a2, fun q hq => (a3 q hq).elim Or.inl (fun h => Or.inr (hn q h)), fun q e hq hn2 => a4 q e ((ho q hn2).trans hq) hn2, fun z hz => a5 z (fun e => ?_) ?_⟩
  · rw [e, h1] at hz; cases hz
  · have e : z / 16 ≠ k := fun e => by rw [e, h1] at hz; cases hz
    exact (va_up_ne _ _ e).trans hz
end VRS
end
section
set_option maxHeartbeats 4000000 in
set_option maxRecDepth 100000 in
theorem c_S_hasFailed {l : Launch} {s0 : State} {dC : Nat → ClassId} {dI : Nat → Nat → Nat} {dA : Nat → ClassId} (B0 : BB s0 dC dI dA) (w : fw_W) (ad : Nat → Nat) (Fz : Nat → Prop) (P : PD) (wk : Nat) (rows : Nat → Option Nat) (σ : SS) (hinj : Inj ad) (hR : RS dA ad Fz P wk rows w σ) : Met l y_S_hasFailed [.code y_S_hasFailed b_S_hasFailed 1 (some .boolean)] ({ frames := 0, cells := 0, slots := 0, locals := 0 }) (mP s0 dC dI w [.ref (ad 0)]) (mQi s0 dC dI (fun r w' => w' = w ∧ ∃ b : Bool, r = nI b.toNat ∧ (b = true ↔ ¬ s_fl σ = 0))) 0 0 (AA s0) := by
  have hR9 := hR
  obtain ⟨⟨g0, g1, g2, g3, g4⟩, hM4, hP6, hnF, hfl⟩ := hR
  refine mt_ofW B0 (by decide) (Nat.le_of_ble_eq_true rfl) (fun p e s m args below meth c ls hargs X hin hl hP => ?_)
  have X9 := X
  obtain ⟨hx, hb, hr, hml, hown, hg, hK, hn, hE, hlocks, hA⟩ := X9
  have hS : va_S (AA s0) s.heap s.heap [] := va_S.rf
  have hl : lv_has ls 1 [(0, .ref (ad 0))] := hl
  refine lv_aload_n hx hb d_S_hasFailed_0 rfl (lv_at hl 0 rfl) ?_
  refine va_get (D := (dC, dI)) (ci := 2) (v := .int (nI (s_fl σ))) (C := R_S) (T := F_S) (N := 9) hx hb hg in_S hown hK (hP.one g0) 0 rfl rfl 8 (by decide) (hg _ k_148) (fun _ h9 => h9) rfl d_S_hasFailed_1 ?_
  refine lv_if_eq (tgt := 11) hx hb d_S_hasFailed_4 (by decide) (fun c1 => ?_) (fun c1 => ?_)
  · refine lv_iconst (v := (nI 0)) hx hb d_S_hasFailed_11 (by decide) ?_
    exact W.zret (v := (nI 0)) hx hb hr (by decide) (fun tS ht hW => ⟨⟨(nI 0), w, rfl, ⟨rfl, false, rfl, ⟨fun h => (by cases h), fun h => absurd ((nI_eq (by omega) (by decide)).mp c1) h⟩⟩, mB_of ht hP⟩, hS.F ht⟩) hS.2.2 d_S_hasFailed_12
  · refine lv_iconst (v := (nI 1)) hx hb d_S_hasFailed_7 (by decide) ?_
    refine lv_goto (tgt := 12) hx hb d_S_hasFailed_8 (by decide) ?_
    exact W.zret (v := (nI 1)) hx hb hr (by decide) (fun tS ht hW => ⟨⟨(nI 1), w, rfl, ⟨rfl, true, rfl, ⟨fun _ h => c1 (by rw [h]; rfl), fun _ => rfl⟩⟩, mB_of ht hP⟩, hS.F ht⟩) hS.2.2 d_S_hasFailed_12
set_option maxHeartbeats 4000000 in
set_option maxRecDepth 100000 in
theorem c_S_fail {l : Launch} {s0 : State} {dC : Nat → ClassId} {dI : Nat → Nat → Nat} {dA : Nat → ClassId} (B0 : BB s0 dC dI dA) (w : fw_W) (ad : Nat → Nat) (Fz : Nat → Prop) (P : PD) (wk : Nat) (rows : Nat → Option Nat) (σ : SS) (n0 : Nat) (hinj : Inj ad) (hR : RS dA ad Fz P wk rows w σ) (hn0 : n0 < 4) : Met l y_S_fail [.code y_S_fail b_S_fail 2 (some .long)] ({ frames := 0, cells := 0, slots := 0, locals := 0 }) (mP s0 dC dI w [.ref (ad 0), .int (nI n0)]) (mQl s0 dC dI (fun r w' => r = 0 ∧ RS dA ad Fz P wk rows w' (sFail n0 σ) ∧ Out ad w w')) 0 0 (AA s0) := by
  have hR9 := hR
  obtain ⟨⟨g0, g1, g2, g3, g4⟩, hM4, hP6, hnF, hfl⟩ := hR
  refine mt_ofW B0 (by decide) (Nat.le_of_ble_eq_true rfl) (fun p e s m args below meth c ls hargs X hin hl hP => ?_)
  have X9 := X
  obtain ⟨hx, hb, hr, hml, hown, hg, hK, hn, hE, hlocks, hA⟩ := X9
  have hS : va_S (AA s0) s.heap s.heap [] := va_S.rf
  have hl : lv_has ls 2 [(0, .ref (ad 0)), (1, .int (nI n0))] := hl
  refine lv_aload_n hx hb d_S_fail_0 rfl (lv_at hl 0 rfl) ?_
  refine va_get (D := (dC, dI)) (ci := 2) (v := .int (nI (s_fl σ))) (C := R_S) (T := F_S) (N := 9) hx hb hg in_S hown hK (hP.one g0) 0 rfl rfl 8 (by decide) (hg _ k_148) (fun _ h9 => h9) rfl d_S_fail_1 ?_
  refine lv_if_ne (tgt := 12) hx hb d_S_fail_4 (by decide) (fun c1 => ?_) (fun c1 => ?_)
  · refine lv_lconst (v := 0) hx hb d_S_fail_12 (by decide) ?_
    have e9 : sFail n0 σ = σ := by unfold sFail; rw [if_neg (fun h => c1 (by rw [h]; rfl))]
    exact W.lret (v := 0) hx hb hr (fun tS ht hW => ⟨⟨0, w, rfl, ⟨rfl, by rw [e9]; exact hR9, fun _ _ => rfl⟩, mB_of ht hP⟩, hS.F ht⟩) hS.2.2 d_S_fail_13
  · refine lv_aload_n hx hb d_S_fail_7 rfl (lv_at hl 0 rfl) ?_
    refine lv_iload_n hx hb d_S_fail_8 rfl (lv_at hl 1 rfl) ?_
    refine fw_put (D := (dC, dI)) (ci := 2) (v := .int (nI n0)) (ty := .int) (C := R_S) (T := F_S) (N := 9) hx hb hg in_S ft_S ft_S_ok n_S hown hK hP hS g0 rfl 8 (by decide) (hg _ k_148) (fun _ h9 => h9) rfl (by decide +kernel) rfl rfl (Nat.le_of_ble_eq_true rfl) d_S_fail_9 (fun w1 H locs ew2 hP hS => ?_)
    have g1 : w1 (ad 1) = some (.inl (dA 2, 12, .inl (zf (s_fin σ)))) := by rw [ew2, va_up_ne _ _ (hinj.ne (i := 1) (j := 0) (by decide) (by decide) (by decide))]; exact g1
    have g2 : w1 (ad 2) = some (.inl (dA 2, 12, .inl (zf (s_opn σ)))) := by rw [ew2, va_up_ne _ _ (hinj.ne (i := 2) (j := 0) (by decide) (by decide) (by decide))]; exact g2
    have g3 : w1 (ad 3) = some (.inl (dA 1, 12, .inr (.inl (s_val σ)))) := by rw [ew2, va_up_ne _ _ (hinj.ne (i := 3) (j := 0) (by decide) (by decide) (by decide))]; exact g3
    have g4 : w1 (ad 4) = some (.inl (dA 3, 192, .inr (.inr (.inr (.inr rows))))) := by rw [ew2, va_up_ne _ _ (hinj.ne (i := 4) (j := 0) (by decide) (by decide) (by decide))]; exact g4
    have g0 : w1 (ad 0) = some (.inr (2, [.ref (ad 9), .ref (ad 5), .int (nI wk), .ref (ad 1), .ref (ad 2), .ref (ad 3), .ref (ad 4), .int (nI (s_ran σ).toNat), .int (nI n0)])) := by rw [ew2]; exact va_up_self _ _ _
    refine lv_lconst (v := 0) hx hb d_S_fail_12 (by decide) ?_
    have c2 : s_fl σ = 0 := (nI_eq (by omega) (by decide)).mp c1
    have hfr : ∀ z, z ≠ ad 0 → w1 z = w z := (fun z z1 => by rw [ew2, va_up_ne _ _ z1])
    have ho : Out ad w w1 := fun q hq => hfr q (hq 0 (by decide))
    have hk : ∀ i, 0 < i → i < 27 → w1 (ad i) = w (ad i) := fun i h1 h2 => hfr _ (hinj.ne h2 (by decide) (by omega))
    exact W.lret (v := 0) hx hb hr (fun tS ht hW => ⟨⟨0, w1, rfl, ⟨rfl, ⟨⟨by unfold sFail; rw [if_pos c2]; exact g0, g1, g2, g3, g4⟩, hM4.kept (fun i h1 h2 => hk i (by omega) (by omega)) (hR9.fz ho) (fun _ h => h), hP6.kept (fun i h1 h2 => hk i (by omega) (by omega)), ⟨hnF.1, fd_kept (hR9.fz ho) hnF.2⟩, by unfold sFail; rw [if_pos c2]; exact hn0⟩, ho⟩, mB_of ht hP⟩, hS.F ht⟩) hS.2.2 d_S_fail_13
set_option maxHeartbeats 4000000 in
set_option maxRecDepth 100000 in
theorem c_S_finish {l : Launch} {s0 : State} {dC : Nat → ClassId} {dI : Nat → Nat → Nat} {dA : Nat → ClassId} (B0 : BB s0 dC dI dA) (w : fw_W) (ad : Nat → Nat) (Fz : Nat → Prop) (P : PD) (wk : Nat) (rows : Nat → Option Nat) (σ : SS) (k : Nat) (v : Int64) (hinj : Inj ad) (hR : RS dA ad Fz P wk rows w σ) (hk : k < 12) : Met l y_S_finish [.code y_S_finish b_S_finish 4 (some .long)] ({ frames := 0, cells := 0, slots := 0, locals := 0 }) (mP s0 dC dI w [.ref (ad 0), .int (nI k), .long v]) (mQl s0 dC dI (fun r w' => r = v ∧ RS dA ad Fz P wk rows w' (sFin k v σ) ∧ Out ad w w')) 0 0 (AA s0) := by
  have hR9 := hR
  obtain ⟨⟨g0, g1, g2, g3, g4⟩, hM4, hP6, hnF, hfl⟩ := hR
  refine mt_ofW B0 (by decide) (Nat.le_of_ble_eq_true rfl) (fun p e s m args below meth c ls hargs X hin hl hP => ?_)
  have X9 := X
  obtain ⟨hx, hb, hr, hml, hown, hg, hK, hn, hE, hlocks, hA⟩ := X9
  have hS : va_S (AA s0) s.heap s.heap [] := va_S.rf
  have hl : lv_has ls 4 [(0, .ref (ad 0)), (1, .int (nI k)), (2, .long v)] := hl
  refine lv_aload_n hx hb d_S_finish_0 rfl (lv_at hl 0 rfl) ?_
  refine va_get (D := (dC, dI)) (ci := 2) (v := .ref (ad 2)) (C := R_S) (T := F_S) (N := 9) hx hb hg in_S hown hK (hP.one g0) 0 rfl rfl 4 (by decide) (hg _ k_143) (fun _ h9 => h9) rfl d_S_finish_1 ?_
  refine lv_iload_n hx hb d_S_finish_4 rfl (lv_at hl 1 rfl) ?_
  refine lv_iconst (v := (nI 0)) hx hb d_S_finish_5 (by decide) ?_
  refine fw_zast (tys := tyl dA) hx hb hK hP hS g2 2 rfl (j := k) (x := (nI 0)) (by omega) (by decide) d_S_finish_6 (fun w3 H locs ew4 hP hS => ?_)
  rw [show (nI 0) = nI (false).toNat from rfl] at ew4
  rw [zf_up] at ew4
  have g0 : w3 (ad 0) = some (.inr (2, [.ref (ad 9), .ref (ad 5), .int (nI wk), .ref (ad 1), .ref (ad 2), .ref (ad 3), .ref (ad 4), .int (nI (s_ran σ).toNat), .int (nI (s_fl σ))])) := by rw [ew4, va_up_ne _ _ (hinj.ne (i := 0) (j := 2) (by decide) (by decide) (by decide))]; exact g0
  have g1 : w3 (ad 1) = some (.inl (dA 2, 12, .inl (zf (s_fin σ)))) := by rw [ew4, va_up_ne _ _ (hinj.ne (i := 1) (j := 2) (by decide) (by decide) (by decide))]; exact g1
  have g3 : w3 (ad 3) = some (.inl (dA 1, 12, .inr (.inl (s_val σ)))) := by rw [ew4, va_up_ne _ _ (hinj.ne (i := 3) (j := 2) (by decide) (by decide) (by decide))]; exact g3
  have g4 : w3 (ad 4) = some (.inl (dA 3, 192, .inr (.inr (.inr (.inr rows))))) := by rw [ew4, va_up_ne _ _ (hinj.ne (i := 4) (j := 2) (by decide) (by decide) (by decide))]; exact g4
  have g2 : w3 (ad 2) = some (.inl (dA 2, 12, .inl (zf (va_up (s_opn σ) k false)))) := by rw [ew4]; exact va_up_self _ _ _
  refine lv_aload_n hx hb d_S_finish_7 rfl (lv_at hl 0 rfl) ?_
  refine va_get (D := (dC, dI)) (ci := 2) (v := .ref (ad 1)) (C := R_S) (T := F_S) (N := 9) hx hb hg in_S hown hK (hP.one g0) 0 rfl rfl 3 (by decide) (hg _ k_142) (fun _ h9 => h9) rfl d_S_finish_8 ?_
  refine lv_iload_n hx hb d_S_finish_11 rfl (lv_at hl 1 rfl) ?_
  refine lv_iconst (v := (nI 1)) hx hb d_S_finish_12 (by decide) ?_
  refine fw_zast (tys := tyl dA) hx hb hK hP hS g1 2 rfl (j := k) (x := (nI 1)) (by omega) (by decide) d_S_finish_13 (fun w5 H locs ew6 hP hS => ?_)
  rw [show (nI 1) = nI (true).toNat from rfl] at ew6
  rw [zf_up] at ew6
  have g0 : w5 (ad 0) = some (.inr (2, [.ref (ad 9), .ref (ad 5), .int (nI wk), .ref (ad 1), .ref (ad 2), .ref (ad 3), .ref (ad 4), .int (nI (s_ran σ).toNat), .int (nI (s_fl σ))])) := by rw [ew6, va_up_ne _ _ (hinj.ne (i := 0) (j := 1) (by decide) (by decide) (by decide))]; exact g0
  have g2 : w5 (ad 2) = some (.inl (dA 2, 12, .inl (zf (va_up (s_opn σ) k false)))) := by rw [ew6, va_up_ne _ _ (hinj.ne (i := 2) (j := 1) (by decide) (by decide) (by decide))]; exact g2
  have g3 : w5 (ad 3) = some (.inl (dA 1, 12, .inr (.inl (s_val σ)))) := by rw [ew6, va_up_ne _ _ (hinj.ne (i := 3) (j := 1) (by decide) (by decide) (by decide))]; exact g3
  have g4 : w5 (ad 4) = some (.inl (dA 3, 192, .inr (.inr (.inr (.inr rows))))) := by rw [ew6, va_up_ne _ _ (hinj.ne (i := 4) (j := 1) (by decide) (by decide) (by decide))]; exact g4
  have g1 : w5 (ad 1) = some (.inl (dA 2, 12, .inl (zf (va_up (s_fin σ) k true)))) := by rw [ew6]; exact va_up_self _ _ _
  refine lv_aload_n hx hb d_S_finish_14 rfl (lv_at hl 0 rfl) ?_
  refine va_get (D := (dC, dI)) (ci := 2) (v := .ref (ad 3)) (C := R_S) (T := F_S) (N := 9) hx hb hg in_S hown hK (hP.one g0) 0 rfl rfl 5 (by decide) (hg _ k_144) (fun _ h9 => h9) rfl d_S_finish_15 ?_
  refine lv_iload_n hx hb d_S_finish_18 rfl (lv_at hl 1 rfl) ?_
  refine lv_lload_n hx hb d_S_finish_19 rfl (lv_at hl 2 rfl) ?_
  refine fw_last (tys := tyl dA) hx hb hK hP hS g3 1 rfl (j := k) (by omega) (by decide) d_S_finish_20 (fun w7 H locs ew8 hP hS => ?_)
  have g0 : w7 (ad 0) = some (.inr (2, [.ref (ad 9), .ref (ad 5), .int (nI wk), .ref (ad 1), .ref (ad 2), .ref (ad 3), .ref (ad 4), .int (nI (s_ran σ).toNat), .int (nI (s_fl σ))])) := by rw [ew8, va_up_ne _ _ (hinj.ne (i := 0) (j := 3) (by decide) (by decide) (by decide))]; exact g0
  have g1 : w7 (ad 1) = some (.inl (dA 2, 12, .inl (zf (va_up (s_fin σ) k true)))) := by rw [ew8, va_up_ne _ _ (hinj.ne (i := 1) (j := 3) (by decide) (by decide) (by decide))]; exact g1
  have g2 : w7 (ad 2) = some (.inl (dA 2, 12, .inl (zf (va_up (s_opn σ) k false)))) := by rw [ew8, va_up_ne _ _ (hinj.ne (i := 2) (j := 3) (by decide) (by decide) (by decide))]; exact g2
  have g4 : w7 (ad 4) = some (.inl (dA 3, 192, .inr (.inr (.inr (.inr rows))))) := by rw [ew8, va_up_ne _ _ (hinj.ne (i := 4) (j := 3) (by decide) (by decide) (by decide))]; exact g4
  have g3 : w7 (ad 3) = some (.inl (dA 1, 12, .inr (.inl (vp_updL (s_val σ) k v)))) := by rw [ew8]; exact va_up_self _ _ _
  refine lv_lload_n hx hb d_S_finish_21 rfl (lv_at hl 2 rfl) ?_
  have hfr : ∀ z, z ≠ ad 1 → z ≠ ad 2 → z ≠ ad 3 → w7 z = w z := (fun z z1 z2 z3 => by rw [ew8, va_up_ne _ _ z3, ew6, va_up_ne _ _ z1, ew4, va_up_ne _ _ z2])
  have ho : Out ad w w7 := fun q hq => hfr q (hq 1 (by decide)) (hq 2 (by decide)) (hq 3 (by decide))
  have hkp : ∀ i, 3 < i → i < 27 → w7 (ad i) = w (ad i) := fun i h1 h2 => hfr _ (hinj.ne h2 (by decide) (by omega)) (hinj.ne h2 (by decide) (by omega)) (hinj.ne h2 (by decide) (by omega))
  exact W.lret (v := v) hx hb hr (fun tS ht hW => ⟨⟨v, w7, rfl, ⟨rfl, ⟨⟨g0, g1, g2, g3, g4⟩, hM4.kept (fun i h1 h2 => hkp i (by omega) (by omega)) (hR9.fz ho) (fun _ h => h), hP6.kept (fun i h1 h2 => hkp i (by omega) (by omega)), ⟨hnF.1, fd_kept (hR9.fz ho) hnF.2⟩, hfl⟩, ho⟩, mB_of ht hP⟩, hS.F ht⟩) hS.2.2 d_S_finish_22
end
section
set_option maxHeartbeats 4000000 in
set_option maxRecDepth 100000 in
theorem c_S_agrees {l : Launch} {s0 : State} {dC : Nat → ClassId} {dI : Nat → Nat → Nat} {dA : Nat → ClassId} (B0 : BB s0 dC dI dA) (w : fw_W) (ad : Nat → Nat) (Fz : Nat → Prop) (P : PD) (wk : Nat) (rows : Nat → Option Nat) (σ : SS) (t : Nat) (T : tv) (n0 : Nat) (IH : VO l s0 dC dI dA ad P wk n0) (hfr0 : fr12 σ ≤ n0) (hinj : Inj ad) (hR : RS dA ad Fz P wk rows w σ) (hT : isT dA Fz w t T) : Met l y_S_agrees [.code y_S_agrees b_S_agrees 3 (some .boolean)] ({ frames := 7 * n0 + 5, cells := 3 * (dm σ (agrV (sv P wk (n0 + 1)) T.2.1 σ).2), slots := 11 * (dm σ (agrV (sv P wk (n0 + 1)) T.2.1 σ).2), locals := 210 * n0 + 90 }) (mP s0 dC dI w [.ref (ad 0), .ref t]) (mQi s0 dC dI (fun r w' => r = nI (agrV (sv P wk (n0 + 1)) T.2.1 σ).1.toNat ∧ VP dA ad P wk Fz rows w σ w' (agrV (sv P wk (n0 + 1)) T.2.1 σ).2)) (3 * (dm σ (agrV (sv P wk (n0 + 1)) T.2.1 σ).2)) (11 * (dm σ (agrV (sv P wk (n0 + 1)) T.2.1 σ).2)) (AA s0) := by
  have hbk := hR.blk
  have hKf : Kp σ (agrV (sv P wk (n0 + 1)) T.2.1 σ).2 := Kp_agr (Kp_sv P wk (n0 + 1)) T.2.1 σ
  generalize hfin : agrV (sv P wk (n0 + 1)) T.2.1 σ = fin9 at hKf
  refine mt_ofW B0 (by decide) (Nat.le_of_ble_eq_true rfl) (fun p e s m args below meth c ls hargs X hin hl hP => ?_)
  have X9 := X
  obtain ⟨hx, hb, hr, hml, hown, hg, hK, hn, hE, hlocks, hA⟩ := X9
  have hS : va_S (AA s0) s.heap s.heap [] := va_S.rf
  have hl : lv_has ls 3 [(0, .ref (ad 0)), (1, .ref t)] := hl
  refine lv_iconst (v := (nI 0)) hx hb d_S_agrees_0 (by decide) ?_
  refine lv_istore_n (lv' := [(2, .int (nI 0)), (0, .ref (ad 0)), (1, .ref t)]) hx hb d_S_agrees_1 rfl hl (by decide) rfl (fun ls hl => ?_)
  have hl0 : T.2.1.length ≤ 3 := by obtain ⟨⟨kt, vt, ⟨fk, fv, -, -, -, h9, -⟩, -⟩, -⟩ := hT; exact h9
  refine W.widen (k := 3 * dm σ σ) (n := 11 * dm σ σ) (Nat.zero_le _) (Nat.zero_le _) ?_
  suffices lp : ∀ (n : Nat) (i : Nat) (τ : SS) (Fz1 : Nat → Prop) (rows1 : Nat → Option Nat), (i ≤ T.2.1.length) → (Kp σ τ) → (agrV (sv P wk (n0 + 1)) (T.2.1.drop i) τ = fin9) → (T.2.1.length < i + n) → ∀ (wl : fw_W) (H : Heap) (locs : List Loc), (VQ dA ad P wk Fz rows w σ Fz1 rows1 wl τ) → fw_P (dC, dI) cls_ (AA s0) wl H → va_S (AA s0) s.heap H locs → ∀ (ls : Array Slot), lv_has ls 3 [(0, .ref (ad 0)), (1, .ref t), (2, .int (nI i))] → W p l e _ s m args below meth c H locs (3 * dm σ τ) (11 * dm σ τ) (MQ below _ args s (3 * dm σ fin9.2) (11 * dm σ fin9.2) (AA s0)) (F0 m 2 ls []) from lp (T.2.1.length + 1) 0 σ Fz rows (Nat.zero_le _) (Kp.rf σ) (by rw [List.drop_zero]; exact hfin) (by omega) _ _ _  (VQ.rf hR) hP hS ls (lv_sub hl [1, 2, 0] rfl)
  intro n
  induction n with
  | zero => intro i τ Fz1 rows1 hi hKp heq hbn; exact absurd hbn (by omega)
  | succ n ih =>
    intro i τ Fz1 rows1 hi hKp heq hbn wl H locs  hV hP hS ls hl
    have hT1 := hV.isT hR hT
    have hR1 := hV.1
    obtain ⟨⟨g0, g1, g2, g3, g4⟩, hM4, hP6, hnF, hfl⟩ := hR1
    have hT2 := hT1
    obtain ⟨⟨kt, vt, ⟨fk, fv, f1, f2, f3, hl3, hL⟩, z1, z2, z3⟩, ho⟩ := hT2
    refine lv_iload_n hx hb d_S_agrees_2 rfl (lv_at hl 2 rfl) ?_
    refine lv_aload_n hx hb d_S_agrees_3 rfl (lv_at hl 1 rfl) ?_
    refine va_getN (D := (dC, dI)) (ci := 3) (v := .int (nI T.2.1.length)) (C := R_T) (T := F_T) (N := 5) hx hb hg in_T hown hK (hP.one f1) 0 rfl rfl 3 (by decide) (hn _ u_413) (fun _ h9 => h9) rfl d_S_agrees_4 ?_
    refine nu_ge (tgt := 45) hx hb (by omega) (by omega) d_S_agrees_7 (by decide) (fun c1 => ?_) (fun c1 => ?_)
    · have hend : (agrV (sv P wk (n0 + 1)) (T.2.1.drop i) τ).1 = if s_fl τ = 0 then true else false := by rw [List.drop_eq_nil_of_le (by omega)]; show decide _ = _; split <;> simp [*]
      have hfin2 : fin9.2 = τ := by rw [← heq, List.drop_eq_nil_of_le (by omega)]; rfl
      refine lv_aload_n hx hb d_S_agrees_45 rfl (lv_at hl 0 rfl) ?_
      have hmem : 3 * dm σ τ + 0 ≤ 3 * dm σ fin9.2 ∧ 11 * dm σ τ + 0 ≤ 11 * dm σ fin9.2 := by rw [hfin2]; exact ⟨Nat.le_refl _, Nat.le_refl _⟩
      refine va_calli (rn_V (n := 0) (As := []) (rest := []) (C := R_S) (T := F_S) (N := 9) (ci := 2) X hP hS (c_S_hasFailed B0 wl ad Fz1 P wk rows1 τ hinj hV.1) k_377 k_379 k_16 k_57 k_380 (by decide +kernel) rfl rfl ⟨by dsimp only; omega, by dsimp only; omega⟩ g0 rfl rfl hl.1 rfl (Nat.le_of_ble_eq_true rfl) d_S_agrees_46 hmem) hS (fun q _ h => h) (fun q h => h) (fun r w9 tS H locs ht hvm hw hB hz1 hk1 hS => ?_)
      have hP : fw_P (dC, dI) cls_ (AA s0) w9 H := by rw [← ht]; exact hB
      obtain ⟨ew8, b8, rfl, hb8⟩ := hw
      rw [ew8] at hP
      refine nu_ifne (tgt := 56) hx hb d_S_agrees_49 (by decide) (fun c8 => ?_) (fun c8 => ?_)
      · refine lv_iconst (v := (nI 0)) hx hb d_S_agrees_56 (by decide) ?_
        refine W.widen (k := 3 * dm σ fin9.2) (n := 11 * dm σ fin9.2) (by omega) (by omega) ?_
        exact W.zret (v := (nI 0)) hx hb hr (by decide) (fun tS ht hW => ⟨⟨(nI 0), wl, rfl, ⟨by rw [← heq, hend, if_neg (hb8.mp c8)]; rfl, by rw [hfin2]; exact hV.p⟩, mB_of ht hP⟩, hS.F ht⟩) hS.2.2 d_S_agrees_57
      · refine lv_iconst (v := (nI 1)) hx hb d_S_agrees_52 (by decide) ?_
        refine lv_goto (tgt := 57) hx hb d_S_agrees_53 (by decide) ?_
        refine W.widen (k := 3 * dm σ fin9.2) (n := 11 * dm σ fin9.2) (by omega) (by omega) ?_
        exact W.zret (v := (nI 1)) hx hb hr (by decide) (fun tS ht hW => ⟨⟨(nI 1), wl, rfl, ⟨by rw [← heq, hend, if_pos (Classical.byContradiction fun h => by rw [hb8.mpr h] at c8; cases c8)]; rfl, by rw [hfin2]; exact hV.p⟩, mB_of ht hP⟩, hS.F ht⟩) hS.2.2 d_S_agrees_57
    · obtain ⟨q9, hq9⟩ : ∃ q, T.2.1[i]? = some q := ⟨_, List.getElem?_eq_getElem c1⟩
      have hdr := agrV_drop (rec := sv P wk (n0 + 1)) hq9
      have hkv := hL i q9 hq9
      have hmd := hKp.2.2.1
      have hmd2 : s_md τ ≤ s_md fin9.2 := by rw [← heq]; exact (Kp_agr (Kp_sv P wk (n0 + 1)) _ τ).2.2.1
      refine lv_aload_n hx hb d_S_agrees_10 rfl (lv_at hl 0 rfl) ?_
      refine va_calli (rn_V (n := 0) (As := []) (rest := []) (C := R_S) (T := F_S) (N := 9) (ci := 2) X hP hS (c_S_hasFailed B0 wl ad Fz1 P wk rows1 τ hinj hV.1) k_377 k_379 k_16 k_57 k_380 (by decide +kernel) rfl rfl ⟨by dsimp only; omega, by dsimp only; omega⟩ g0 rfl rfl hl.1 rfl (Nat.le_of_ble_eq_true rfl) d_S_agrees_11 ⟨by unfold dm; dsimp only; omega, by unfold dm; dsimp only; omega⟩) hS (fun q _ h => h) (fun q h => h) (fun r w10 tS H locs ht hvm hw hB hz1 hk1 hS => ?_)
      have hP : fw_P (dC, dI) cls_ (AA s0) w10 H := by rw [← ht]; exact hB
      obtain ⟨ew8, b8, rfl, hb8⟩ := hw
      rw [ew8] at hP
      refine nu_ifne (tgt := 45) hx hb d_S_agrees_14 (by decide) (fun c2 => ?_) (fun c2 => ?_)
      · have hend : (agrV (sv P wk (n0 + 1)) (T.2.1.drop i) τ).1 = if s_fl τ = 0 then true else false := by rw [hdr, agrV, if_neg (hb8.mp c2), if_neg (hb8.mp c2)]
        have hfin2 : fin9.2 = τ := by rw [← heq, hdr, agrV, if_neg (hb8.mp c2)]
        have hmem : 3 * dm σ τ + 0 + 0 ≤ 3 * dm σ fin9.2 ∧ 11 * dm σ τ + 0 + 0 ≤ 11 * dm σ fin9.2 := by rw [hfin2]; exact ⟨Nat.le_refl _, Nat.le_refl _⟩
        refine lv_aload_n hx hb d_S_agrees_45 rfl (lv_at hl 0 rfl) ?_
        refine va_calli (rn_V (n := 0) (As := []) (rest := []) (C := R_S) (T := F_S) (N := 9) (ci := 2) X hP hS (c_S_hasFailed B0 wl ad Fz1 P wk rows1 τ hinj hV.1) k_377 k_379 k_16 k_57 k_380 (by decide +kernel) rfl rfl ⟨by dsimp only; omega, by dsimp only; omega⟩ g0 rfl rfl hl.1 rfl (Nat.le_of_ble_eq_true rfl) d_S_agrees_46 hmem) hS (fun q _ h => h) (fun q h => h) (fun r w11 tS H locs ht hvm hw hB hz1 hk1 hS => ?_)
        have hP : fw_P (dC, dI) cls_ (AA s0) w11 H := by rw [← ht]; exact hB
        obtain ⟨ew8, b8, rfl, hb8⟩ := hw
        rw [ew8] at hP
        refine nu_ifne (tgt := 56) hx hb d_S_agrees_49 (by decide) (fun c8 => ?_) (fun c8 => ?_)
        · refine lv_iconst (v := (nI 0)) hx hb d_S_agrees_56 (by decide) ?_
          refine W.widen (k := 3 * dm σ fin9.2) (n := 11 * dm σ fin9.2) (by omega) (by omega) ?_
          exact W.zret (v := (nI 0)) hx hb hr (by decide) (fun tS ht hW => ⟨⟨(nI 0), wl, rfl, ⟨by rw [← heq, hend, if_neg (hb8.mp c8)]; rfl, by rw [hfin2]; exact hV.p⟩, mB_of ht hP⟩, hS.F ht⟩) hS.2.2 d_S_agrees_57
        · refine lv_iconst (v := (nI 1)) hx hb d_S_agrees_52 (by decide) ?_
          refine lv_goto (tgt := 57) hx hb d_S_agrees_53 (by decide) ?_
          refine W.widen (k := 3 * dm σ fin9.2) (n := 11 * dm σ fin9.2) (by omega) (by omega) ?_
          exact W.zret (v := (nI 1)) hx hb hr (by decide) (fun tS ht hW => ⟨⟨(nI 1), wl, rfl, ⟨by rw [← heq, hend, if_pos (Classical.byContradiction fun h => by rw [hb8.mpr h] at c8; cases c8)]; rfl, by rw [hfin2]; exact hV.p⟩, mB_of ht hP⟩, hS.F ht⟩) hS.2.2 d_S_agrees_57
      · have hf0 : s_fl τ = 0 := Classical.byContradiction fun h => by rw [hb8.mpr h] at c2; cases c2
        rw [hdr, agrV, if_pos hf0] at heq
        have hKs := Kp_sv P wk (n0 + 1) q9.1 τ
        refine lv_aload_n hx hb d_S_agrees_17 rfl (lv_at hl 0 rfl) ?_
        refine lv_aload_n hx hb d_S_agrees_18 rfl (lv_at hl 1 rfl) ?_
        refine va_getN (D := (dC, dI)) (ci := 3) (v := .ref kt) (C := R_T) (T := F_T) (N := 5) hx hb hg in_T hown hK (hP.one f1) 0 rfl rfl 1 (by decide) (hn _ u_407) (fun _ h9 => h9) rfl d_S_agrees_19 ?_
        refine lv_iload_n hx hb d_S_agrees_22 rfl (lv_at hl 2 rfl) ?_
        refine fw_iald (tys := tyl dA) hx hb hK hP f2 0 rfl (j := i) (by omega) (by decide) d_S_agrees_23 ?_
        rw [hkv.1]
        have hmd3 : s_md (sv P wk (n0 + 1) q9.1 τ).2 ≤ s_md fin9.2 := by
          rw [← heq]; split
          · exact (Kp_agr (Kp_sv P wk (n0 + 1)) _ _).2.2.1
          · exact Nat.le_refl _
        refine va_calll (rn_V (n := 1) (As := [.int (nI q9.1)]) (rest := []) (C := R_S) (T := F_S) (N := 9) (ci := 2) X hP hS (IH wl Fz1 rows1 τ q9.1 hV.1 hkv.2.2 (Nat.le_trans hKp.fr hfr0)) k_356 k_358 k_11 k_57 k_359 (by decide +kernel) rfl rfl ⟨by dsimp only [rmV]; omega, by dsimp only [rmV]; omega⟩ g0 rfl rfl hl.1 rfl (Nat.le_of_ble_eq_true rfl) d_S_agrees_24 ⟨by unfold dm; have := hKs.2.2.1; dsimp only; omega, by unfold dm; have := hKs.2.2.1; dsimp only; omega⟩) hS (fun q _ h => h) (fun q h => h) (fun r w12 tS H locs ht hvm hw hB hz1 hk1 hS => ?_)
        have hP : fw_P (dC, dI) cls_ (AA s0) w12 H := by rw [← ht]; exact hB
        obtain ⟨rfl, Fz2, rows2, hV2⟩ := hw
        have hV3 := VQ.tr hV hV2 hKp.1 hR hbk
        have hT9 := hV3.isT hR hT
        have hR9 := hV3.1
        have f1 : w12 t = some (.inr (3, [.int (nI T.1), .ref kt, .ref vt, .int (nI T.2.1.length), .long T.2.2])) := hV2.2.2.2.1 _ _ f1 (fun i hi e9 => hnF.1 i hi (e9 ▸ z1))
        have f3 : w12 vt = some (.inl (dA 1, 3, .inr (.inl fv))) := hV2.2.2.2.1 _ _ f3 (fun i hi e9 => hnF.1 i hi (e9 ▸ z3))
        refine lv_aload_n hx hb d_S_agrees_27 rfl (lv_at hl 1 rfl) ?_
        refine va_getN (D := (dC, dI)) (ci := 3) (v := .ref vt) (C := R_T) (T := F_T) (N := 5) hx hb hg in_T hown hK (hP.one f1) 0 rfl rfl 2 (by decide) (hn _ u_410) (fun _ h9 => h9) rfl d_S_agrees_28 ?_
        refine lv_iload_n hx hb d_S_agrees_31 rfl (lv_at hl 2 rfl) ?_
        refine fw_lald (tys := tyl dA) hx hb hK hP f3 1 rfl (j := i) (by omega) (by decide) d_S_agrees_32 ?_
        rw [hkv.2.1]
        refine W.lcmp hx hb d_S_agrees_33 ?_
        refine lv_if_eq (tgt := 39) hx hb d_S_agrees_34 (by decide) (fun c3 => ?_) (fun c3 => ?_)
        · rw [if_pos ((lg_cmp_eq _ _).mp c3)] at heq
          refine lv_iinc (v := nI (i + 1)) (lv' := [(2, .int (nI (i + 1))), (0, .ref (ad 0)), (1, .ref t)]) hx hb d_S_agrees_39 hl (k := 2) rfl (nI_add _ 1) (by decide) rfl (fun ls hl => ?_)
          refine lv_goto (tgt := 2) hx hb d_S_agrees_42 (by decide) ?_
          refine W.widen (k := 3 * dm σ (sv P wk (n0 + 1) q9.1 τ).2) (n := 11 * dm σ (sv P wk (n0 + 1) q9.1 τ).2) (by unfold dm; have := hKs.2.2.1; omega) (by unfold dm; have := hKs.2.2.1; omega) ?_
          exact ih (i + 1) ((sv P wk (n0 + 1) q9.1 τ).2) Fz2 rows2 (by omega) (hKp.tr hKs) heq (by omega) _ _ _  hV3 hP hS ls (lv_sub hl [1, 2, 0] rfl)
        · rw [if_neg (fun h => c3 ((lg_cmp_eq _ _).mpr h))] at heq
          refine lv_iconst (v := (nI 0)) hx hb d_S_agrees_37 (by decide) ?_
          refine W.widen (k := 3 * dm σ fin9.2) (n := 11 * dm σ fin9.2) (by rw [← heq]; unfold dm; have := hKs.2.2.1; dsimp only; omega) (by rw [← heq]; unfold dm; have := hKs.2.2.1; dsimp only; omega) ?_
          exact W.zret (v := (nI 0)) hx hb hr (by decide) (fun tS ht hW => ⟨⟨(nI 0), w12, rfl, ⟨by rw [← heq]; rfl, by rw [← heq]; exact hV3.p⟩, mB_of ht hP⟩, hS.F ht⟩) hS.2.2 d_S_agrees_38
end
section
set_option maxHeartbeats 4000000 in
set_option maxRecDepth 100000 in
theorem c_S_agrEntry {l : Launch} {s0 : State} {dC : Nat → ClassId} {dI : Nat → Nat → Nat} {dA : Nat → ClassId} (B0 : BB s0 dC dI dA) (w : fw_W) (ad : Nat → Nat) (Fz : Nat → Prop) (P : PD) (wk : Nat) (rows : Nat → Option Nat) (σ : SS) (k : Nat) (n0 : Nat) (IH : VO l s0 dC dI dA ad P wk n0) (hfr0 : fr12 σ ≤ n0) (hinj : Inj ad) (hR : RS dA ad Fz P wk rows w σ) (hk : k < 12) (hop : s_opn σ k = true) : Met l y_S_agreeingEntry [.code y_S_agreeingEntry b_S_agreeingEntry 6 (some (.object "TraceBuilder$Trace"))] ({ frames := 7 * n0 + 6, cells := 3 * (dm σ (candV (sv P wk (n0 + 1)) (entV k (s_cl σ)) σ).2), slots := 11 * (dm σ (candV (sv P wk (n0 + 1)) (entV k (s_cl σ)) σ).2), locals := 210 * n0 + 120 }) (mP s0 dC dI w [.ref (ad 0), .int (nI k)]) (mQq s0 dC dI (fun r w' => ∃ (Fz' : Nat → Prop) (rows' : Nat → Option Nat), VR dA ad P wk k Fz rows w σ Fz' rows' w' (candV (sv P wk (n0 + 1)) (entV k (s_cl σ)) σ).2 ∧ rT dA Fz' w' r (candV (sv P wk (n0 + 1)) (entV k (s_cl σ)) σ).1)) (3 * (dm σ (candV (sv P wk (n0 + 1)) (entV k (s_cl σ)) σ).2)) (11 * (dm σ (candV (sv P wk (n0 + 1)) (entV k (s_cl σ)) σ).2)) (AA s0) := by
  have hbk := hR.blk
  have hR0 := hR
  have hKf : Kp σ (candV (sv P wk (n0 + 1)) (entV k (s_cl σ)) σ).2 := Kp_cand (Kp_sv P wk (n0 + 1)) _ σ
  generalize hfin : candV (sv P wk (n0 + 1)) (entV k (s_cl σ)) σ = fin9 at hKf
  refine mt_ofW B0 (by decide) (Nat.le_of_ble_eq_true rfl) (fun p e s m args below meth c ls hargs X hin hl hP => ?_)
  have X9 := X
  obtain ⟨hx, hb, hr, hml, hown, hg, hK, hn, hE, hlocks, hA⟩ := X9
  have hS : va_S (AA s0) s.heap s.heap [] := va_S.rf
  have hl : lv_has ls 6 [(0, .ref (ad 0)), (1, .int (nI k))] := hl
  obtain ⟨⟨g0, g1, g2, g3, g4⟩, hM4, hP6, hnF, hfl⟩ := hR
  have hM4w := hM4
  obtain ⟨ft, pl, hM, hft, hpl⟩ := hM4w
  obtain ⟨fc, m1, -⟩ := id hM
  refine lv_iload_n hx hb d_S_agreeingEntry_0 rfl (lv_at hl 1 rfl) ?_
  refine lv_bipush (v := (nI 16)) hx hb d_S_agreeingEntry_1 (by decide) ?_
  refine nu_imul (r := 16 * k) hx hb d_S_agreeingEntry_3 (by omega) ?_
  refine lv_istore_n (lv' := [(2, .int (nI (16 * k))), (0, .ref (ad 0)), (1, .int (nI k))]) hx hb d_S_agreeingEntry_4 rfl hl (by decide) rfl (fun ls hl => ?_)
  refine lv_aload_n hx hb d_S_agreeingEntry_5 rfl (lv_at hl 1 rfl) ?_
  refine va_get (D := (dC, dI)) (ci := 2) (v := .ref (ad 5)) (C := R_S) (T := F_S) (N := 9) hx hb hg in_S hown hK (hP.one g0) 0 rfl rfl 1 (by decide) (hg _ k_140) (fun _ h9 => h9) rfl d_S_agreeingEntry_6 ?_
  refine lv_iload_n hx hb d_S_agreeingEntry_9 rfl (lv_at hl 2 rfl) ?_
  refine lv_aload_n hx hb d_S_agreeingEntry_10 rfl (lv_at hl 1 rfl) ?_
  refine va_get (D := (dC, dI)) (ci := 2) (v := .ref (ad 4)) (C := R_S) (T := F_S) (N := 9) hx hb hg in_S hown hK (hP.one g0) 0 rfl rfl 6 (by decide) (hg _ k_145) (fun _ h9 => h9) rfl d_S_agreeingEntry_11 ?_
  refine lv_iload_n hx hb d_S_agreeingEntry_14 rfl (lv_at hl 0 rfl) ?_
  refine va_calli (rn_VN (n := 3) (As := [.int (nI k), .ref (ad 4), .int (nI (16 * k))]) (rest := []) (C := R_M) (T := F_M) (N := 4) (ci := 0) X hP hS (c_M_copyE B0 w (ad 5) (ad 6) (ad 7) (ad 8) ft pl (s_ta σ) (owF w) k (ad 4) (16 * k) rows hM hpl.o hpl.o12 hk g4 (by omega)) u_385 k_387 k_18 k_56 k_388 (by decide +kernel) rfl rfl ⟨by dsimp only; omega, by dsimp only; omega⟩ m1 rfl rfl hl.1 rfl (Nat.le_of_ble_eq_true rfl) d_S_agreeingEntry_15 ⟨Nat.zero_le _, Nat.zero_le _⟩) hS (fun q _ h => h) (fun q h => h) (fun r w13 tS H locs ht hvm hw hB hz1 hk1 hS => ?_)
  have hP : fw_P (dC, dI) cls_ (AA s0) w13 H := by rw [← ht]; exact hB
  obtain ⟨rfl, ⟨rowsB, gB, hB1, hB2⟩, hB3⟩ := hw
  have hoB : Out ad w w13 := fun q hq => hB3 q (hq 4 (by decide))
  have hkB : ∀ i, i ≠ 4 → i < 27 → w13 (ad i) = w (ad i) := fun i h1 h2 => hB3 _ (hinj.ne h2 (by decide) h1)
  have hRB : RS dA ad Fz P wk rowsB w13 σ := ⟨⟨(hkB 0 (by decide) (by decide)).trans g0, (hkB 1 (by decide) (by decide)).trans g1, (hkB 2 (by decide) (by decide)).trans g2, (hkB 3 (by decide) (by decide)).trans g3, gB⟩, hM4.kept (fun i h1 h2 => hkB i (by omega) (by omega)) (hR0.fz hoB) (fun _ h => h), hP6.kept (fun i h1 h2 => hkB i (by omega) (by omega)), ⟨hnF.1, fd_kept (hR0.fz hoB) hnF.2⟩, hfl⟩
  have hVB : VR dA ad P wk k Fz rows w σ Fz rowsB w13 σ := ⟨hRB, fun _ h => h, fun _ h => Or.inl h, fun q e hq hn2 => (hoB q hn2).trans hq, fun z h1 h2 => hB2 z (by omega)⟩
  have hEL : poolL dA Fz w13 ((pl.filter (fun t => owF w t == k)).reverse) (entV k (s_cl σ)) := (hpl.filt (f := fun o => o == k)).rev.kept (hR0.fz hoB) (fun _ h => h)
  have hln : ((pl.filter (fun t => owF w t == k)).reverse).length ≤ 16 := Nat.le_trans (filt_rev_le pl _) (by obtain ⟨_, _, _, _, _, h9, _⟩ := hM; exact h9)
  generalize hRL : (pl.filter (fun t => owF w t == k)).reverse = RL at hB1 hEL hln ⊢
  generalize hELe : entV k (s_cl σ) = EL at hEL hfin
  obtain ⟨⟨g0, g1, g2, g3, g4⟩, hM4, hP6, hnF, hfl⟩ := (id hRB)
  refine lv_istore_n (lv' := [(3, .int (nI RL.length)), (2, .int (nI (16 * k))), (0, .ref (ad 0)), (1, .int (nI k))]) hx hb d_S_agreeingEntry_18 rfl hl (by decide) rfl (fun ls hl => ?_)
  refine lv_iconst (v := (nI 0)) hx hb d_S_agreeingEntry_19 (by decide) ?_
  refine lv_istore (lv' := [(4, .int (nI 0)), (3, .int (nI RL.length)), (2, .int (nI (16 * k))), (0, .ref (ad 0)), (1, .int (nI k))]) hx hb d_S_agreeingEntry_20 hl (by decide) rfl (fun ls hl => ?_)
  refine W.widen (k := 3 * dm σ σ) (n := 11 * dm σ σ) (Nat.zero_le _) (Nat.zero_le _) ?_
  suffices lp : ∀ (n : Nat) (i : Nat) (τ : SS) (Fz1 : Nat → Prop) (rows1 : Nat → Option Nat), (i ≤ RL.length) → (Kp σ τ) → (candV (sv P wk (n0 + 1)) (EL.drop i) τ = fin9) → (RL.length < i + n) → ∀ (wl : fw_W) (H : Heap) (locs : List Loc), (VQ dA ad P wk Fz rowsB w13 σ Fz1 rows1 wl τ) → fw_P (dC, dI) cls_ (AA s0) wl H → va_S (AA s0) s.heap H locs → ∀ (ls : Array Slot), lv_has ls 6 [(0, .ref (ad 0)), (1, .int (nI k)), (2, .int (nI (16 * k))), (3, .int (nI RL.length)), (4, .int (nI i))] → W p l e _ s m args below meth c H locs (3 * dm σ τ) (11 * dm σ τ) (MQ below _ args s (3 * dm σ fin9.2) (11 * dm σ fin9.2) (AA s0)) (F0 m 22 ls []) from lp (RL.length + 1) 0 σ Fz rowsB (Nat.zero_le _) (Kp.rf σ) (by rw [List.drop_zero]; exact hfin) (by omega) _ _ _  (VQ.rf hRB) hP hS ls (lv_sub hl [3, 4, 2, 1, 0] rfl)
  intro n
  induction n with
  | zero => intro i τ Fz1 rows1 hi hKp heq hbn; exact absurd hbn (by omega)
  | succ n ih =>
    intro i τ Fz1 rows1 hi hKp heq hbn wl H locs  hV hP hS ls hl
    have hRt := hV.1
    obtain ⟨⟨g0, g1, g2, g3, g4⟩, hM4, hP6, hnF, hfl⟩ := hRt
    have hVr := VR.tr hVB hV.r (fun _ h => h) hbk
    have hmd := hKp.2.2.1
    have hmd2 : s_md τ ≤ s_md fin9.2 := by rw [← heq]; exact (Kp_cand (Kp_sv P wk (n0 + 1)) _ τ).2.2.1
    refine lv_iload hx hb d_S_agreeingEntry_22 (lv_at hl 4 rfl) ?_
    refine lv_iload_n hx hb d_S_agreeingEntry_24 rfl (lv_at hl 3 rfl) ?_
    refine nu_ge (tgt := 69) hx hb (by omega) (by omega) d_S_agreeingEntry_25 (by decide) (fun c1 => ?_) (fun c1 => ?_)
    · rw [List.drop_eq_nil_of_le (by rw [← hEL.1]; omega)] at heq
      refine lv_null hx hb d_S_agreeingEntry_69 ?_
      refine W.widen (k := 3 * dm σ fin9.2) (n := 11 * dm σ fin9.2) (by unfold dm; omega) (by unfold dm; omega) ?_
      exact W.aret (v := .null) hx hb hr (Or.inl ⟨_, rfl⟩) (Or.inl rfl) (fun tS ht hW => ⟨⟨none, wl, rfl, ⟨Fz1, rows1, by rw [← heq]; exact hVr, by rw [← heq]; trivial⟩, mB_of ht hP⟩, hS.F ht⟩) hS.2.2 d_S_agreeingEntry_70
    · obtain ⟨t9, ht9⟩ : ∃ t, RL[i]? = some t := ⟨_, List.getElem?_eq_getElem c1⟩
      obtain ⟨T9, hT9⟩ : ∃ T, EL[i]? = some T := ⟨_, List.getElem?_eq_getElem (by rw [← hEL.1]; exact c1)⟩
      have hdr : EL.drop i = T9 :: EL.drop (i + 1) := by
        rw [List.drop_eq_getElem_cons (List.getElem?_eq_some_iff.mp hT9).1]; congr 1; exact (List.getElem?_eq_some_iff.mp hT9).2
      have hi9 := hV.isT hRB (hEL.2 i t9 T9 ht9 hT9)
      have hrow : rows1 (16 * k + i) = some t9 := (hV.2.2.2.2 _ (by rw [show (16 * k + i) / 16 = k by omega]; exact hop)).trans (hB1 i t9 ht9)
      refine lv_aload_n hx hb d_S_agreeingEntry_28 rfl (lv_at hl 0 rfl) ?_
      refine va_calli (rn_V (n := 0) (As := []) (rest := []) (C := R_S) (T := F_S) (N := 9) (ci := 2) X hP hS (c_S_hasFailed B0 wl ad Fz1 P wk rows1 τ hinj hV.1) k_377 k_379 k_16 k_57 k_380 (by decide +kernel) rfl rfl ⟨by dsimp only; omega, by dsimp only; omega⟩ g0 rfl rfl hl.1 rfl (Nat.le_of_ble_eq_true rfl) d_S_agreeingEntry_29 ⟨by unfold dm; dsimp only; omega, by unfold dm; dsimp only; omega⟩) hS (fun q _ h => h) (fun q h => h) (fun r w14 tS H locs ht hvm hw hB hz1 hk1 hS => ?_)
      have hP : fw_P (dC, dI) cls_ (AA s0) w14 H := by rw [← ht]; exact hB
      obtain ⟨ew8, b8, rfl, hb8⟩ := hw
      rw [ew8] at hP
      refine nu_ifne (tgt := 69) hx hb d_S_agreeingEntry_32 (by decide) (fun c2 => ?_) (fun c2 => ?_)
      · rw [hdr, candV, if_neg (hb8.mp c2)] at heq
        refine lv_null hx hb d_S_agreeingEntry_69 ?_
        refine W.widen (k := 3 * dm σ fin9.2) (n := 11 * dm σ fin9.2) (by unfold dm; omega) (by unfold dm; omega) ?_
        exact W.aret (v := .null) hx hb hr (Or.inl ⟨_, rfl⟩) (Or.inl rfl) (fun tS ht hW => ⟨⟨none, wl, rfl, ⟨Fz1, rows1, by rw [← heq]; exact hVr, by rw [← heq]; trivial⟩, mB_of ht hP⟩, hS.F ht⟩) hS.2.2 d_S_agreeingEntry_70
      · have hf0 : s_fl τ = 0 := Classical.byContradiction fun h => by rw [hb8.mpr h] at c2; cases c2
        rw [hdr, candV, if_pos hf0] at heq
        have hKs := Kp_agr (Kp_sv P wk (n0 + 1)) T9.2.1 τ
        have hmd3 : s_md (agrV (sv P wk (n0 + 1)) T9.2.1 τ).2 ≤ s_md fin9.2 := by
          rw [← heq]; split
          · exact Nat.le_refl _
          · exact (Kp_cand (Kp_sv P wk (n0 + 1)) _ _).2.2.1
        refine lv_aload_n hx hb d_S_agreeingEntry_35 rfl (lv_at hl 0 rfl) ?_
        refine va_get (D := (dC, dI)) (ci := 2) (v := .ref (ad 4)) (C := R_S) (T := F_S) (N := 9) hx hb hg in_S hown hK (hP.one g0) 0 rfl rfl 6 (by decide) (hg _ k_145) (fun _ h9 => h9) rfl d_S_agreeingEntry_36 ?_
        refine lv_iload_n hx hb d_S_agreeingEntry_39 rfl (lv_at hl 2 rfl) ?_
        refine lv_iload hx hb d_S_agreeingEntry_40 (lv_at hl 4 rfl) ?_
        refine nu_iadd (r := 16 * k + i) hx hb d_S_agreeingEntry_42 (by omega) ?_
        refine fw_aldq (tys := tyl dA) hx hb hK hP g4 3 rfl (j := 16 * k + i) (by omega) (by decide) d_S_agreeingEntry_43 ?_
        rw [hrow]
        refine lv_astore (lv' := [(5, .ref t9), (0, .ref (ad 0)), (1, .int (nI k)), (2, .int (nI (16 * k))), (3, .int (nI RL.length)), (4, .int (nI i))]) hx hb d_S_agreeingEntry_44 hl (by decide) rfl (fun ls hl => ?_)
        refine lv_aload hx hb d_S_agreeingEntry_46 (lv_at hl 0 rfl) ?_
        refine lv_ifnull hx hb d_S_agreeingEntry_48 ?_
        refine lv_aload_n hx hb d_S_agreeingEntry_51 rfl (lv_at hl 1 rfl) ?_
        refine lv_aload hx hb d_S_agreeingEntry_52 (lv_at hl 0 rfl) ?_
        refine va_calli (rn_V (n := 1) (As := [.ref t9]) (rest := []) (C := R_S) (T := F_S) (N := 9) (ci := 2) X hP hS (c_S_agrees B0 wl ad Fz1 P wk rows1 τ t9 T9 n0 IH (Nat.le_trans hKp.fr hfr0) hinj hV.1 hi9) k_373 k_375 k_15 k_57 k_376 (by decide +kernel) rfl rfl ⟨by dsimp only; omega, by dsimp only; omega⟩ g0 rfl rfl hl.1 rfl (Nat.le_of_ble_eq_true rfl) d_S_agreeingEntry_54 ⟨by unfold dm; have := hKs.2.2.1; dsimp only; omega, by unfold dm; have := hKs.2.2.1; dsimp only; omega⟩) hS (fun q _ h => h) (fun q h => h) (fun r w15 tS H locs ht hvm hw hB hz1 hk1 hS => ?_)
        have hP : fw_P (dC, dI) cls_ (AA s0) w15 H := by rw [← ht]; exact hB
        obtain ⟨rfl, Fz2, rows2, hV2⟩ := hw
        have hV3 := VQ.tr hV hV2 hKp.1 hRB hRB.blk
        refine nu_ifeq (tgt := 63) hx hb d_S_agreeingEntry_57 (by decide) (fun c3 => ?_) (fun c3 => ?_)
        · rw [if_neg (by rw [c3]; decide)] at heq
          refine lv_iinc (v := nI (i + 1)) (lv' := [(4, .int (nI (i + 1))), (5, .ref t9), (0, .ref (ad 0)), (1, .int (nI k)), (2, .int (nI (16 * k))), (3, .int (nI RL.length))]) hx hb d_S_agreeingEntry_63 hl (k := 5) rfl (nI_add _ 1) (by decide) rfl (fun ls hl => ?_)
          refine lv_goto (tgt := 22) hx hb d_S_agreeingEntry_66 (by decide) ?_
          refine W.widen (k := 3 * dm σ (agrV (sv P wk (n0 + 1)) T9.2.1 τ).2) (n := 11 * dm σ (agrV (sv P wk (n0 + 1)) T9.2.1 τ).2) (by unfold dm; have := hKs.2.2.1; omega) (by unfold dm; have := hKs.2.2.1; omega) ?_
          exact ih (i + 1) ((agrV (sv P wk (n0 + 1)) T9.2.1 τ).2) Fz2 rows2 (by omega) (hKp.tr hKs) heq (by omega) _ _ _  hV3 hP hS ls (lv_sub hl [2, 3, 4, 5, 0] rfl)
        · rw [if_pos c3] at heq
          refine lv_aload hx hb d_S_agreeingEntry_60 (lv_at hl 0 rfl) ?_
          refine W.widen (k := 3 * dm σ fin9.2) (n := 11 * dm σ fin9.2) (by unfold dm; have := hKs.2.2.1; omega) (by unfold dm; have := hKs.2.2.1; omega) ?_
          exact W.aret (v := .ref t9) hx hb hr (Or.inl ⟨_, rfl⟩) (Or.inr ⟨_, rfl⟩) (fun tS ht hW => ⟨⟨(some t9), w15, rfl, ⟨Fz2, rows2, by rw [← heq]; exact VR.tr hVB hV3.r (fun _ h => h) hbk, by rw [← heq]; exact VQ.isT hV.1 hV2 hi9⟩, mB_of ht hP⟩, hS.F ht⟩) hS.2.2 d_S_agreeingEntry_62
end
section
/-- a rule is running: its Trace at h, kt, vt, its own alone -/
def RU (dA : Nat → ClassId) (ad : Nat → Nat) (P : PD) (wk h kt vt k : Nat) (Fz : Nat → Prop) (rows : Nat → Option Nat) (w : fw_W) (x : XS) : Prop :=
  RS dA ad Fz P wk rows w x.2 ∧ aT dA w h kt vt k x.1 0 ∧ ¬ Fz h ∧ ¬ Fz kt ∧ ¬ Fz vt ∧ ∀ i, i < 27 → h ≠ ad i ∧ kt ≠ ad i ∧ vt ≠ ad i
def VX (dA : Nat → ClassId) (ad : Nat → Nat) (P : PD) (wk h kt vt k : Nat) (Fz : Nat → Prop) (rows : Nat → Option Nat) (w : fw_W) (x : XS) (Fz' : Nat → Prop) (rows' : Nat → Option Nat) (w' : fw_W) (x' : XS) : Prop :=
  RU dA ad P wk h kt vt k Fz' rows' w' x' ∧ (∀ q, Fz q → Fz' q) ∧ (∀ q, Fz' q → Fz q ∨ w q = none) ∧ (∀ (q : Nat) (e : va_E), w q = some e → (∀ i, i < 27 → q ≠ ad i) → q ≠ h → q ≠ kt → q ≠ vt → w' q = some e) ∧ ∀ z, s_opn x.2 (z / 16) = true → rows' z = rows z
section VXS
variable {dA : Nat → ClassId} {ad : Nat → Nat} {P : PD} {wk h kt vt k : Nat} {Fz Fz1 Fz2 : Nat → Prop} {rows rows1 rows2 : Nat → Option Nat} {w w1 w2 : fw_W} {x x1 x2 : XS} {σ σ1 : SS}
theorem VX.rf (hU : RU dA ad P wk h kt vt k Fz rows w x) : VX dA ad P wk h kt vt k Fz rows w x Fz rows w x := ⟨hU, fun _ h => h, fun _ h => Or.inl h, fun _ _ h _ _ _ _ => h, fun _ _ => rfl⟩
theorem aT.in {o : Nat} {L : List (Nat × Int64)} {res : Int64} (hT : aT dA w h kt vt o L res) : w h ≠ none ∧ w kt ≠ none ∧ w vt ≠ none := by
  obtain ⟨fk, fv, a, b, c, -⟩ := hT
  exact ⟨(by rw [a]; simp), (by rw [b]; simp), (by rw [c]; simp)⟩
theorem VX.tr (h1 : VX dA ad P wk h kt vt k Fz rows w x Fz1 rows1 w1 x1) (h2 : VX dA ad P wk h kt vt k Fz1 rows1 w1 x1 Fz2 rows2 w2 x2) (hk : ∀ j, s_opn x.2 j = true → s_opn x1.2 j = true) : VX dA ad P wk h kt vt k Fz rows w x Fz2 rows2 w2 x2 := by
  obtain ⟨a1, a2, a3, a4, a5⟩ := h1
  obtain ⟨b1, b2, b3, b4, b5⟩ := h2
  refine ⟨b1, fun q hq => b2 q (a2 q hq), fun q hq => ?_, fun q e hq hn n1 n2 n3 => b4 q e (a4 q e hq hn n1 n2 n3) hn n1 n2 n3, fun z hz => (b5 z (hk _ hz)).trans (a5 z hz)⟩
  rcases b3 q hq with h9 | h9
  · exact a3 q h9
  · cases hw : w q with
    | none => exact Or.inr rfl
    | some e =>
      by_cases hn : ∀ i, i < 27 → q ≠ ad i
      · have n1 : q ≠ h := fun e9 => b1.2.2.1 (e9 ▸ hq)
        have n2 : q ≠ kt := fun e9 => b1.2.2.2.1 (e9 ▸ hq)
        have n3 : q ≠ vt := fun e9 => b1.2.2.2.2.1 (e9 ▸ hq)
        rw [a4 q e hw hn n1 n2 n3] at h9; cases h9
      · exact absurd hq (fun hq => hn (fun i hi e9 => b1.1.2.2.2.1.1 i hi (e9 ▸ hq)))
theorem RU.step (hU : RU dA ad P wk h kt vt k Fz rows w x) (hV : VQ dA ad P wk Fz rows w x.2 Fz1 rows1 w1 σ1) : VX dA ad P wk h kt vt k Fz rows w x Fz1 rows1 w1 (x.1, σ1) := by
  obtain ⟨u1, u2, u3, u4, u5, u6⟩ := hU
  have hin := u2.in
  exact ⟨⟨hV.1, VQ.aT hV u2 (fun i hi => (u6 i hi).1) (fun i hi => (u6 i hi).2.1) (fun i hi => (u6 i hi).2.2), fun h9 => (hV.2.2.1 _ h9).elim u3 hin.1, fun h9 => (hV.2.2.1 _ h9).elim u4 hin.2.1, fun h9 => (hV.2.2.1 _ h9).elim u5 hin.2.2, u6⟩, hV.2.1, hV.2.2.1, fun q e hq hn _ _ _ => hV.2.2.2.1 q e hq hn, hV.2.2.2.2⟩
theorem RS.keptO (hR : RS dA ad Fz P wk rows w σ) (hk : ∀ i, i < 27 → w1 (ad i) = w (ad i)) (hz : ∀ q, Fz q → w1 q = w q) : RS dA ad Fz P wk rows w1 σ := ⟨hR.1.kept (fun i hi => hk i (by omega)), hR.2.1.kept (fun i _ hi => hk i (by omega)) hz (fun _ h => h), hR.2.2.1.kept (fun i _ hi => hk i hi), ⟨hR.2.2.2.1.1, fd_kept hz hR.2.2.2.1.2⟩, hR.2.2.2.2⟩
theorem RU.note {L : List (Nat × Int64)} (hU : RU dA ad P wk h kt vt k Fz rows w x) (hT : aT dA w1 h kt vt k L 0) (hfr : ∀ z, z ≠ h → z ≠ kt → z ≠ vt → w1 z = w z) : VX dA ad P wk h kt vt k Fz rows w x Fz rows w1 (L, x.2) := by
  obtain ⟨u1, u2, u3, u4, u5, u6⟩ := hU
  exact ⟨⟨u1.keptO (fun i hi => hfr _ (Ne.symm (u6 i hi).1) (Ne.symm (u6 i hi).2.1) (Ne.symm (u6 i hi).2.2)) (fun q hq => hfr q (fun e => u3 (e ▸ hq)) (fun e => u4 (e ▸ hq)) (fun e => u5 (e ▸ hq))), hT, u3, u4, u5, u6⟩, fun _ h => h, fun _ h => Or.inl h, fun q e hq _ n1 n2 n3 => (hfr q n1 n2 n3).trans hq, fun _ _ => rfl⟩
theorem RS.tal (hR : RS dA ad Fz P wk rows w σ) (hinj : Inj ad) {i : Nat} (hw : w1 = va_up w (ad 8) (some (.inl (dA 0, 11, .inl (upd (s_ta σ) i (s_ta σ i + nI 1)))))) : RS dA ad Fz P wk rows w1 (sTal i σ) ∧ Out ad w w1 := by
  have hfr : ∀ z, z ≠ ad 8 → w1 z = w z := fun z hz => by rw [hw, va_up_ne _ _ hz]
  have ho : Out ad w w1 := fun q hq => hfr q (hq 8 (by decide))
  have hk : ∀ j, j ≠ 8 → j < 27 → w1 (ad j) = w (ad j) := fun j h1 h2 => hfr _ (hinj.ne h2 (by decide) h1)
  have hz := hR.fz ho
  obtain ⟨s5, ⟨ft, pl, ⟨fc, m1, m2, m3, m4, m5⟩, hft, hpl⟩, p6, hnF, hfl⟩ := hR
  exact ⟨⟨s5.kept (fun j hj => hk j (by omega) (by omega)), ⟨ft, pl, ⟨fc, (hk 5 (by decide) (by decide)).trans m1, (hk 6 (by decide) (by decide)).trans m2, (hk 7 (by decide) (by decide)).trans m3, by rw [hw]; exact va_up_self _ _ _, m5⟩, fun j hj => (hft j hj).kept hz (fun _ h => h), hpl.kept hz (fun _ h => h)⟩, p6.kept (fun j h1 h2 => hk j (by omega) h2), ⟨hnF.1, fd_kept hz hnF.2⟩, hfl⟩, ho⟩
end VXS
end
section
set_option maxHeartbeats 4000000 in
set_option maxRecDepth 100000 in
theorem c_S_ask {l : Launch} {s0 : State} {dC : Nat → ClassId} {dI : Nat → Nat → Nat} {dA : Nat → ClassId} (B0 : BB s0 dC dI dA) (w : fw_W) (ad : Nat → Nat) (Fz : Nat → Prop) (P : PD) (wk : Nat) (rows : Nat → Option Nat) (h kt vt k : Nat) (x : XS) (q : Nat) (n0 : Nat) (IH : VO l s0 dC dI dA ad P wk n0) (hfr0 : fr12 x.2 ≤ n0) (hinj : Inj ad) (hU : RU dA ad P wk h kt vt k Fz rows w x) (hk : k < 12) (hpo : p_ok P) (hkd : p_kd P k = 2) (hq : q < 12) : Met l y_S_ask [.code y_S_ask b_S_ask 5 (some .long)] ({ frames := 7 * n0 + 5, cells := 3 * (dm x.2 (askV (sv P wk (n0 + 1)) q x).2.2), slots := 11 * (dm x.2 (askV (sv P wk (n0 + 1)) q x).2.2), locals := 210 * n0 + 90 }) (mP s0 dC dI w [.ref (ad 0), .ref h, .int (nI q)]) (mQl s0 dC dI (fun r w' => r = (askV (sv P wk (n0 + 1)) q x).1 ∧ ∃ (Fz' : Nat → Prop) (rows' : Nat → Option Nat), VX dA ad P wk h kt vt k Fz rows w x Fz' rows' w' (askV (sv P wk (n0 + 1)) q x).2)) (3 * (dm x.2 (askV (sv P wk (n0 + 1)) q x).2.2)) (11 * (dm x.2 (askV (sv P wk (n0 + 1)) q x).2.2)) (AA s0) := by
  refine mt_ofW B0 (by decide) (Nat.le_of_ble_eq_true rfl) (fun p e s m args below meth c ls hargs X hin hl hP => ?_)
  have X9 := X
  obtain ⟨hx, hb, hr, hml, hown, hg, hK, hn, hE, hlocks, hA⟩ := X9
  have hS : va_S (AA s0) s.heap s.heap [] := va_S.rf
  have hl : lv_has ls 5 [(0, .ref (ad 0)), (1, .ref h), (2, .int (nI q))] := hl
  obtain ⟨⟨g0, g1, g2, g3, g4⟩, hM4, hP6, hnF, hfl⟩ := (id hU.1)
  refine lv_aload_n hx hb d_S_ask_0 rfl (lv_at hl 0 rfl) ?_
  refine va_calli (rn_V (n := 0) (As := []) (rest := []) (C := R_S) (T := F_S) (N := 9) (ci := 2) X hP hS (c_S_hasFailed B0 w ad Fz P wk rows x.2 hinj hU.1) k_377 k_379 k_16 k_57 k_380 (by decide +kernel) rfl rfl ⟨by dsimp only; omega, by dsimp only; omega⟩ g0 rfl rfl hl.1 rfl (Nat.le_of_ble_eq_true rfl) d_S_ask_1 ⟨Nat.zero_le _, Nat.zero_le _⟩) hS (fun q _ h => h) (fun q h => h) (fun r w16 tS H locs ht hvm hw hB hz1 hk1 hS => ?_)
  have hP : fw_P (dC, dI) cls_ (AA s0) w16 H := by rw [← ht]; exact hB
  obtain ⟨ew8, b8, rfl, hb8⟩ := hw
  rw [ew8] at hP
  refine nu_ifeq (tgt := 9) hx hb d_S_ask_4 (by decide) (fun c1 => ?_) (fun c1 => ?_)
  · have hf0 : s_fl x.2 = 0 := Classical.byContradiction fun h => by rw [hb8.mpr h] at c1; cases c1
    have esp : askV (sv P wk (n0 + 1)) q x = (((sv P wk (n0 + 1)) q (sTal 0 x.2)).1, noteL x.1 q ((sv P wk (n0 + 1)) q (sTal 0 x.2)).1, ((sv P wk (n0 + 1)) q (sTal 0 x.2)).2) := by rw [askV, if_pos hf0]
    rw [esp]
    have hKs := Kp_sv P wk (n0 + 1) q (sTal 0 x.2)
    have hmd0 : s_md (sTal 0 x.2) = s_md x.2 := rfl
    obtain ⟨ft, pl, hM, hft, hpl⟩ := id hM4
    obtain ⟨fc, m1, m2, m3, m4, m16, mpl, mcn⟩ := id hM
    refine lv_aload_n hx hb d_S_ask_9 rfl (lv_at hl 0 rfl) ?_
    refine va_get (D := (dC, dI)) (ci := 2) (v := .ref (ad 5)) (C := R_S) (T := F_S) (N := 9) hx hb hg in_S hown hK (hP.one g0) 0 rfl rfl 1 (by decide) (hg _ k_140) (fun _ h9 => h9) rfl d_S_ask_10 ?_
    refine va_getN (D := (dC, dI)) (ci := 0) (v := .ref (ad 8)) (C := R_M) (T := F_M) (N := 4) hx hb hg in_M hown hK (hP.one m1) 0 rfl rfl 3 (by decide) (hn _ u_122) (fun _ h9 => h9) rfl d_S_ask_13 ?_
    refine lv_iconst (v := (nI 0)) hx hb d_S_ask_16 (by decide) ?_
    refine lv_dup2_11 hx hb d_S_ask_17 rfl rfl ?_
    refine fw_iald (tys := tyl dA) hx hb hK hP m4 0 rfl (j := 0) (by omega) (by decide) d_S_ask_18 ?_
    refine lv_iconst (v := (nI 1)) hx hb d_S_ask_19 (by decide) ?_
    refine lv_iadd hx hb d_S_ask_20 ?_
    refine fw_iast (tys := tyl dA) hx hb hK hP hS m4 0 rfl (j := 0) (x := (((s_ta x.2) 0) + (nI 1))) (by omega) (by decide) d_S_ask_21 (fun w17 H locs ew18 hP hS => ?_)
    have g0 : w17 (ad 0) = some (.inr (2, [.ref (ad 9), .ref (ad 5), .int (nI wk), .ref (ad 1), .ref (ad 2), .ref (ad 3), .ref (ad 4), .int (nI (s_ran x.2).toNat), .int (nI (s_fl x.2))])) := by rw [ew18, va_up_ne _ _ (hinj.ne (i := 0) (j := 8) (by decide) (by decide) (by decide))]; exact g0
    have g1 : w17 (ad 1) = some (.inl (dA 2, 12, .inl (zf (s_fin x.2)))) := by rw [ew18, va_up_ne _ _ (hinj.ne (i := 1) (j := 8) (by decide) (by decide) (by decide))]; exact g1
    have g2 : w17 (ad 2) = some (.inl (dA 2, 12, .inl (zf (s_opn x.2)))) := by rw [ew18, va_up_ne _ _ (hinj.ne (i := 2) (j := 8) (by decide) (by decide) (by decide))]; exact g2
    have g3 : w17 (ad 3) = some (.inl (dA 1, 12, .inr (.inl (s_val x.2)))) := by rw [ew18, va_up_ne _ _ (hinj.ne (i := 3) (j := 8) (by decide) (by decide) (by decide))]; exact g3
    have g4 : w17 (ad 4) = some (.inl (dA 3, 192, .inr (.inr (.inr (.inr rows))))) := by rw [ew18, va_up_ne _ _ (hinj.ne (i := 4) (j := 8) (by decide) (by decide) (by decide))]; exact g4
    have m1 : w17 (ad 5) = some (.inr (0, [.ref (ad 6), .ref (ad 7), .int (nI pl.length), .ref (ad 8)])) := by rw [ew18, va_up_ne _ _ (hinj.ne (i := 5) (j := 8) (by decide) (by decide) (by decide))]; exact m1
    have m2 : w17 (ad 6) = some (.inl (dA 3, 24, .inr (.inr (.inr (.inr ft))))) := by rw [ew18, va_up_ne _ _ (hinj.ne (i := 6) (j := 8) (by decide) (by decide) (by decide))]; exact m2
    have m3 : w17 (ad 7) = some (.inl (dA 3, 16, .inr (.inr (.inr (.inr fc))))) := by rw [ew18, va_up_ne _ _ (hinj.ne (i := 7) (j := 8) (by decide) (by decide) (by decide))]; exact m3
    have m4 : w17 (ad 8) = some (.inl (dA 0, 11, .inl (upd (s_ta x.2) 0 (((s_ta x.2) 0) + (nI 1))))) := by rw [ew18]; exact va_up_self _ _ _
    obtain ⟨hRt, hot⟩ := hU.1.tal hinj ew18
    have hVt : VQ dA ad P wk Fz rows w x.2 Fz rows w17 (sTal 0 x.2) := VQ.of hRt hot
    have hX1 := hU.step hVt
    refine lv_aload_n hx hb d_S_ask_22 rfl (lv_at hl 0 rfl) ?_
    refine lv_iload_n hx hb d_S_ask_23 rfl (lv_at hl 2 rfl) ?_
    refine va_calll (rn_V (n := 1) (As := [.int (nI q)]) (rest := []) (C := R_S) (T := F_S) (N := 9) (ci := 2) X hP hS (IH w17 Fz rows (sTal 0 x.2) q hRt hq (by rw [show fr12 (sTal 0 x.2) = fr12 x.2 from frS_same rfl rfl 12]; exact hfr0)) k_356 k_358 k_11 k_57 k_359 (by decide +kernel) rfl rfl ⟨by dsimp only [rmV]; omega, by dsimp only [rmV]; omega⟩ g0 rfl rfl hl.1 rfl (Nat.le_of_ble_eq_true rfl) d_S_ask_24 ⟨by dsimp only [dm]; omega, by dsimp only [dm]; omega⟩) hS (fun q _ h => h) (fun q h => h) (fun r w19 tS H locs ht hvm hw hB hz1 hk1 hS => ?_)
    have hP : fw_P (dC, dI) cls_ (AA s0) w19 H := by rw [← ht]; exact hB
    obtain ⟨rfl, Fz2, rows2, hV2⟩ := hw
    have hX2 := VX.tr hX1 (hX1.1.step hV2) (fun _ h => h)
    obtain ⟨fk, fv, f1, f2, f3, hl3, hL⟩ := id hX2.1.2.1
    refine lv_lstore_n (lv' := [(3, .long (((sv P wk (n0 + 1)) q (sTal 0 x.2)).1)), (0, .ref (ad 0)), (1, .ref h), (2, .int (nI q))]) hx hb d_S_ask_27 rfl hl (by decide) rfl (fun ls hl => ?_)
    refine lv_aload_n hx hb d_S_ask_28 rfl (lv_at hl 2 rfl) ?_
    refine lv_iload_n hx hb d_S_ask_29 rfl (lv_at hl 3 rfl) ?_
    refine lv_lload_n hx hb d_S_ask_30 rfl (lv_at hl 0 rfl) ?_
    refine va_callv (rn_VN (n := 2) (As := [.int (nI q), .long (((sv P wk (n0 + 1)) q (sTal 0 x.2)).1)]) (rest := []) (C := R_T) (T := F_T) (N := 5) (ci := 3) X hP hS (c_T_note B0 w19 h kt vt k q x.1 0 (sv P wk (n0 + 1) q (sTal 0 x.2)).1 hX2.1.2.1 hq) u_444 k_446 k_25 k_64 k_447 (by decide +kernel) rfl rfl ⟨by dsimp only; omega, by dsimp only; omega⟩ f1 rfl rfl hl.1 rfl (Nat.le_of_ble_eq_true rfl) d_S_ask_31 ⟨by dsimp only [dm]; omega, by dsimp only [dm]; omega⟩) hS (fun q _ h => h) (fun q h => h) (fun w20 tS H locs ht hvm hw hB hz1 hk1 hS => ?_)
    have hP : fw_P (dC, dI) cls_ (AA s0) w20 H := by rw [← ht]; exact hB
    obtain ⟨hT3, hfr3⟩ := hw
    have hX3 := VX.tr hX2 (hX2.1.note hT3 hfr3) (fun j hj => hKs.1 j hj)
    refine lv_lload_n hx hb d_S_ask_34 rfl (lv_at hl 0 rfl) ?_
    refine W.widen (k := 3 * dm x.2 ((sv P wk (n0 + 1)) q (sTal 0 x.2)).2) (n := 11 * dm x.2 ((sv P wk (n0 + 1)) q (sTal 0 x.2)).2) (by unfold dm; omega) (by unfold dm; omega) ?_
    exact W.lret (v := ((sv P wk (n0 + 1)) q (sTal 0 x.2)).1) hx hb hr (fun tS ht hW => ⟨⟨((sv P wk (n0 + 1)) q (sTal 0 x.2)).1, w20, rfl, ⟨rfl, Fz2, rows2, hX3⟩, mB_of ht hP⟩, hS.F ht⟩) hS.2.2 d_S_ask_35
  · have esp : askV (sv P wk (n0 + 1)) q x = (0, x) := by rw [askV, if_neg (hb8.mp c1)]
    rw [esp]
    refine lv_lconst (v := 0) hx hb d_S_ask_7 (by decide) ?_
    refine W.widen (k := 3 * dm x.2 x.2) (n := 11 * dm x.2 x.2) (by omega) (by omega) ?_
    exact W.lret (v := 0) hx hb hr (fun tS ht hW => ⟨⟨0, w, rfl, ⟨rfl, Fz, rows, VX.rf hU⟩, mB_of ht hP⟩, hS.F ht⟩) hS.2.2 d_S_ask_8
set_option maxHeartbeats 4000000 in
set_option maxRecDepth 100000 in
theorem c_S_askPart {l : Launch} {s0 : State} {dC : Nat → ClassId} {dI : Nat → Nat → Nat} {dA : Nat → ClassId} (B0 : BB s0 dC dI dA) (w : fw_W) (ad : Nat → Nat) (Fz : Nat → Prop) (P : PD) (wk : Nat) (rows : Nat → Option Nat) (h kt vt k : Nat) (x : XS) (i : Nat) (n0 : Nat) (IH : VO l s0 dC dI dA ad P wk n0) (hfr0 : fr12 x.2 ≤ n0) (hinj : Inj ad) (hU : RU dA ad P wk h kt vt k Fz rows w x) (hk : k < 12) (hpo : p_ok P) (hkd : p_kd P k = 2) (hi : i < p_cn P k) : Met l y_S_askPart [.code y_S_askPart b_S_askPart 3 (some .long)] ({ frames := 7 * n0 + 6, cells := 3 * (dm x.2 (askV (sv P wk (n0 + 1)) (p_pt P k i) x).2.2), slots := 11 * (dm x.2 (askV (sv P wk (n0 + 1)) (p_pt P k i) x).2.2), locals := 210 * n0 + 120 }) (mP s0 dC dI w [.ref (ad 0), .ref h, .int (nI i)]) (mQl s0 dC dI (fun r w' => r = (askV (sv P wk (n0 + 1)) (p_pt P k i) x).1 ∧ ∃ (Fz' : Nat → Prop) (rows' : Nat → Option Nat), VX dA ad P wk h kt vt k Fz rows w x Fz' rows' w' (askV (sv P wk (n0 + 1)) (p_pt P k i) x).2)) (3 * (dm x.2 (askV (sv P wk (n0 + 1)) (p_pt P k i) x).2.2)) (11 * (dm x.2 (askV (sv P wk (n0 + 1)) (p_pt P k i) x).2.2)) (AA s0) := by
  have hpk := (hpo k hk).2 hkd
  have hpi := hpk.2.2.2.1 i hi
  have hc3 := hpk.2.1
  refine mt_ofW B0 (by decide) (Nat.le_of_ble_eq_true rfl) (fun p e s m args below meth c ls hargs X hin hl hP => ?_)
  have X9 := X
  obtain ⟨hx, hb, hr, hml, hown, hg, hK, hn, hE, hlocks, hA⟩ := X9
  have hS : va_S (AA s0) s.heap s.heap [] := va_S.rf
  have hl : lv_has ls 3 [(0, .ref (ad 0)), (1, .ref h), (2, .int (nI i))] := hl
  obtain ⟨⟨g0, g1, g2, g3, g4⟩, hM4, hP6, hnF, hfl⟩ := (id hU.1)
  obtain ⟨p0, p1, p2, p3, ⟨rowsG, p4, hrowsG⟩, p5, p6, -⟩ := id hP6
  have p5k := p5 k hk
  have hrwk := hrowsG k hk
  obtain ⟨fk, fv, f1, f2, f3, hl3, hL⟩ := id hU.2.1
  refine lv_aload_n hx hb d_S_askPart_0 rfl (lv_at hl 0 rfl) ?_
  refine lv_aload_n hx hb d_S_askPart_1 rfl (lv_at hl 1 rfl) ?_
  refine lv_aload_n hx hb d_S_askPart_2 rfl (lv_at hl 0 rfl) ?_
  refine va_get (D := (dC, dI)) (ci := 2) (v := .ref (ad 9)) (C := R_S) (T := F_S) (N := 9) hx hb hg in_S hown hK (hP.one g0) 0 rfl rfl 0 (by decide) (hg _ k_139) (fun _ h9 => h9) rfl d_S_askPart_3 ?_
  refine va_getN (D := (dC, dI)) (ci := 1) (v := .ref (ad 13)) (C := R_P) (T := F_P) (N := 5) hx hb hg in_P hown hK (hP.one p0) 0 rfl rfl 3 (by decide) (hn _ u_92) (fun _ h9 => h9) rfl d_S_askPart_6 ?_
  refine lv_aload_n hx hb d_S_askPart_9 rfl (lv_at hl 1 rfl) ?_
  refine va_getN (D := (dC, dI)) (ci := 3) (v := .int (nI k)) (C := R_T) (T := F_T) (N := 5) hx hb hg in_T hown hK (hP.one f1) 0 rfl rfl 0 (by decide) (hn _ u_404) (fun _ h9 => h9) rfl d_S_askPart_10 ?_
  refine fw_aldg (tys := tyl dA) hx hb hK hP p4 4 rfl (j := k) (by omega) (by decide) d_S_askPart_13 ?_
  rw [hrwk]
  refine lv_iload_n hx hb d_S_askPart_14 rfl (lv_at hl 2 rfl) ?_
  refine fw_iald (tys := tyl dA) hx hb hK hP p5k 0 rfl (j := i) (by omega) (by decide) d_S_askPart_15 ?_
  rw [hpi.1]
  refine va_calll (rn_V (n := 2) (As := [.ref h, .int (nI (p_pt P k i))]) (rest := []) (C := R_S) (T := F_S) (N := 9) (ci := 2) X hP hS (c_S_ask B0 w ad Fz P wk rows h kt vt k x (p_pt P k i) n0 IH hfr0 hinj hU hk hpo hkd hpi.2) k_440 k_442 k_24 k_57 k_443 (by decide +kernel) rfl rfl ⟨by dsimp only; omega, by dsimp only; omega⟩ g0 rfl rfl hl.1 rfl (Nat.le_of_ble_eq_true rfl) d_S_askPart_16 ⟨by dsimp only; omega, by dsimp only; omega⟩) hS (fun q _ h => h) (fun q h => h) (fun r w21 tS H locs ht hvm hw hB hz1 hk1 hS => ?_)
  have hP : fw_P (dC, dI) cls_ (AA s0) w21 H := by rw [← ht]; exact hB
  refine W.widen (k := 3 * dm x.2 (askV (sv P wk (n0 + 1)) (p_pt P k i) x).2.2) (n := 11 * dm x.2 (askV (sv P wk (n0 + 1)) (p_pt P k i) x).2.2) (by omega) (by omega) ?_
  exact W.lret (v := r) hx hb hr (fun tS ht hW => ⟨⟨r, w21, rfl, hw, mB_of ht hP⟩, hS.F ht⟩) hS.2.2 d_S_askPart_19
end
section
theorem mt_ofWF {l : Launch} {s0 : State} {dC : Nat → ClassId} {dI : Nat → Nat → Nat} {dA : Nat → ClassId} (B0 : BB s0 dC dI dA) {y : MethodName} {cc : ByteArray} {nL : Nat} {ret : Option FieldType} {rm : Room} {w : fw_W} {av : List Value} {Qc : Array Value → State → Outcome → State → Prop} {mc ms : Nat}
    (hy : plainFor y = true) (hn : (lg_sl av).length ≤ nL)
    (body : ∀ (p : Program) (e : Env) (s : State) (m : MethodId) (args : Array Value) (below : List Frame) (meth : Method) (c : Code) (ls : Array Slot), args = av.toArray → CX s0 dC dI dA y.cls cc nL ret p s m args meth c → (y.name = "<init>" → meth.name = "<init>") → lv_has ls nL (lv_args 0 av) → fw_P (dC, dI) cls_ (AA s0) w s.heap →
      W p l e rm s m args below meth c s.heap [] 0 0 (MQ below Qc args s mc ms (AA s0)) (F0 m 0 ls [])) : Met l y [.code y cc nL ret] rm (mP s0 dC dI w av) Qc mc ms (AA s0) := by
  refine MetFree.of_bodySF (code := cc) (maxLocals := nL) (ret := ret) hy ?_ ?_
  · intro args s m h hn9
    obtain ⟨meth, c, h1, h2, h3, h4, h5, h6, -, -⟩ := Cond.code_spec hn9 (atoms_spec (ws := [Cond.code y cc nL ret]) h _ List.mem_cons_self)
    exact ⟨meth, c, h1, h2, h3, h4, h5, h6⟩
  · intro p e s m args below meth c s₁ B hml hP9 _
    have hh0 : s₁.heap = s.heap := by rw [B.state]; rfl
    obtain ⟨rfl, hP, hE⟩ := hP9
    have hl := lv_entry av (n := nL) hn
    have K : W p l e rm s m av.toArray below meth c s.heap [] 0 0 (MQ below Qc av.toArray s mc ms (AA s0)) (entryFrame m av.toArray nL) := by
      rw [lg_entry_eq]
      generalize (lg_sl av ++ List.replicate (nL - (lg_sl av).length) Slot.unset).toArray = ls at hl ⊢
      exact body p e s m _ below meth c ls rfl ⟨B.exec, B.bytes, B.returns, hml, findClass_of_methodNamed B.named, hE.gw B0, hE.va B0, hE.nw B0, hE, B.notSynchronized, fun q h => Nat.le_trans hE.2.1 h⟩ (fun h => by rw [(name_of_methodNamed B.named B.method).1]; exact h) hl hP
    obtain ⟨t, a1, o, b1, b2, b3⟩ := K s₁ hh0 (Stand.of_body B)
    exact ⟨t, o, a1, b1, b2, ⟨b3.1, b3.2⟩⟩
abbrev b_J_floorMod : ByteArray := prog_12_method_52_code
def y_J_floorMod : MethodName := ⟨"java/lang/Math", "floorMod", "(JJ)J"⟩
theorem d_J_floorMod_0 : decode b_J_floorMod 0 = .ok (.lload_n 0, 1) := by decide +kernel
theorem d_J_floorMod_1 : decode b_J_floorMod 1 = .ok (.lload_n 2, 1) := by decide +kernel
theorem d_J_floorMod_2 : decode b_J_floorMod 2 = .ok (.lrem, 1) := by decide +kernel
theorem d_J_floorMod_3 : decode b_J_floorMod 3 = .ok (.lstore 4, 2) := by decide +kernel
theorem d_J_floorMod_5 : decode b_J_floorMod 5 = .ok (.lload_n 0, 1) := by decide +kernel
theorem d_J_floorMod_6 : decode b_J_floorMod 6 = .ok (.lload_n 2, 1) := by decide +kernel
theorem d_J_floorMod_7 : decode b_J_floorMod 7 = .ok (.lxor, 1) := by decide +kernel
theorem d_J_floorMod_8 : decode b_J_floorMod 8 = .ok (.lconst 0, 1) := by decide +kernel
theorem d_J_floorMod_9 : decode b_J_floorMod 9 = .ok (.lcmp, 1) := by decide +kernel
theorem d_J_floorMod_10 : decode b_J_floorMod 10 = .ok (.ifCond .ge 15, 3) := by decide +kernel
theorem d_J_floorMod_13 : decode b_J_floorMod 13 = .ok (.lload 4, 2) := by decide +kernel
theorem d_J_floorMod_15 : decode b_J_floorMod 15 = .ok (.lconst 0, 1) := by decide +kernel
theorem d_J_floorMod_16 : decode b_J_floorMod 16 = .ok (.lcmp, 1) := by decide +kernel
theorem d_J_floorMod_17 : decode b_J_floorMod 17 = .ok (.ifCond .eq 8, 3) := by decide +kernel
theorem d_J_floorMod_20 : decode b_J_floorMod 20 = .ok (.lload 4, 2) := by decide +kernel
theorem d_J_floorMod_22 : decode b_J_floorMod 22 = .ok (.lload_n 2, 1) := by decide +kernel
theorem d_J_floorMod_23 : decode b_J_floorMod 23 = .ok (.ladd, 1) := by decide +kernel
theorem d_J_floorMod_24 : decode b_J_floorMod 24 = .ok (.lreturn, 1) := by decide +kernel
theorem d_J_floorMod_25 : decode b_J_floorMod 25 = .ok (.lload 4, 2) := by decide +kernel
theorem d_J_floorMod_27 : decode b_J_floorMod 27 = .ok (.lreturn, 1) := by decide +kernel
abbrev b_J_max : ByteArray := prog_12_method_66_code
def y_J_max : MethodName := ⟨"java/lang/Math", "max", "(JJ)J"⟩
theorem d_J_max_0 : decode b_J_max 0 = .ok (.lload_n 0, 1) := by decide +kernel
theorem d_J_max_1 : decode b_J_max 1 = .ok (.lload_n 2, 1) := by decide +kernel
theorem d_J_max_2 : decode b_J_max 2 = .ok (.lcmp, 1) := by decide +kernel
theorem d_J_max_3 : decode b_J_max 3 = .ok (.ifCond .lt 7, 3) := by decide +kernel
theorem d_J_max_6 : decode b_J_max 6 = .ok (.lload_n 0, 1) := by decide +kernel
theorem d_J_max_7 : decode b_J_max 7 = .ok (.goto 4, 3) := by decide +kernel
theorem d_J_max_10 : decode b_J_max 10 = .ok (.lload_n 2, 1) := by decide +kernel
theorem d_J_max_11 : decode b_J_max 11 = .ok (.lreturn, 1) := by decide +kernel
theorem pl_J2 : plainFor y_J_max = true := by decide +kernel
theorem pl_J : plainFor y_J_floorMod = true := by decide +kernel
set_option maxHeartbeats 4000000 in
set_option maxRecDepth 100000 in
theorem c_J_floorMod {l : Launch} {s0 : State} {dC : Nat → ClassId} {dI : Nat → Nat → Nat} {dA : Nat → ClassId} (B0 : BB s0 dC dI dA) (w : fw_W) (a b : Int64) (hb0 : ¬ b = 0) : Met l y_J_floorMod [.code y_J_floorMod b_J_floorMod 6 (some .long)] ({ frames := 0, cells := 0, slots := 0, locals := 0 }) (mP s0 dC dI w [.long a, .long b]) (mQl s0 dC dI (fun r w' => w' = w ∧ r = fMod a b)) 0 0 (AA s0) := by
  refine mt_ofWF B0 pl_J (Nat.le_of_ble_eq_true rfl) (fun p e s m args below meth c ls hargs X hin hl hP => ?_)
  have X9 := X
  obtain ⟨hx, hb, hr, hml, hown, hg, hK, hn, hE, hlocks, hA⟩ := X9
  have hS : va_S (AA s0) s.heap s.heap [] := va_S.rf
  have hl : lv_has ls 6 [(0, .long a), (2, .long b)] := hl
  refine lv_lload_n hx hb d_J_floorMod_0 rfl (lv_at hl 0 rfl) ?_
  refine lv_lload_n hx hb d_J_floorMod_1 rfl (lv_at hl 1 rfl) ?_
  refine lv_lrem hx hb d_J_floorMod_2 hb0 ?_
  refine lv_lstore (lv' := [(4, .long (a - a / b * b)), (0, .long a), (2, .long b)]) hx hb d_J_floorMod_3 hl (by decide) rfl (fun ls hl => ?_)
  refine lv_lload_n hx hb d_J_floorMod_5 rfl (lv_at hl 1 rfl) ?_
  refine lv_lload_n hx hb d_J_floorMod_6 rfl (lv_at hl 2 rfl) ?_
  refine lv_lxor hx hb d_J_floorMod_7 ?_
  refine lv_lconst (v := 0) hx hb d_J_floorMod_8 (by decide) ?_
  refine W.lcmp hx hb d_J_floorMod_9 ?_
  refine lv_if_ge (tgt := 25) hx hb d_J_floorMod_10 (by decide) (fun c1 => ?_) (fun c1 => ?_)
  · refine lv_lload hx hb d_J_floorMod_25 (lv_at hl 0 rfl) ?_
    exact W.lret (v := a - a / b * b) hx hb hr (fun tS ht hW => ⟨⟨a - a / b * b, w, rfl, ⟨rfl, by unfold fMod; rw [if_neg (fun h => absurd h.2 (fun h2 => absurd c1 (fun h3 => by have := (lg_cmp_ge _ _).mp h3; exact absurd this (Int64.not_le.mpr h2))))]⟩, mB_of ht hP⟩, hS.F ht⟩) hS.2.2 d_J_floorMod_27
  · refine lv_lload hx hb d_J_floorMod_13 (lv_at hl 0 rfl) ?_
    refine lv_lconst (v := 0) hx hb d_J_floorMod_15 (by decide) ?_
    refine W.lcmp hx hb d_J_floorMod_16 ?_
    refine lv_if_eq (tgt := 25) hx hb d_J_floorMod_17 (by decide) (fun c2 => ?_) (fun c2 => ?_)
    · refine lv_lload hx hb d_J_floorMod_25 (lv_at hl 0 rfl) ?_
      exact W.lret (v := a - a / b * b) hx hb hr (fun tS ht hW => ⟨⟨a - a / b * b, w, rfl, ⟨rfl, by unfold fMod; rw [if_neg (fun h => h.1 ((lg_cmp_eq _ _).mp c2))]⟩, mB_of ht hP⟩, hS.F ht⟩) hS.2.2 d_J_floorMod_27
    · refine lv_lload hx hb d_J_floorMod_20 (lv_at hl 0 rfl) ?_
      refine lv_lload_n hx hb d_J_floorMod_22 rfl (lv_at hl 2 rfl) ?_
      refine lv_ladd hx hb d_J_floorMod_23 ?_
      exact W.lret (v := (a - a / b * b) + b) hx hb hr (fun tS ht hW => ⟨⟨(a - a / b * b) + b, w, rfl, ⟨rfl, by unfold fMod; rw [if_pos ⟨fun h => c2 ((lg_cmp_eq _ _).mpr h), Int64.not_le.mp (fun h => c1 ((lg_cmp_ge _ _).mpr h))⟩]⟩, mB_of ht hP⟩, hS.F ht⟩) hS.2.2 d_J_floorMod_24
set_option maxHeartbeats 4000000 in
set_option maxRecDepth 100000 in
theorem c_J_max {l : Launch} {s0 : State} {dC : Nat → ClassId} {dI : Nat → Nat → Nat} {dA : Nat → ClassId} (B0 : BB s0 dC dI dA) (w : fw_W) (a b : Int64)  : Met l y_J_max [.code y_J_max b_J_max 4 (some .long)] ({ frames := 0, cells := 0, slots := 0, locals := 0 }) (mP s0 dC dI w [.long a, .long b]) (mQl s0 dC dI (fun r w' => w' = w ∧ r = if a < b then b else a)) 0 0 (AA s0) := by
  refine mt_ofWF B0 pl_J2 (Nat.le_of_ble_eq_true rfl) (fun p e s m args below meth c ls hargs X hin hl hP => ?_)
  have X9 := X
  obtain ⟨hx, hb, hr, hml, hown, hg, hK, hn, hE, hlocks, hA⟩ := X9
  have hS : va_S (AA s0) s.heap s.heap [] := va_S.rf
  have hl : lv_has ls 4 [(0, .long a), (2, .long b)] := hl
  refine lv_lload_n hx hb d_J_max_0 rfl (lv_at hl 0 rfl) ?_
  refine lv_lload_n hx hb d_J_max_1 rfl (lv_at hl 1 rfl) ?_
  refine W.lcmp hx hb d_J_max_2 ?_
  refine lv_if_lt (tgt := 10) hx hb d_J_max_3 (by decide) (fun c1 => ?_) (fun c1 => ?_)
  · refine lv_lload_n hx hb d_J_max_10 rfl (lv_at hl 1 rfl) ?_
    exact W.lret (v := b) hx hb hr (fun tS ht hW => ⟨⟨b, w, rfl, ⟨rfl, by rw [if_pos ((lg_cmp_lt _ _).mp c1)]⟩, mB_of ht hP⟩, hS.F ht⟩) hS.2.2 d_J_max_11
  · refine lv_lload_n hx hb d_J_max_6 rfl (lv_at hl 0 rfl) ?_
    refine lv_goto (tgt := 11) hx hb d_J_max_7 (by decide) ?_
    exact W.lret (v := a) hx hb hr (fun tS ht hW => ⟨⟨a, w, rfl, ⟨rfl, by rw [if_neg (fun h => c1 ((lg_cmp_lt _ _).mpr h))]⟩, mB_of ht hP⟩, hS.F ht⟩) hS.2.2 d_J_max_11
end
section
theorem parts_drop {P : PD} {k i : Nat} (h : i < p_cn P k) : (p_parts P k).drop i = p_pt P k i :: (p_parts P k).drop (i + 1) := by
  unfold p_parts
  have hl : i < ((List.range (p_cn P k)).map (p_pt P k)).length := by rw [List.length_map, List.length_range]; exact h
  rw [List.drop_eq_getElem_cons hl]
  congr 1
  rw [List.getElem_map, List.getElem_range]
theorem parts_len (P : PD) (k : Nat) : (p_parts P k).length = p_cn P k := by unfold p_parts; rw [List.length_map, List.length_range]
theorem rep_drop {n i p : Nat} (h : i < n) : (List.replicate n p).drop i = p :: (List.replicate n p).drop (i + 1) := by
  have hl : i < (List.replicate n p).length := by rw [List.length_replicate]; exact h
  rw [List.drop_eq_getElem_cons hl]
  congr 1
  exact List.getElem_replicate hl
end
section
set_option maxHeartbeats 4000000 in
set_option maxRecDepth 100000 in
theorem c_S_quotient {l : Launch} {s0 : State} {dC : Nat → ClassId} {dI : Nat → Nat → Nat} {dA : Nat → ClassId} (B0 : BB s0 dC dI dA) (w : fw_W) (ad : Nat → Nat) (Fz : Nat → Prop) (P : PD) (wk : Nat) (rows : Nat → Option Nat) (h kt vt k : Nat) (x : XS)  (n0 : Nat) (IH : VO l s0 dC dI dA ad P wk n0) (hfr0 : fr12 x.2 ≤ n0) (hinj : Inj ad) (hU : RU dA ad P wk h kt vt k Fz rows w x) (hk : k < 12) (hpo : p_ok P) (hkd : p_kd P k = 2) (hrl : p_rl P k = 3) : Met l y_S_quotient [.code y_S_quotient b_S_quotient 6 (some .long)] ({ frames := 7 * n0 + 7, cells := 3 * (dm x.2 (if (askV (sv P wk (n0 + 1)) (p_pt P k 1) (askV (sv P wk (n0 + 1)) (p_pt P k 0) x).2).1 = 0 then failV 2 (askV (sv P wk (n0 + 1)) (p_pt P k 1) (askV (sv P wk (n0 + 1)) (p_pt P k 0) x).2).2 else ((askV (sv P wk (n0 + 1)) (p_pt P k 0) x).1 / (askV (sv P wk (n0 + 1)) (p_pt P k 1) (askV (sv P wk (n0 + 1)) (p_pt P k 0) x).2).1, (askV (sv P wk (n0 + 1)) (p_pt P k 1) (askV (sv P wk (n0 + 1)) (p_pt P k 0) x).2).2)).2.2), slots := 11 * (dm x.2 (if (askV (sv P wk (n0 + 1)) (p_pt P k 1) (askV (sv P wk (n0 + 1)) (p_pt P k 0) x).2).1 = 0 then failV 2 (askV (sv P wk (n0 + 1)) (p_pt P k 1) (askV (sv P wk (n0 + 1)) (p_pt P k 0) x).2).2 else ((askV (sv P wk (n0 + 1)) (p_pt P k 0) x).1 / (askV (sv P wk (n0 + 1)) (p_pt P k 1) (askV (sv P wk (n0 + 1)) (p_pt P k 0) x).2).1, (askV (sv P wk (n0 + 1)) (p_pt P k 1) (askV (sv P wk (n0 + 1)) (p_pt P k 0) x).2).2)).2.2), locals := 210 * n0 + 150 }) (mP s0 dC dI w [.ref (ad 0), .ref h]) (mQl s0 dC dI (fun r w' => r = (if (askV (sv P wk (n0 + 1)) (p_pt P k 1) (askV (sv P wk (n0 + 1)) (p_pt P k 0) x).2).1 = 0 then failV 2 (askV (sv P wk (n0 + 1)) (p_pt P k 1) (askV (sv P wk (n0 + 1)) (p_pt P k 0) x).2).2 else ((askV (sv P wk (n0 + 1)) (p_pt P k 0) x).1 / (askV (sv P wk (n0 + 1)) (p_pt P k 1) (askV (sv P wk (n0 + 1)) (p_pt P k 0) x).2).1, (askV (sv P wk (n0 + 1)) (p_pt P k 1) (askV (sv P wk (n0 + 1)) (p_pt P k 0) x).2).2)).1 ∧ ∃ (Fz' : Nat → Prop) (rows' : Nat → Option Nat), VX dA ad P wk h kt vt k Fz rows w x Fz' rows' w' (if (askV (sv P wk (n0 + 1)) (p_pt P k 1) (askV (sv P wk (n0 + 1)) (p_pt P k 0) x).2).1 = 0 then failV 2 (askV (sv P wk (n0 + 1)) (p_pt P k 1) (askV (sv P wk (n0 + 1)) (p_pt P k 0) x).2).2 else ((askV (sv P wk (n0 + 1)) (p_pt P k 0) x).1 / (askV (sv P wk (n0 + 1)) (p_pt P k 1) (askV (sv P wk (n0 + 1)) (p_pt P k 0) x).2).1, (askV (sv P wk (n0 + 1)) (p_pt P k 1) (askV (sv P wk (n0 + 1)) (p_pt P k 0) x).2).2)).2)) (3 * (dm x.2 (if (askV (sv P wk (n0 + 1)) (p_pt P k 1) (askV (sv P wk (n0 + 1)) (p_pt P k 0) x).2).1 = 0 then failV 2 (askV (sv P wk (n0 + 1)) (p_pt P k 1) (askV (sv P wk (n0 + 1)) (p_pt P k 0) x).2).2 else ((askV (sv P wk (n0 + 1)) (p_pt P k 0) x).1 / (askV (sv P wk (n0 + 1)) (p_pt P k 1) (askV (sv P wk (n0 + 1)) (p_pt P k 0) x).2).1, (askV (sv P wk (n0 + 1)) (p_pt P k 1) (askV (sv P wk (n0 + 1)) (p_pt P k 0) x).2).2)).2.2)) (11 * (dm x.2 (if (askV (sv P wk (n0 + 1)) (p_pt P k 1) (askV (sv P wk (n0 + 1)) (p_pt P k 0) x).2).1 = 0 then failV 2 (askV (sv P wk (n0 + 1)) (p_pt P k 1) (askV (sv P wk (n0 + 1)) (p_pt P k 0) x).2).2 else ((askV (sv P wk (n0 + 1)) (p_pt P k 0) x).1 / (askV (sv P wk (n0 + 1)) (p_pt P k 1) (askV (sv P wk (n0 + 1)) (p_pt P k 0) x).2).1, (askV (sv P wk (n0 + 1)) (p_pt P k 1) (askV (sv P wk (n0 + 1)) (p_pt P k 0) x).2).2)).2.2)) (AA s0) := by
  have hpk := (hpo k hk).2 hkd
  have hc3 := hpk.2.1
  have hcn : 2 ≤ p_cn P k := by have h9 := hpk.2.2.1; rw [hrl] at h9; exact h9
  have hK1 := Kp_ask (Kp_sv P wk (n0 + 1)) (p_pt P k 0) x
  have hK2 := Kp_ask (Kp_sv P wk (n0 + 1)) (p_pt P k 1) (askV (sv P wk (n0 + 1)) (p_pt P k 0) x).2
  have cA := fun hi => c_S_askPart B0 w ad Fz P wk rows h kt vt k x 0 n0 IH hfr0 hinj hU hk hpo hkd hi
  generalize hA : askV (sv P wk (n0 + 1)) (p_pt P k 0) x = A9 at hK1 hK2 cA ⊢
  generalize hBq : askV (sv P wk (n0 + 1)) (p_pt P k 1) A9.2 = B9 at hK2 ⊢
  have hm1 := hK1.2.2.1
  have hm2 := hK2.2.2.1
  have hfrA := Nat.le_trans hK1.fr hfr0
  refine mt_ofW B0 (by decide) (Nat.le_of_ble_eq_true rfl) (fun p e s m args below meth c ls hargs X hin hl hP => ?_)
  have X9 := X
  obtain ⟨hx, hb, hr, hml, hown, hg, hK, hn, hE, hlocks, hA⟩ := X9
  have hS : va_S (AA s0) s.heap s.heap [] := va_S.rf
  have hl : lv_has ls 6 [(0, .ref (ad 0)), (1, .ref h)] := hl
  obtain ⟨⟨g0, g1, g2, g3, g4⟩, hM4, hP6, hnF, hfl⟩ := (id hU.1)
  have hmF : s_md (sFail 2 B9.2.2) = s_md B9.2.2 := rfl
  rcases Classical.em (B9.1 = 0) with hz | hz
  · rw [if_pos hz]
    refine lv_aload_n hx hb d_S_quotient_0 rfl (lv_at hl 0 rfl) ?_
    refine lv_aload_n hx hb d_S_quotient_1 rfl (lv_at hl 1 rfl) ?_
    refine lv_iconst (v := (nI 0)) hx hb d_S_quotient_2 (by decide) ?_
    refine va_calll (rn_V (n := 2) (As := [.ref h, .int (nI 0)]) (rest := []) (C := R_S) (T := F_S) (N := 9) (ci := 2) X hP hS (cA (by omega)) k_436 k_438 k_23 k_57 k_439 (by decide +kernel) rfl rfl ⟨by dsimp only; omega, by dsimp only; omega⟩ g0 rfl rfl hl.1 rfl (Nat.le_of_ble_eq_true rfl) d_S_quotient_3 ⟨by dsimp only [dm, failV]; omega, by dsimp only [dm, failV]; omega⟩) hS (fun q _ h => h) (fun q h => h) (fun r w22 tS H locs ht hvm hw hB hz1 hk1 hS => ?_)
    have hP : fw_P (dC, dI) cls_ (AA s0) w22 H := by rw [← ht]; exact hB
    obtain ⟨rfl, Fz1, rows1, hX1⟩ := hw
    refine lv_lstore_n (lv' := [(2, .long A9.1), (0, .ref (ad 0)), (1, .ref h)]) hx hb d_S_quotient_6 rfl hl (by decide) rfl (fun ls hl => ?_)
    refine lv_aload_n hx hb d_S_quotient_7 rfl (lv_at hl 1 rfl) ?_
    refine lv_aload_n hx hb d_S_quotient_8 rfl (lv_at hl 2 rfl) ?_
    refine lv_iconst (v := (nI 1)) hx hb d_S_quotient_9 (by decide) ?_
    obtain ⟨⟨g0, -⟩, -⟩ := id hX1.1.1
    have cB := c_S_askPart B0 w22 ad Fz1 P wk rows1 h kt vt k A9.2 1 n0 IH hfrA hinj hX1.1 hk hpo hkd (by omega)
    rw [hBq] at cB
    refine va_calll (rn_V (n := 2) (As := [.ref h, .int (nI 1)]) (rest := []) (C := R_S) (T := F_S) (N := 9) (ci := 2) X hP hS (cB) k_436 k_438 k_23 k_57 k_439 (by decide +kernel) rfl rfl ⟨by dsimp only; omega, by dsimp only; omega⟩ g0 rfl rfl hl.1 rfl (Nat.le_of_ble_eq_true rfl) d_S_quotient_10 ⟨by dsimp only [dm, failV]; omega, by dsimp only [dm, failV]; omega⟩) hS (fun q _ h => h) (fun q h => h) (fun r w23 tS H locs ht hvm hw hB hz1 hk1 hS => ?_)
    have hP : fw_P (dC, dI) cls_ (AA s0) w23 H := by rw [← ht]; exact hB
    obtain ⟨rfl, Fz2, rows2, hX2⟩ := hw
    have hX3 := VX.tr hX1 hX2 hK1.1
    obtain ⟨⟨g0, -⟩, -⟩ := id hX3.1.1
    refine lv_lstore (lv' := [(4, .long B9.1), (2, .long A9.1), (0, .ref (ad 0)), (1, .ref h)]) hx hb d_S_quotient_13 hl (by decide) rfl (fun ls hl => ?_)
    refine lv_lload hx hb d_S_quotient_15 (lv_at hl 0 rfl) ?_
    refine lv_lconst (v := 0) hx hb d_S_quotient_17 (by decide) ?_
    refine W.lcmp hx hb d_S_quotient_18 ?_
    refine lv_if_ne (tgt := 30) hx hb d_S_quotient_19 (by decide) (fun c1 => ?_) (fun c1 => ?_)
    · exact absurd ((lg_cmp_eq _ _).mpr hz) c1
    · refine lv_aload_n hx hb d_S_quotient_22 rfl (lv_at hl 2 rfl) ?_
      refine lv_iconst (v := (nI 2)) hx hb d_S_quotient_23 (by decide) ?_
      refine va_calll (rn_V (n := 1) (As := [.int (nI 2)]) (rest := []) (C := R_S) (T := F_S) (N := 9) (ci := 2) X hP hS (c_S_fail B0 w23 ad Fz2 P wk rows2 B9.2.2 2 hinj hX3.1.1 (by decide)) k_360 k_362 k_12 k_57 k_363 (by decide +kernel) rfl rfl ⟨by dsimp only; omega, by dsimp only; omega⟩ g0 rfl rfl hl.1 rfl (Nat.le_of_ble_eq_true rfl) d_S_quotient_24 ⟨by dsimp only [dm, failV]; omega, by dsimp only [dm, failV]; omega⟩) hS (fun q _ h => h) (fun q h => h) (fun r w24 tS H locs ht hvm hw hB hz1 hk1 hS => ?_)
      have hP : fw_P (dC, dI) cls_ (AA s0) w24 H := by rw [← ht]; exact hB
      obtain ⟨rfl, hRf, hof⟩ := hw
      have hX4 := VX.tr hX3 (hX3.1.step (VQ.of (σ := B9.2.2) hRf hof)) (fun j hj => (hK1.tr hK2).1 j hj)
      refine lv_goto (tgt := 34) hx hb d_S_quotient_27 (by decide) ?_
      refine W.widen (k := 3 * dm x.2 (failV 2 B9.2).2.2) (n := 11 * dm x.2 (failV 2 B9.2).2.2) (by dsimp only [dm, failV]; omega) (by dsimp only [dm, failV]; omega) ?_
      exact W.lret (v := 0) hx hb hr (fun tS ht hW => ⟨⟨0, w24, rfl, ⟨rfl, Fz2, rows2, hX4⟩, mB_of ht hP⟩, hS.F ht⟩) hS.2.2 d_S_quotient_34
  · rw [if_neg hz]
    refine lv_aload_n hx hb d_S_quotient_0 rfl (lv_at hl 0 rfl) ?_
    refine lv_aload_n hx hb d_S_quotient_1 rfl (lv_at hl 1 rfl) ?_
    refine lv_iconst (v := (nI 0)) hx hb d_S_quotient_2 (by decide) ?_
    refine va_calll (rn_V (n := 2) (As := [.ref h, .int (nI 0)]) (rest := []) (C := R_S) (T := F_S) (N := 9) (ci := 2) X hP hS (cA (by omega)) k_436 k_438 k_23 k_57 k_439 (by decide +kernel) rfl rfl ⟨by dsimp only; omega, by dsimp only; omega⟩ g0 rfl rfl hl.1 rfl (Nat.le_of_ble_eq_true rfl) d_S_quotient_3 ⟨by dsimp only [dm]; omega, by dsimp only [dm]; omega⟩) hS (fun q _ h => h) (fun q h => h) (fun r w25 tS H locs ht hvm hw hB hz1 hk1 hS => ?_)
    have hP : fw_P (dC, dI) cls_ (AA s0) w25 H := by rw [← ht]; exact hB
    obtain ⟨rfl, Fz1, rows1, hX1⟩ := hw
    refine lv_lstore_n (lv' := [(2, .long A9.1), (0, .ref (ad 0)), (1, .ref h)]) hx hb d_S_quotient_6 rfl hl (by decide) rfl (fun ls hl => ?_)
    refine lv_aload_n hx hb d_S_quotient_7 rfl (lv_at hl 1 rfl) ?_
    refine lv_aload_n hx hb d_S_quotient_8 rfl (lv_at hl 2 rfl) ?_
    refine lv_iconst (v := (nI 1)) hx hb d_S_quotient_9 (by decide) ?_
    obtain ⟨⟨g0, -⟩, -⟩ := id hX1.1.1
    have cB := c_S_askPart B0 w25 ad Fz1 P wk rows1 h kt vt k A9.2 1 n0 IH hfrA hinj hX1.1 hk hpo hkd (by omega)
    rw [hBq] at cB
    refine va_calll (rn_V (n := 2) (As := [.ref h, .int (nI 1)]) (rest := []) (C := R_S) (T := F_S) (N := 9) (ci := 2) X hP hS (cB) k_436 k_438 k_23 k_57 k_439 (by decide +kernel) rfl rfl ⟨by dsimp only; omega, by dsimp only; omega⟩ g0 rfl rfl hl.1 rfl (Nat.le_of_ble_eq_true rfl) d_S_quotient_10 ⟨by dsimp only [dm]; omega, by dsimp only [dm]; omega⟩) hS (fun q _ h => h) (fun q h => h) (fun r w26 tS H locs ht hvm hw hB hz1 hk1 hS => ?_)
    have hP : fw_P (dC, dI) cls_ (AA s0) w26 H := by rw [← ht]; exact hB
    obtain ⟨rfl, Fz2, rows2, hX2⟩ := hw
    have hX3 := VX.tr hX1 hX2 hK1.1
    obtain ⟨⟨g0, -⟩, -⟩ := id hX3.1.1
    refine lv_lstore (lv' := [(4, .long B9.1), (2, .long A9.1), (0, .ref (ad 0)), (1, .ref h)]) hx hb d_S_quotient_13 hl (by decide) rfl (fun ls hl => ?_)
    refine lv_lload hx hb d_S_quotient_15 (lv_at hl 0 rfl) ?_
    refine lv_lconst (v := 0) hx hb d_S_quotient_17 (by decide) ?_
    refine W.lcmp hx hb d_S_quotient_18 ?_
    refine lv_if_ne (tgt := 30) hx hb d_S_quotient_19 (by decide) (fun c1 => ?_) (fun c1 => ?_)
    · refine lv_lload_n hx hb d_S_quotient_30 rfl (lv_at hl 1 rfl) ?_
      refine lv_lload hx hb d_S_quotient_31 (lv_at hl 0 rfl) ?_
      refine lv_ldiv hx hb d_S_quotient_33 hz ?_
      refine W.widen (k := 3 * dm x.2 B9.2.2) (n := 11 * dm x.2 B9.2.2) (by unfold dm; omega) (by unfold dm; omega) ?_
      exact W.lret (v := A9.1 / B9.1) hx hb hr (fun tS ht hW => ⟨⟨A9.1 / B9.1, w26, rfl, ⟨rfl, Fz2, rows2, hX3⟩, mB_of ht hP⟩, hS.F ht⟩) hS.2.2 d_S_quotient_34
    · exact absurd ((lg_cmp_eq _ _).mp c1) hz
set_option maxHeartbeats 4000000 in
set_option maxRecDepth 100000 in
theorem c_S_rest {l : Launch} {s0 : State} {dC : Nat → ClassId} {dI : Nat → Nat → Nat} {dA : Nat → ClassId} (B0 : BB s0 dC dI dA) (w : fw_W) (ad : Nat → Nat) (Fz : Nat → Prop) (P : PD) (wk : Nat) (rows : Nat → Option Nat) (h kt vt k : Nat) (x : XS)  (n0 : Nat) (IH : VO l s0 dC dI dA ad P wk n0) (hfr0 : fr12 x.2 ≤ n0) (hinj : Inj ad) (hU : RU dA ad P wk h kt vt k Fz rows w x) (hk : k < 12) (hpo : p_ok P) (hkd : p_kd P k = 2) (hrl : p_rl P k = 5) : Met l y_S_rest [.code y_S_rest b_S_rest 6 (some .long)] ({ frames := 7 * n0 + 7, cells := 3 * (dm x.2 (if (askV (sv P wk (n0 + 1)) (p_pt P k 1) (askV (sv P wk (n0 + 1)) (p_pt P k 0) x).2).1 = 0 then failV 2 (askV (sv P wk (n0 + 1)) (p_pt P k 1) (askV (sv P wk (n0 + 1)) (p_pt P k 0) x).2).2 else ((askV (sv P wk (n0 + 1)) (p_pt P k 0) x).1 - (askV (sv P wk (n0 + 1)) (p_pt P k 0) x).1 / (askV (sv P wk (n0 + 1)) (p_pt P k 1) (askV (sv P wk (n0 + 1)) (p_pt P k 0) x).2).1 * (askV (sv P wk (n0 + 1)) (p_pt P k 1) (askV (sv P wk (n0 + 1)) (p_pt P k 0) x).2).1, (askV (sv P wk (n0 + 1)) (p_pt P k 1) (askV (sv P wk (n0 + 1)) (p_pt P k 0) x).2).2)).2.2), slots := 11 * (dm x.2 (if (askV (sv P wk (n0 + 1)) (p_pt P k 1) (askV (sv P wk (n0 + 1)) (p_pt P k 0) x).2).1 = 0 then failV 2 (askV (sv P wk (n0 + 1)) (p_pt P k 1) (askV (sv P wk (n0 + 1)) (p_pt P k 0) x).2).2 else ((askV (sv P wk (n0 + 1)) (p_pt P k 0) x).1 - (askV (sv P wk (n0 + 1)) (p_pt P k 0) x).1 / (askV (sv P wk (n0 + 1)) (p_pt P k 1) (askV (sv P wk (n0 + 1)) (p_pt P k 0) x).2).1 * (askV (sv P wk (n0 + 1)) (p_pt P k 1) (askV (sv P wk (n0 + 1)) (p_pt P k 0) x).2).1, (askV (sv P wk (n0 + 1)) (p_pt P k 1) (askV (sv P wk (n0 + 1)) (p_pt P k 0) x).2).2)).2.2), locals := 210 * n0 + 150 }) (mP s0 dC dI w [.ref (ad 0), .ref h]) (mQl s0 dC dI (fun r w' => r = (if (askV (sv P wk (n0 + 1)) (p_pt P k 1) (askV (sv P wk (n0 + 1)) (p_pt P k 0) x).2).1 = 0 then failV 2 (askV (sv P wk (n0 + 1)) (p_pt P k 1) (askV (sv P wk (n0 + 1)) (p_pt P k 0) x).2).2 else ((askV (sv P wk (n0 + 1)) (p_pt P k 0) x).1 - (askV (sv P wk (n0 + 1)) (p_pt P k 0) x).1 / (askV (sv P wk (n0 + 1)) (p_pt P k 1) (askV (sv P wk (n0 + 1)) (p_pt P k 0) x).2).1 * (askV (sv P wk (n0 + 1)) (p_pt P k 1) (askV (sv P wk (n0 + 1)) (p_pt P k 0) x).2).1, (askV (sv P wk (n0 + 1)) (p_pt P k 1) (askV (sv P wk (n0 + 1)) (p_pt P k 0) x).2).2)).1 ∧ ∃ (Fz' : Nat → Prop) (rows' : Nat → Option Nat), VX dA ad P wk h kt vt k Fz rows w x Fz' rows' w' (if (askV (sv P wk (n0 + 1)) (p_pt P k 1) (askV (sv P wk (n0 + 1)) (p_pt P k 0) x).2).1 = 0 then failV 2 (askV (sv P wk (n0 + 1)) (p_pt P k 1) (askV (sv P wk (n0 + 1)) (p_pt P k 0) x).2).2 else ((askV (sv P wk (n0 + 1)) (p_pt P k 0) x).1 - (askV (sv P wk (n0 + 1)) (p_pt P k 0) x).1 / (askV (sv P wk (n0 + 1)) (p_pt P k 1) (askV (sv P wk (n0 + 1)) (p_pt P k 0) x).2).1 * (askV (sv P wk (n0 + 1)) (p_pt P k 1) (askV (sv P wk (n0 + 1)) (p_pt P k 0) x).2).1, (askV (sv P wk (n0 + 1)) (p_pt P k 1) (askV (sv P wk (n0 + 1)) (p_pt P k 0) x).2).2)).2)) (3 * (dm x.2 (if (askV (sv P wk (n0 + 1)) (p_pt P k 1) (askV (sv P wk (n0 + 1)) (p_pt P k 0) x).2).1 = 0 then failV 2 (askV (sv P wk (n0 + 1)) (p_pt P k 1) (askV (sv P wk (n0 + 1)) (p_pt P k 0) x).2).2 else ((askV (sv P wk (n0 + 1)) (p_pt P k 0) x).1 - (askV (sv P wk (n0 + 1)) (p_pt P k 0) x).1 / (askV (sv P wk (n0 + 1)) (p_pt P k 1) (askV (sv P wk (n0 + 1)) (p_pt P k 0) x).2).1 * (askV (sv P wk (n0 + 1)) (p_pt P k 1) (askV (sv P wk (n0 + 1)) (p_pt P k 0) x).2).1, (askV (sv P wk (n0 + 1)) (p_pt P k 1) (askV (sv P wk (n0 + 1)) (p_pt P k 0) x).2).2)).2.2)) (11 * (dm x.2 (if (askV (sv P wk (n0 + 1)) (p_pt P k 1) (askV (sv P wk (n0 + 1)) (p_pt P k 0) x).2).1 = 0 then failV 2 (askV (sv P wk (n0 + 1)) (p_pt P k 1) (askV (sv P wk (n0 + 1)) (p_pt P k 0) x).2).2 else ((askV (sv P wk (n0 + 1)) (p_pt P k 0) x).1 - (askV (sv P wk (n0 + 1)) (p_pt P k 0) x).1 / (askV (sv P wk (n0 + 1)) (p_pt P k 1) (askV (sv P wk (n0 + 1)) (p_pt P k 0) x).2).1 * (askV (sv P wk (n0 + 1)) (p_pt P k 1) (askV (sv P wk (n0 + 1)) (p_pt P k 0) x).2).1, (askV (sv P wk (n0 + 1)) (p_pt P k 1) (askV (sv P wk (n0 + 1)) (p_pt P k 0) x).2).2)).2.2)) (AA s0) := by
  have hpk := (hpo k hk).2 hkd
  have hc3 := hpk.2.1
  have hcn : 2 ≤ p_cn P k := by have h9 := hpk.2.2.1; rw [hrl] at h9; exact h9
  have hK1 := Kp_ask (Kp_sv P wk (n0 + 1)) (p_pt P k 0) x
  have hK2 := Kp_ask (Kp_sv P wk (n0 + 1)) (p_pt P k 1) (askV (sv P wk (n0 + 1)) (p_pt P k 0) x).2
  have cA := fun hi => c_S_askPart B0 w ad Fz P wk rows h kt vt k x 0 n0 IH hfr0 hinj hU hk hpo hkd hi
  generalize hA : askV (sv P wk (n0 + 1)) (p_pt P k 0) x = A9 at hK1 hK2 cA ⊢
  generalize hBq : askV (sv P wk (n0 + 1)) (p_pt P k 1) A9.2 = B9 at hK2 ⊢
  have hm1 := hK1.2.2.1
  have hm2 := hK2.2.2.1
  have hfrA := Nat.le_trans hK1.fr hfr0
  refine mt_ofW B0 (by decide) (Nat.le_of_ble_eq_true rfl) (fun p e s m args below meth c ls hargs X hin hl hP => ?_)
  have X9 := X
  obtain ⟨hx, hb, hr, hml, hown, hg, hK, hn, hE, hlocks, hA⟩ := X9
  have hS : va_S (AA s0) s.heap s.heap [] := va_S.rf
  have hl : lv_has ls 6 [(0, .ref (ad 0)), (1, .ref h)] := hl
  obtain ⟨⟨g0, g1, g2, g3, g4⟩, hM4, hP6, hnF, hfl⟩ := (id hU.1)
  have hmF : s_md (sFail 2 B9.2.2) = s_md B9.2.2 := rfl
  rcases Classical.em (B9.1 = 0) with hz | hz
  · rw [if_pos hz]
    refine lv_aload_n hx hb d_S_rest_0 rfl (lv_at hl 0 rfl) ?_
    refine lv_aload_n hx hb d_S_rest_1 rfl (lv_at hl 1 rfl) ?_
    refine lv_iconst (v := (nI 0)) hx hb d_S_rest_2 (by decide) ?_
    refine va_calll (rn_V (n := 2) (As := [.ref h, .int (nI 0)]) (rest := []) (C := R_S) (T := F_S) (N := 9) (ci := 2) X hP hS (cA (by omega)) k_436 k_438 k_23 k_57 k_439 (by decide +kernel) rfl rfl ⟨by dsimp only; omega, by dsimp only; omega⟩ g0 rfl rfl hl.1 rfl (Nat.le_of_ble_eq_true rfl) d_S_rest_3 ⟨by dsimp only [dm, failV]; omega, by dsimp only [dm, failV]; omega⟩) hS (fun q _ h => h) (fun q h => h) (fun r w27 tS H locs ht hvm hw hB hz1 hk1 hS => ?_)
    have hP : fw_P (dC, dI) cls_ (AA s0) w27 H := by rw [← ht]; exact hB
    obtain ⟨rfl, Fz1, rows1, hX1⟩ := hw
    refine lv_lstore_n (lv' := [(2, .long A9.1), (0, .ref (ad 0)), (1, .ref h)]) hx hb d_S_rest_6 rfl hl (by decide) rfl (fun ls hl => ?_)
    refine lv_aload_n hx hb d_S_rest_7 rfl (lv_at hl 1 rfl) ?_
    refine lv_aload_n hx hb d_S_rest_8 rfl (lv_at hl 2 rfl) ?_
    refine lv_iconst (v := (nI 1)) hx hb d_S_rest_9 (by decide) ?_
    obtain ⟨⟨g0, -⟩, -⟩ := id hX1.1.1
    have cB := c_S_askPart B0 w27 ad Fz1 P wk rows1 h kt vt k A9.2 1 n0 IH hfrA hinj hX1.1 hk hpo hkd (by omega)
    rw [hBq] at cB
    refine va_calll (rn_V (n := 2) (As := [.ref h, .int (nI 1)]) (rest := []) (C := R_S) (T := F_S) (N := 9) (ci := 2) X hP hS (cB) k_436 k_438 k_23 k_57 k_439 (by decide +kernel) rfl rfl ⟨by dsimp only; omega, by dsimp only; omega⟩ g0 rfl rfl hl.1 rfl (Nat.le_of_ble_eq_true rfl) d_S_rest_10 ⟨by dsimp only [dm, failV]; omega, by dsimp only [dm, failV]; omega⟩) hS (fun q _ h => h) (fun q h => h) (fun r w28 tS H locs ht hvm hw hB hz1 hk1 hS => ?_)
    have hP : fw_P (dC, dI) cls_ (AA s0) w28 H := by rw [← ht]; exact hB
    obtain ⟨rfl, Fz2, rows2, hX2⟩ := hw
    have hX3 := VX.tr hX1 hX2 hK1.1
    obtain ⟨⟨g0, -⟩, -⟩ := id hX3.1.1
    refine lv_lstore (lv' := [(4, .long B9.1), (2, .long A9.1), (0, .ref (ad 0)), (1, .ref h)]) hx hb d_S_rest_13 hl (by decide) rfl (fun ls hl => ?_)
    refine lv_lload hx hb d_S_rest_15 (lv_at hl 0 rfl) ?_
    refine lv_lconst (v := 0) hx hb d_S_rest_17 (by decide) ?_
    refine W.lcmp hx hb d_S_rest_18 ?_
    refine lv_if_ne (tgt := 30) hx hb d_S_rest_19 (by decide) (fun c1 => ?_) (fun c1 => ?_)
    · exact absurd ((lg_cmp_eq _ _).mpr hz) c1
    · refine lv_aload_n hx hb d_S_rest_22 rfl (lv_at hl 2 rfl) ?_
      refine lv_iconst (v := (nI 2)) hx hb d_S_rest_23 (by decide) ?_
      refine va_calll (rn_V (n := 1) (As := [.int (nI 2)]) (rest := []) (C := R_S) (T := F_S) (N := 9) (ci := 2) X hP hS (c_S_fail B0 w28 ad Fz2 P wk rows2 B9.2.2 2 hinj hX3.1.1 (by decide)) k_360 k_362 k_12 k_57 k_363 (by decide +kernel) rfl rfl ⟨by dsimp only; omega, by dsimp only; omega⟩ g0 rfl rfl hl.1 rfl (Nat.le_of_ble_eq_true rfl) d_S_rest_24 ⟨by dsimp only [dm, failV]; omega, by dsimp only [dm, failV]; omega⟩) hS (fun q _ h => h) (fun q h => h) (fun r w29 tS H locs ht hvm hw hB hz1 hk1 hS => ?_)
      have hP : fw_P (dC, dI) cls_ (AA s0) w29 H := by rw [← ht]; exact hB
      obtain ⟨rfl, hRf, hof⟩ := hw
      have hX4 := VX.tr hX3 (hX3.1.step (VQ.of (σ := B9.2.2) hRf hof)) (fun j hj => (hK1.tr hK2).1 j hj)
      refine lv_goto (tgt := 34) hx hb d_S_rest_27 (by decide) ?_
      refine W.widen (k := 3 * dm x.2 (failV 2 B9.2).2.2) (n := 11 * dm x.2 (failV 2 B9.2).2.2) (by dsimp only [dm, failV]; omega) (by dsimp only [dm, failV]; omega) ?_
      exact W.lret (v := 0) hx hb hr (fun tS ht hW => ⟨⟨0, w29, rfl, ⟨rfl, Fz2, rows2, hX4⟩, mB_of ht hP⟩, hS.F ht⟩) hS.2.2 d_S_rest_34
  · rw [if_neg hz]
    refine lv_aload_n hx hb d_S_rest_0 rfl (lv_at hl 0 rfl) ?_
    refine lv_aload_n hx hb d_S_rest_1 rfl (lv_at hl 1 rfl) ?_
    refine lv_iconst (v := (nI 0)) hx hb d_S_rest_2 (by decide) ?_
    refine va_calll (rn_V (n := 2) (As := [.ref h, .int (nI 0)]) (rest := []) (C := R_S) (T := F_S) (N := 9) (ci := 2) X hP hS (cA (by omega)) k_436 k_438 k_23 k_57 k_439 (by decide +kernel) rfl rfl ⟨by dsimp only; omega, by dsimp only; omega⟩ g0 rfl rfl hl.1 rfl (Nat.le_of_ble_eq_true rfl) d_S_rest_3 ⟨by dsimp only [dm]; omega, by dsimp only [dm]; omega⟩) hS (fun q _ h => h) (fun q h => h) (fun r w30 tS H locs ht hvm hw hB hz1 hk1 hS => ?_)
    have hP : fw_P (dC, dI) cls_ (AA s0) w30 H := by rw [← ht]; exact hB
    obtain ⟨rfl, Fz1, rows1, hX1⟩ := hw
    refine lv_lstore_n (lv' := [(2, .long A9.1), (0, .ref (ad 0)), (1, .ref h)]) hx hb d_S_rest_6 rfl hl (by decide) rfl (fun ls hl => ?_)
    refine lv_aload_n hx hb d_S_rest_7 rfl (lv_at hl 1 rfl) ?_
    refine lv_aload_n hx hb d_S_rest_8 rfl (lv_at hl 2 rfl) ?_
    refine lv_iconst (v := (nI 1)) hx hb d_S_rest_9 (by decide) ?_
    obtain ⟨⟨g0, -⟩, -⟩ := id hX1.1.1
    have cB := c_S_askPart B0 w30 ad Fz1 P wk rows1 h kt vt k A9.2 1 n0 IH hfrA hinj hX1.1 hk hpo hkd (by omega)
    rw [hBq] at cB
    refine va_calll (rn_V (n := 2) (As := [.ref h, .int (nI 1)]) (rest := []) (C := R_S) (T := F_S) (N := 9) (ci := 2) X hP hS (cB) k_436 k_438 k_23 k_57 k_439 (by decide +kernel) rfl rfl ⟨by dsimp only; omega, by dsimp only; omega⟩ g0 rfl rfl hl.1 rfl (Nat.le_of_ble_eq_true rfl) d_S_rest_10 ⟨by dsimp only [dm]; omega, by dsimp only [dm]; omega⟩) hS (fun q _ h => h) (fun q h => h) (fun r w31 tS H locs ht hvm hw hB hz1 hk1 hS => ?_)
    have hP : fw_P (dC, dI) cls_ (AA s0) w31 H := by rw [← ht]; exact hB
    obtain ⟨rfl, Fz2, rows2, hX2⟩ := hw
    have hX3 := VX.tr hX1 hX2 hK1.1
    obtain ⟨⟨g0, -⟩, -⟩ := id hX3.1.1
    refine lv_lstore (lv' := [(4, .long B9.1), (2, .long A9.1), (0, .ref (ad 0)), (1, .ref h)]) hx hb d_S_rest_13 hl (by decide) rfl (fun ls hl => ?_)
    refine lv_lload hx hb d_S_rest_15 (lv_at hl 0 rfl) ?_
    refine lv_lconst (v := 0) hx hb d_S_rest_17 (by decide) ?_
    refine W.lcmp hx hb d_S_rest_18 ?_
    refine lv_if_ne (tgt := 30) hx hb d_S_rest_19 (by decide) (fun c1 => ?_) (fun c1 => ?_)
    · refine lv_lload_n hx hb d_S_rest_30 rfl (lv_at hl 1 rfl) ?_
      refine lv_lload hx hb d_S_rest_31 (lv_at hl 0 rfl) ?_
      refine lv_lrem hx hb d_S_rest_33 hz ?_
      refine W.widen (k := 3 * dm x.2 B9.2.2) (n := 11 * dm x.2 B9.2.2) (by unfold dm; omega) (by unfold dm; omega) ?_
      exact W.lret (v := A9.1 - A9.1 / B9.1 * B9.1) hx hb hr (fun tS ht hW => ⟨⟨A9.1 - A9.1 / B9.1 * B9.1, w31, rfl, ⟨rfl, Fz2, rows2, hX3⟩, mB_of ht hP⟩, hS.F ht⟩) hS.2.2 d_S_rest_34
    · exact absurd ((lg_cmp_eq _ _).mp c1) hz
set_option maxHeartbeats 4000000 in
set_option maxRecDepth 100000 in
theorem c_S_limit {l : Launch} {s0 : State} {dC : Nat → ClassId} {dI : Nat → Nat → Nat} {dA : Nat → ClassId} (B0 : BB s0 dC dI dA) (w : fw_W) (ad : Nat → Nat) (Fz : Nat → Prop) (P : PD) (wk : Nat) (rows : Nat → Option Nat) (h kt vt k : Nat) (x : XS)  (n0 : Nat) (IH : VO l s0 dC dI dA ad P wk n0) (hfr0 : fr12 x.2 ≤ n0) (hinj : Inj ad) (hU : RU dA ad P wk h kt vt k Fz rows w x) (hk : k < 12) (hpo : p_ok P) (hkd : p_kd P k = 2) (hrl : p_rl P k = 9) : Met l y_S_limit [.code y_S_limit b_S_limit 6 (some .long)] ({ frames := 7 * n0 + 7, cells := 3 * (dm x.2 (if (askV (sv P wk (n0 + 1)) (p_pt P k 1) (askV (sv P wk (n0 + 1)) (p_pt P k 0) x).2).1 < (askV (sv P wk (n0 + 1)) (p_pt P k 0) x).1 then failV 3 (askV (sv P wk (n0 + 1)) (p_pt P k 1) (askV (sv P wk (n0 + 1)) (p_pt P k 0) x).2).2 else ((askV (sv P wk (n0 + 1)) (p_pt P k 0) x).1, (askV (sv P wk (n0 + 1)) (p_pt P k 1) (askV (sv P wk (n0 + 1)) (p_pt P k 0) x).2).2)).2.2), slots := 11 * (dm x.2 (if (askV (sv P wk (n0 + 1)) (p_pt P k 1) (askV (sv P wk (n0 + 1)) (p_pt P k 0) x).2).1 < (askV (sv P wk (n0 + 1)) (p_pt P k 0) x).1 then failV 3 (askV (sv P wk (n0 + 1)) (p_pt P k 1) (askV (sv P wk (n0 + 1)) (p_pt P k 0) x).2).2 else ((askV (sv P wk (n0 + 1)) (p_pt P k 0) x).1, (askV (sv P wk (n0 + 1)) (p_pt P k 1) (askV (sv P wk (n0 + 1)) (p_pt P k 0) x).2).2)).2.2), locals := 210 * n0 + 150 }) (mP s0 dC dI w [.ref (ad 0), .ref h]) (mQl s0 dC dI (fun r w' => r = (if (askV (sv P wk (n0 + 1)) (p_pt P k 1) (askV (sv P wk (n0 + 1)) (p_pt P k 0) x).2).1 < (askV (sv P wk (n0 + 1)) (p_pt P k 0) x).1 then failV 3 (askV (sv P wk (n0 + 1)) (p_pt P k 1) (askV (sv P wk (n0 + 1)) (p_pt P k 0) x).2).2 else ((askV (sv P wk (n0 + 1)) (p_pt P k 0) x).1, (askV (sv P wk (n0 + 1)) (p_pt P k 1) (askV (sv P wk (n0 + 1)) (p_pt P k 0) x).2).2)).1 ∧ ∃ (Fz' : Nat → Prop) (rows' : Nat → Option Nat), VX dA ad P wk h kt vt k Fz rows w x Fz' rows' w' (if (askV (sv P wk (n0 + 1)) (p_pt P k 1) (askV (sv P wk (n0 + 1)) (p_pt P k 0) x).2).1 < (askV (sv P wk (n0 + 1)) (p_pt P k 0) x).1 then failV 3 (askV (sv P wk (n0 + 1)) (p_pt P k 1) (askV (sv P wk (n0 + 1)) (p_pt P k 0) x).2).2 else ((askV (sv P wk (n0 + 1)) (p_pt P k 0) x).1, (askV (sv P wk (n0 + 1)) (p_pt P k 1) (askV (sv P wk (n0 + 1)) (p_pt P k 0) x).2).2)).2)) (3 * (dm x.2 (if (askV (sv P wk (n0 + 1)) (p_pt P k 1) (askV (sv P wk (n0 + 1)) (p_pt P k 0) x).2).1 < (askV (sv P wk (n0 + 1)) (p_pt P k 0) x).1 then failV 3 (askV (sv P wk (n0 + 1)) (p_pt P k 1) (askV (sv P wk (n0 + 1)) (p_pt P k 0) x).2).2 else ((askV (sv P wk (n0 + 1)) (p_pt P k 0) x).1, (askV (sv P wk (n0 + 1)) (p_pt P k 1) (askV (sv P wk (n0 + 1)) (p_pt P k 0) x).2).2)).2.2)) (11 * (dm x.2 (if (askV (sv P wk (n0 + 1)) (p_pt P k 1) (askV (sv P wk (n0 + 1)) (p_pt P k 0) x).2).1 < (askV (sv P wk (n0 + 1)) (p_pt P k 0) x).1 then failV 3 (askV (sv P wk (n0 + 1)) (p_pt P k 1) (askV (sv P wk (n0 + 1)) (p_pt P k 0) x).2).2 else ((askV (sv P wk (n0 + 1)) (p_pt P k 0) x).1, (askV (sv P wk (n0 + 1)) (p_pt P k 1) (askV (sv P wk (n0 + 1)) (p_pt P k 0) x).2).2)).2.2)) (AA s0) := by
  have hpk := (hpo k hk).2 hkd
  have hc3 := hpk.2.1
  have hcn : 2 ≤ p_cn P k := by have h9 := hpk.2.2.1; rw [hrl] at h9; exact h9
  have hK1 := Kp_ask (Kp_sv P wk (n0 + 1)) (p_pt P k 0) x
  have hK2 := Kp_ask (Kp_sv P wk (n0 + 1)) (p_pt P k 1) (askV (sv P wk (n0 + 1)) (p_pt P k 0) x).2
  have cA := fun hi => c_S_askPart B0 w ad Fz P wk rows h kt vt k x 0 n0 IH hfr0 hinj hU hk hpo hkd hi
  generalize hA : askV (sv P wk (n0 + 1)) (p_pt P k 0) x = A9 at hK1 hK2 cA ⊢
  generalize hBq : askV (sv P wk (n0 + 1)) (p_pt P k 1) A9.2 = B9 at hK2 ⊢
  have hm1 := hK1.2.2.1
  have hm2 := hK2.2.2.1
  have hfrA := Nat.le_trans hK1.fr hfr0
  refine mt_ofW B0 (by decide) (Nat.le_of_ble_eq_true rfl) (fun p e s m args below meth c ls hargs X hin hl hP => ?_)
  have X9 := X
  obtain ⟨hx, hb, hr, hml, hown, hg, hK, hn, hE, hlocks, hA⟩ := X9
  have hS : va_S (AA s0) s.heap s.heap [] := va_S.rf
  have hl : lv_has ls 6 [(0, .ref (ad 0)), (1, .ref h)] := hl
  obtain ⟨⟨g0, g1, g2, g3, g4⟩, hM4, hP6, hnF, hfl⟩ := (id hU.1)
  have hmF : s_md (sFail 3 B9.2.2) = s_md B9.2.2 := rfl
  rcases Classical.em (B9.1 < A9.1) with hz | hz
  · rw [if_pos hz]
    refine lv_aload_n hx hb d_S_limit_0 rfl (lv_at hl 0 rfl) ?_
    refine lv_aload_n hx hb d_S_limit_1 rfl (lv_at hl 1 rfl) ?_
    refine lv_iconst (v := (nI 0)) hx hb d_S_limit_2 (by decide) ?_
    refine va_calll (rn_V (n := 2) (As := [.ref h, .int (nI 0)]) (rest := []) (C := R_S) (T := F_S) (N := 9) (ci := 2) X hP hS (cA (by omega)) k_436 k_438 k_23 k_57 k_439 (by decide +kernel) rfl rfl ⟨by dsimp only; omega, by dsimp only; omega⟩ g0 rfl rfl hl.1 rfl (Nat.le_of_ble_eq_true rfl) d_S_limit_3 ⟨by dsimp only [dm, failV]; omega, by dsimp only [dm, failV]; omega⟩) hS (fun q _ h => h) (fun q h => h) (fun r w32 tS H locs ht hvm hw hB hz1 hk1 hS => ?_)
    have hP : fw_P (dC, dI) cls_ (AA s0) w32 H := by rw [← ht]; exact hB
    obtain ⟨rfl, Fz1, rows1, hX1⟩ := hw
    refine lv_lstore_n (lv' := [(2, .long A9.1), (0, .ref (ad 0)), (1, .ref h)]) hx hb d_S_limit_6 rfl hl (by decide) rfl (fun ls hl => ?_)
    refine lv_aload_n hx hb d_S_limit_7 rfl (lv_at hl 1 rfl) ?_
    refine lv_aload_n hx hb d_S_limit_8 rfl (lv_at hl 2 rfl) ?_
    refine lv_iconst (v := (nI 1)) hx hb d_S_limit_9 (by decide) ?_
    obtain ⟨⟨g0, -⟩, -⟩ := id hX1.1.1
    have cB := c_S_askPart B0 w32 ad Fz1 P wk rows1 h kt vt k A9.2 1 n0 IH hfrA hinj hX1.1 hk hpo hkd (by omega)
    rw [hBq] at cB
    refine va_calll (rn_V (n := 2) (As := [.ref h, .int (nI 1)]) (rest := []) (C := R_S) (T := F_S) (N := 9) (ci := 2) X hP hS (cB) k_436 k_438 k_23 k_57 k_439 (by decide +kernel) rfl rfl ⟨by dsimp only; omega, by dsimp only; omega⟩ g0 rfl rfl hl.1 rfl (Nat.le_of_ble_eq_true rfl) d_S_limit_10 ⟨by dsimp only [dm, failV]; omega, by dsimp only [dm, failV]; omega⟩) hS (fun q _ h => h) (fun q h => h) (fun r w33 tS H locs ht hvm hw hB hz1 hk1 hS => ?_)
    have hP : fw_P (dC, dI) cls_ (AA s0) w33 H := by rw [← ht]; exact hB
    obtain ⟨rfl, Fz2, rows2, hX2⟩ := hw
    have hX3 := VX.tr hX1 hX2 hK1.1
    obtain ⟨⟨g0, -⟩, -⟩ := id hX3.1.1
    refine lv_lstore (lv' := [(4, .long B9.1), (2, .long A9.1), (0, .ref (ad 0)), (1, .ref h)]) hx hb d_S_limit_13 hl (by decide) rfl (fun ls hl => ?_)
    refine lv_lload_n hx hb d_S_limit_15 rfl (lv_at hl 1 rfl) ?_
    refine lv_lload hx hb d_S_limit_16 (lv_at hl 0 rfl) ?_
    refine W.lcmp hx hb d_S_limit_18 ?_
    refine lv_if_le (tgt := 30) hx hb d_S_limit_19 (by decide) (fun c1 => ?_) (fun c1 => ?_)
    · exact absurd ((lg_cmp_le _ _).mp c1) (Int64.not_le.mpr hz)
    · refine lv_aload_n hx hb d_S_limit_22 rfl (lv_at hl 2 rfl) ?_
      refine lv_iconst (v := (nI 3)) hx hb d_S_limit_23 (by decide) ?_
      refine va_calll (rn_V (n := 1) (As := [.int (nI 3)]) (rest := []) (C := R_S) (T := F_S) (N := 9) (ci := 2) X hP hS (c_S_fail B0 w33 ad Fz2 P wk rows2 B9.2.2 3 hinj hX3.1.1 (by decide)) k_360 k_362 k_12 k_57 k_363 (by decide +kernel) rfl rfl ⟨by dsimp only; omega, by dsimp only; omega⟩ g0 rfl rfl hl.1 rfl (Nat.le_of_ble_eq_true rfl) d_S_limit_24 ⟨by dsimp only [dm, failV]; omega, by dsimp only [dm, failV]; omega⟩) hS (fun q _ h => h) (fun q h => h) (fun r w34 tS H locs ht hvm hw hB hz1 hk1 hS => ?_)
      have hP : fw_P (dC, dI) cls_ (AA s0) w34 H := by rw [← ht]; exact hB
      obtain ⟨rfl, hRf, hof⟩ := hw
      have hX4 := VX.tr hX3 (hX3.1.step (VQ.of (σ := B9.2.2) hRf hof)) (fun j hj => (hK1.tr hK2).1 j hj)
      refine lv_goto (tgt := 31) hx hb d_S_limit_27 (by decide) ?_
      refine W.widen (k := 3 * dm x.2 (failV 3 B9.2).2.2) (n := 11 * dm x.2 (failV 3 B9.2).2.2) (by dsimp only [dm, failV]; omega) (by dsimp only [dm, failV]; omega) ?_
      exact W.lret (v := 0) hx hb hr (fun tS ht hW => ⟨⟨0, w34, rfl, ⟨rfl, Fz2, rows2, hX4⟩, mB_of ht hP⟩, hS.F ht⟩) hS.2.2 d_S_limit_31
  · rw [if_neg hz]
    refine lv_aload_n hx hb d_S_limit_0 rfl (lv_at hl 0 rfl) ?_
    refine lv_aload_n hx hb d_S_limit_1 rfl (lv_at hl 1 rfl) ?_
    refine lv_iconst (v := (nI 0)) hx hb d_S_limit_2 (by decide) ?_
    refine va_calll (rn_V (n := 2) (As := [.ref h, .int (nI 0)]) (rest := []) (C := R_S) (T := F_S) (N := 9) (ci := 2) X hP hS (cA (by omega)) k_436 k_438 k_23 k_57 k_439 (by decide +kernel) rfl rfl ⟨by dsimp only; omega, by dsimp only; omega⟩ g0 rfl rfl hl.1 rfl (Nat.le_of_ble_eq_true rfl) d_S_limit_3 ⟨by dsimp only [dm]; omega, by dsimp only [dm]; omega⟩) hS (fun q _ h => h) (fun q h => h) (fun r w35 tS H locs ht hvm hw hB hz1 hk1 hS => ?_)
    have hP : fw_P (dC, dI) cls_ (AA s0) w35 H := by rw [← ht]; exact hB
    obtain ⟨rfl, Fz1, rows1, hX1⟩ := hw
    refine lv_lstore_n (lv' := [(2, .long A9.1), (0, .ref (ad 0)), (1, .ref h)]) hx hb d_S_limit_6 rfl hl (by decide) rfl (fun ls hl => ?_)
    refine lv_aload_n hx hb d_S_limit_7 rfl (lv_at hl 1 rfl) ?_
    refine lv_aload_n hx hb d_S_limit_8 rfl (lv_at hl 2 rfl) ?_
    refine lv_iconst (v := (nI 1)) hx hb d_S_limit_9 (by decide) ?_
    obtain ⟨⟨g0, -⟩, -⟩ := id hX1.1.1
    have cB := c_S_askPart B0 w35 ad Fz1 P wk rows1 h kt vt k A9.2 1 n0 IH hfrA hinj hX1.1 hk hpo hkd (by omega)
    rw [hBq] at cB
    refine va_calll (rn_V (n := 2) (As := [.ref h, .int (nI 1)]) (rest := []) (C := R_S) (T := F_S) (N := 9) (ci := 2) X hP hS (cB) k_436 k_438 k_23 k_57 k_439 (by decide +kernel) rfl rfl ⟨by dsimp only; omega, by dsimp only; omega⟩ g0 rfl rfl hl.1 rfl (Nat.le_of_ble_eq_true rfl) d_S_limit_10 ⟨by dsimp only [dm]; omega, by dsimp only [dm]; omega⟩) hS (fun q _ h => h) (fun q h => h) (fun r w36 tS H locs ht hvm hw hB hz1 hk1 hS => ?_)
    have hP : fw_P (dC, dI) cls_ (AA s0) w36 H := by rw [← ht]; exact hB
    obtain ⟨rfl, Fz2, rows2, hX2⟩ := hw
    have hX3 := VX.tr hX1 hX2 hK1.1
    obtain ⟨⟨g0, -⟩, -⟩ := id hX3.1.1
    refine lv_lstore (lv' := [(4, .long B9.1), (2, .long A9.1), (0, .ref (ad 0)), (1, .ref h)]) hx hb d_S_limit_13 hl (by decide) rfl (fun ls hl => ?_)
    refine lv_lload_n hx hb d_S_limit_15 rfl (lv_at hl 1 rfl) ?_
    refine lv_lload hx hb d_S_limit_16 (lv_at hl 0 rfl) ?_
    refine W.lcmp hx hb d_S_limit_18 ?_
    refine lv_if_le (tgt := 30) hx hb d_S_limit_19 (by decide) (fun c1 => ?_) (fun c1 => ?_)
    · refine lv_lload_n hx hb d_S_limit_30 rfl (lv_at hl 1 rfl) ?_
      refine W.widen (k := 3 * dm x.2 B9.2.2) (n := 11 * dm x.2 B9.2.2) (by unfold dm; omega) (by unfold dm; omega) ?_
      exact W.lret (v := A9.1) hx hb hr (fun tS ht hW => ⟨⟨A9.1, w36, rfl, ⟨rfl, Fz2, rows2, hX3⟩, mB_of ht hP⟩, hS.F ht⟩) hS.2.2 d_S_limit_31
    · exact absurd ((lg_cmp_le _ _).mpr (Int64.not_lt.mp hz)) c1
end
section
set_option maxHeartbeats 4000000 in
set_option maxRecDepth 100000 in
theorem c_S_sum {l : Launch} {s0 : State} {dC : Nat → ClassId} {dI : Nat → Nat → Nat} {dA : Nat → ClassId} (B0 : BB s0 dC dI dA) (w : fw_W) (ad : Nat → Nat) (Fz : Nat → Prop) (P : PD) (wk : Nat) (rows : Nat → Option Nat) (h kt vt k : Nat) (x : XS)  (n0 : Nat) (IH : VO l s0 dC dI dA ad P wk n0) (hfr0 : fr12 x.2 ≤ n0) (hinj : Inj ad) (hU : RU dA ad P wk h kt vt k Fz rows w x) (hk : k < 12) (hpo : p_ok P) (hkd : p_kd P k = 2)  : Met l y_S_sum [.code y_S_sum b_S_sum 5 (some .long)] ({ frames := 7 * n0 + 7, cells := 3 * (dm x.2 (foldV (sv P wk (n0 + 1)) (fun a b => a + b) (p_parts P k) 0 x).2.2), slots := 11 * (dm x.2 (foldV (sv P wk (n0 + 1)) (fun a b => a + b) (p_parts P k) 0 x).2.2), locals := 210 * n0 + 150 }) (mP s0 dC dI w [.ref (ad 0), .ref h]) (mQl s0 dC dI (fun r w' => r = (foldV (sv P wk (n0 + 1)) (fun a b => a + b) (p_parts P k) 0 x).1 ∧ ∃ (Fz' : Nat → Prop) (rows' : Nat → Option Nat), VX dA ad P wk h kt vt k Fz rows w x Fz' rows' w' (foldV (sv P wk (n0 + 1)) (fun a b => a + b) (p_parts P k) 0 x).2)) (3 * (dm x.2 (foldV (sv P wk (n0 + 1)) (fun a b => a + b) (p_parts P k) 0 x).2.2)) (11 * (dm x.2 (foldV (sv P wk (n0 + 1)) (fun a b => a + b) (p_parts P k) 0 x).2.2)) (AA s0) := by
  have hpk := (hpo k hk).2 hkd
  have hc3 := hpk.2.1
  generalize hfin : foldV (sv P wk (n0 + 1)) (fun a b => a + b) (p_parts P k) 0 x = fin9
  refine mt_ofW B0 (by decide) (Nat.le_of_ble_eq_true rfl) (fun p e s m args below meth c ls hargs X hin hl hP => ?_)
  have X9 := X
  obtain ⟨hx, hb, hr, hml, hown, hg, hK, hn, hE, hlocks, hA⟩ := X9
  have hS : va_S (AA s0) s.heap s.heap [] := va_S.rf
  have hl : lv_has ls 5 [(0, .ref (ad 0)), (1, .ref h)] := hl
  refine lv_lconst (v := 0) hx hb d_S_sum_0 (by decide) ?_
  refine lv_lstore_n (lv' := [(2, .long 0), (0, .ref (ad 0)), (1, .ref h)]) hx hb d_S_sum_1 rfl hl (by decide) rfl (fun ls hl => ?_)
  refine lv_iconst (v := (nI 0)) hx hb d_S_sum_2 (by decide) ?_
  refine lv_istore (lv' := [(4, .int (nI 0)), (2, .long 0), (0, .ref (ad 0)), (1, .ref h)]) hx hb d_S_sum_3 hl (by decide) rfl (fun ls hl => ?_)
  refine W.widen (k := 3 * dm x.2 x.2) (n := 11 * dm x.2 x.2) (Nat.zero_le _) (Nat.zero_le _) ?_
  suffices lp : ∀ (n : Nat) (i : Nat) (acc : Int64) (xi : XS) (Fz1 : Nat → Prop) (rows1 : Nat → Option Nat), (i ≤ p_cn P k) → (Kp x.2 xi.2) → (foldV (sv P wk (n0 + 1)) (fun a b => a + b) ((p_parts P k).drop i) acc xi = fin9) → (p_cn P k < i + n) → ∀ (wl : fw_W) (H : Heap) (locs : List Loc), (VX dA ad P wk h kt vt k Fz rows w x Fz1 rows1 wl xi) → fw_P (dC, dI) cls_ (AA s0) wl H → va_S (AA s0) s.heap H locs → ∀ (ls : Array Slot), lv_has ls 5 [(0, .ref (ad 0)), (1, .ref h), (2, .long acc), (4, .int (nI i))] → W p l e _ s m args below meth c H locs (3 * dm x.2 xi.2) (11 * dm x.2 xi.2) (MQ below _ args s (3 * dm x.2 fin9.2.2) (11 * dm x.2 fin9.2.2) (AA s0)) (F0 m 5 ls []) from lp (p_cn P k + 1) 0 0 x Fz rows (Nat.zero_le _) (Kp.rf x.2) (by rw [List.drop_zero]; exact hfin) (by omega) _ _ _  (VX.rf hU) hP hS ls (lv_sub hl [2, 3, 1, 0] rfl)
  intro n
  induction n with
  | zero => intro i acc xi Fz1 rows1 hi hKp heq hbn; exact absurd hbn (by omega)
  | succ n ih =>
    intro i acc xi Fz1 rows1 hi hKp heq hbn wl H locs  hX1 hP hS ls hl
    obtain ⟨⟨g0, g1, g2, g3, g4⟩, hM4, hP6, hnF, hfl⟩ := (id hX1.1.1)
    obtain ⟨p0, p1, p2, p3, ⟨rowsG, p4, hrowsG⟩, p5, p6, -⟩ := id hP6
    have p5k := p5 k hk
    have hrwk := hrowsG k hk
    obtain ⟨fk, fv, f1, f2, f3, hl3, hL⟩ := id hX1.1.2.1
    have hmd := hKp.2.2.1
    have hmd2 : s_md xi.2 ≤ s_md fin9.2.2 := by rw [← heq]; exact (Kp_fold (Kp_sv P wk (n0 + 1)) _ _ _ xi).2.2.1
    refine lv_iload hx hb d_S_sum_5 (lv_at hl 3 rfl) ?_
    refine lv_aload_n hx hb d_S_sum_7 rfl (lv_at hl 0 rfl) ?_
    refine va_get (D := (dC, dI)) (ci := 2) (v := .ref (ad 9)) (C := R_S) (T := F_S) (N := 9) hx hb hg in_S hown hK (hP.one g0) 0 rfl rfl 0 (by decide) (hg _ k_139) (fun _ h9 => h9) rfl d_S_sum_8 ?_
    refine va_getN (D := (dC, dI)) (ci := 1) (v := .ref (ad 14)) (C := R_P) (T := F_P) (N := 5) hx hb hg in_P hown hK (hP.one p0) 0 rfl rfl 4 (by decide) (hn _ u_94) (fun _ h9 => h9) rfl d_S_sum_11 ?_
    refine lv_aload_n hx hb d_S_sum_14 rfl (lv_at hl 1 rfl) ?_
    refine va_getN (D := (dC, dI)) (ci := 3) (v := .int (nI k)) (C := R_T) (T := F_T) (N := 5) hx hb hg in_T hown hK (hP.one f1) 0 rfl rfl 0 (by decide) (hn _ u_404) (fun _ h9 => h9) rfl d_S_sum_15 ?_
    refine fw_iald (tys := tyl dA) hx hb hK hP p6 0 rfl (j := k) (by omega) (by decide) d_S_sum_18 ?_
    refine nu_ge (tgt := 38) hx hb (by omega) (by omega) d_S_sum_19 (by decide) (fun c1 => ?_) (fun c1 => ?_)
    · rw [List.drop_eq_nil_of_le (by rw [parts_len]; omega)] at heq
      refine lv_lload_n hx hb d_S_sum_38 rfl (lv_at hl 2 rfl) ?_
      refine W.widen (k := 3 * dm x.2 fin9.2.2) (n := 11 * dm x.2 fin9.2.2) (by unfold dm; omega) (by unfold dm; omega) ?_
      exact W.lret (v := acc) hx hb hr (fun tS ht hW => ⟨⟨acc, wl, rfl, ⟨by rw [← heq]; rfl, Fz1, rows1, by rw [← heq]; exact hX1⟩, mB_of ht hP⟩, hS.F ht⟩) hS.2.2 d_S_sum_39
    · rw [parts_drop c1] at heq
      have hKa := Kp_ask (Kp_sv P wk (n0 + 1)) (p_pt P k i) xi
      have hmd3 : s_md (askV (sv P wk (n0 + 1)) (p_pt P k i) xi).2.2 ≤ s_md fin9.2.2 := by rw [← heq]; exact (Kp_fold (Kp_sv P wk (n0 + 1)) _ _ _ _).2.2.1
      have hma := hKa.2.2.1
      refine lv_lload_n hx hb d_S_sum_22 rfl (lv_at hl 2 rfl) ?_
      refine lv_aload_n hx hb d_S_sum_23 rfl (lv_at hl 0 rfl) ?_
      refine lv_aload_n hx hb d_S_sum_24 rfl (lv_at hl 1 rfl) ?_
      refine lv_iload hx hb d_S_sum_25 (lv_at hl 3 rfl) ?_
      refine va_calll (rn_V (n := 2) (As := [.ref h, .int (nI i)]) (rest := [.long acc]) (C := R_S) (T := F_S) (N := 9) (ci := 2) X hP hS (c_S_askPart B0 wl ad Fz1 P wk rows1 h kt vt k xi i n0 IH (Nat.le_trans hKp.fr hfr0) hinj hX1.1 hk hpo hkd c1) k_436 k_438 k_23 k_57 k_439 (by decide +kernel) rfl rfl ⟨by dsimp only; omega, by dsimp only; omega⟩ g0 rfl rfl hl.1 rfl (Nat.le_of_ble_eq_true rfl) d_S_sum_27 ⟨by dsimp only [dm]; omega, by dsimp only [dm]; omega⟩) hS (fun q _ h => h) (fun q h => h) (fun r w37 tS H locs ht hvm hw hB hz1 hk1 hS => ?_)
      have hP : fw_P (dC, dI) cls_ (AA s0) w37 H := by rw [← ht]; exact hB
      obtain ⟨rfl, Fz2, rows2, hX2⟩ := hw
      have hX3 := VX.tr hX1 hX2 hKp.1
      refine lv_ladd hx hb d_S_sum_30 ?_
      refine lv_lstore_n (lv' := [(2, .long (acc + ((askV (sv P wk (n0 + 1)) (p_pt P k i) xi).1))), (0, .ref (ad 0)), (1, .ref h), (4, .int (nI i))]) hx hb d_S_sum_31 rfl hl (by decide) rfl (fun ls hl => ?_)
      refine lv_iinc (v := nI (i + 1)) (lv' := [(4, .int (nI (i + 1))), (2, .long (acc + ((askV (sv P wk (n0 + 1)) (p_pt P k i) xi).1))), (0, .ref (ad 0)), (1, .ref h)]) hx hb d_S_sum_32 hl (k := 3) rfl (nI_add _ 1) (by decide) rfl (fun ls hl => ?_)
      refine lv_goto (tgt := 5) hx hb d_S_sum_35 (by decide) ?_
      refine W.widen (k := 3 * dm x.2 (askV (sv P wk (n0 + 1)) (p_pt P k i) xi).2.2) (n := 11 * dm x.2 (askV (sv P wk (n0 + 1)) (p_pt P k i) xi).2.2) (by unfold dm; omega) (by unfold dm; omega) ?_
      exact ih (i + 1) (acc + (askV (sv P wk (n0 + 1)) (p_pt P k i) xi).1) ((askV (sv P wk (n0 + 1)) (p_pt P k i) xi).2) Fz2 rows2 (by omega) (hKp.tr hKa) heq (by omega) _ _ _  hX3 hP hS ls (lv_sub hl [2, 3, 1, 0] rfl)
set_option maxHeartbeats 4000000 in
set_option maxRecDepth 100000 in
theorem c_S_product {l : Launch} {s0 : State} {dC : Nat → ClassId} {dI : Nat → Nat → Nat} {dA : Nat → ClassId} (B0 : BB s0 dC dI dA) (w : fw_W) (ad : Nat → Nat) (Fz : Nat → Prop) (P : PD) (wk : Nat) (rows : Nat → Option Nat) (h kt vt k : Nat) (x : XS)  (n0 : Nat) (IH : VO l s0 dC dI dA ad P wk n0) (hfr0 : fr12 x.2 ≤ n0) (hinj : Inj ad) (hU : RU dA ad P wk h kt vt k Fz rows w x) (hk : k < 12) (hpo : p_ok P) (hkd : p_kd P k = 2)  : Met l y_S_product [.code y_S_product b_S_product 5 (some .long)] ({ frames := 7 * n0 + 7, cells := 3 * (dm x.2 (foldV (sv P wk (n0 + 1)) (fun a b => a * b) (p_parts P k) 1 x).2.2), slots := 11 * (dm x.2 (foldV (sv P wk (n0 + 1)) (fun a b => a * b) (p_parts P k) 1 x).2.2), locals := 210 * n0 + 150 }) (mP s0 dC dI w [.ref (ad 0), .ref h]) (mQl s0 dC dI (fun r w' => r = (foldV (sv P wk (n0 + 1)) (fun a b => a * b) (p_parts P k) 1 x).1 ∧ ∃ (Fz' : Nat → Prop) (rows' : Nat → Option Nat), VX dA ad P wk h kt vt k Fz rows w x Fz' rows' w' (foldV (sv P wk (n0 + 1)) (fun a b => a * b) (p_parts P k) 1 x).2)) (3 * (dm x.2 (foldV (sv P wk (n0 + 1)) (fun a b => a * b) (p_parts P k) 1 x).2.2)) (11 * (dm x.2 (foldV (sv P wk (n0 + 1)) (fun a b => a * b) (p_parts P k) 1 x).2.2)) (AA s0) := by
  have hpk := (hpo k hk).2 hkd
  have hc3 := hpk.2.1
  generalize hfin : foldV (sv P wk (n0 + 1)) (fun a b => a * b) (p_parts P k) 1 x = fin9
  refine mt_ofW B0 (by decide) (Nat.le_of_ble_eq_true rfl) (fun p e s m args below meth c ls hargs X hin hl hP => ?_)
  have X9 := X
  obtain ⟨hx, hb, hr, hml, hown, hg, hK, hn, hE, hlocks, hA⟩ := X9
  have hS : va_S (AA s0) s.heap s.heap [] := va_S.rf
  have hl : lv_has ls 5 [(0, .ref (ad 0)), (1, .ref h)] := hl
  refine lv_lconst (v := 1) hx hb d_S_product_0 (by decide) ?_
  refine lv_lstore_n (lv' := [(2, .long 1), (0, .ref (ad 0)), (1, .ref h)]) hx hb d_S_product_1 rfl hl (by decide) rfl (fun ls hl => ?_)
  refine lv_iconst (v := (nI 0)) hx hb d_S_product_2 (by decide) ?_
  refine lv_istore (lv' := [(4, .int (nI 0)), (2, .long 1), (0, .ref (ad 0)), (1, .ref h)]) hx hb d_S_product_3 hl (by decide) rfl (fun ls hl => ?_)
  refine W.widen (k := 3 * dm x.2 x.2) (n := 11 * dm x.2 x.2) (Nat.zero_le _) (Nat.zero_le _) ?_
  suffices lp : ∀ (n : Nat) (i : Nat) (acc : Int64) (xi : XS) (Fz1 : Nat → Prop) (rows1 : Nat → Option Nat), (i ≤ p_cn P k) → (Kp x.2 xi.2) → (foldV (sv P wk (n0 + 1)) (fun a b => a * b) ((p_parts P k).drop i) acc xi = fin9) → (p_cn P k < i + n) → ∀ (wl : fw_W) (H : Heap) (locs : List Loc), (VX dA ad P wk h kt vt k Fz rows w x Fz1 rows1 wl xi) → fw_P (dC, dI) cls_ (AA s0) wl H → va_S (AA s0) s.heap H locs → ∀ (ls : Array Slot), lv_has ls 5 [(0, .ref (ad 0)), (1, .ref h), (2, .long acc), (4, .int (nI i))] → W p l e _ s m args below meth c H locs (3 * dm x.2 xi.2) (11 * dm x.2 xi.2) (MQ below _ args s (3 * dm x.2 fin9.2.2) (11 * dm x.2 fin9.2.2) (AA s0)) (F0 m 5 ls []) from lp (p_cn P k + 1) 0 1 x Fz rows (Nat.zero_le _) (Kp.rf x.2) (by rw [List.drop_zero]; exact hfin) (by omega) _ _ _  (VX.rf hU) hP hS ls (lv_sub hl [2, 3, 1, 0] rfl)
  intro n
  induction n with
  | zero => intro i acc xi Fz1 rows1 hi hKp heq hbn; exact absurd hbn (by omega)
  | succ n ih =>
    intro i acc xi Fz1 rows1 hi hKp heq hbn wl H locs  hX1 hP hS ls hl
    obtain ⟨⟨g0, g1, g2, g3, g4⟩, hM4, hP6, hnF, hfl⟩ := (id hX1.1.1)
    obtain ⟨p0, p1, p2, p3, ⟨rowsG, p4, hrowsG⟩, p5, p6, -⟩ := id hP6
    have p5k := p5 k hk
    have hrwk := hrowsG k hk
    obtain ⟨fk, fv, f1, f2, f3, hl3, hL⟩ := id hX1.1.2.1
    have hmd := hKp.2.2.1
    have hmd2 : s_md xi.2 ≤ s_md fin9.2.2 := by rw [← heq]; exact (Kp_fold (Kp_sv P wk (n0 + 1)) _ _ _ xi).2.2.1
    refine lv_iload hx hb d_S_product_5 (lv_at hl 3 rfl) ?_
    refine lv_aload_n hx hb d_S_product_7 rfl (lv_at hl 0 rfl) ?_
    refine va_get (D := (dC, dI)) (ci := 2) (v := .ref (ad 9)) (C := R_S) (T := F_S) (N := 9) hx hb hg in_S hown hK (hP.one g0) 0 rfl rfl 0 (by decide) (hg _ k_139) (fun _ h9 => h9) rfl d_S_product_8 ?_
    refine va_getN (D := (dC, dI)) (ci := 1) (v := .ref (ad 14)) (C := R_P) (T := F_P) (N := 5) hx hb hg in_P hown hK (hP.one p0) 0 rfl rfl 4 (by decide) (hn _ u_94) (fun _ h9 => h9) rfl d_S_product_11 ?_
    refine lv_aload_n hx hb d_S_product_14 rfl (lv_at hl 1 rfl) ?_
    refine va_getN (D := (dC, dI)) (ci := 3) (v := .int (nI k)) (C := R_T) (T := F_T) (N := 5) hx hb hg in_T hown hK (hP.one f1) 0 rfl rfl 0 (by decide) (hn _ u_404) (fun _ h9 => h9) rfl d_S_product_15 ?_
    refine fw_iald (tys := tyl dA) hx hb hK hP p6 0 rfl (j := k) (by omega) (by decide) d_S_product_18 ?_
    refine nu_ge (tgt := 38) hx hb (by omega) (by omega) d_S_product_19 (by decide) (fun c1 => ?_) (fun c1 => ?_)
    · rw [List.drop_eq_nil_of_le (by rw [parts_len]; omega)] at heq
      refine lv_lload_n hx hb d_S_product_38 rfl (lv_at hl 2 rfl) ?_
      refine W.widen (k := 3 * dm x.2 fin9.2.2) (n := 11 * dm x.2 fin9.2.2) (by unfold dm; omega) (by unfold dm; omega) ?_
      exact W.lret (v := acc) hx hb hr (fun tS ht hW => ⟨⟨acc, wl, rfl, ⟨by rw [← heq]; rfl, Fz1, rows1, by rw [← heq]; exact hX1⟩, mB_of ht hP⟩, hS.F ht⟩) hS.2.2 d_S_product_39
    · rw [parts_drop c1] at heq
      have hKa := Kp_ask (Kp_sv P wk (n0 + 1)) (p_pt P k i) xi
      have hmd3 : s_md (askV (sv P wk (n0 + 1)) (p_pt P k i) xi).2.2 ≤ s_md fin9.2.2 := by rw [← heq]; exact (Kp_fold (Kp_sv P wk (n0 + 1)) _ _ _ _).2.2.1
      have hma := hKa.2.2.1
      refine lv_lload_n hx hb d_S_product_22 rfl (lv_at hl 2 rfl) ?_
      refine lv_aload_n hx hb d_S_product_23 rfl (lv_at hl 0 rfl) ?_
      refine lv_aload_n hx hb d_S_product_24 rfl (lv_at hl 1 rfl) ?_
      refine lv_iload hx hb d_S_product_25 (lv_at hl 3 rfl) ?_
      refine va_calll (rn_V (n := 2) (As := [.ref h, .int (nI i)]) (rest := [.long acc]) (C := R_S) (T := F_S) (N := 9) (ci := 2) X hP hS (c_S_askPart B0 wl ad Fz1 P wk rows1 h kt vt k xi i n0 IH (Nat.le_trans hKp.fr hfr0) hinj hX1.1 hk hpo hkd c1) k_436 k_438 k_23 k_57 k_439 (by decide +kernel) rfl rfl ⟨by dsimp only; omega, by dsimp only; omega⟩ g0 rfl rfl hl.1 rfl (Nat.le_of_ble_eq_true rfl) d_S_product_27 ⟨by dsimp only [dm]; omega, by dsimp only [dm]; omega⟩) hS (fun q _ h => h) (fun q h => h) (fun r w38 tS H locs ht hvm hw hB hz1 hk1 hS => ?_)
      have hP : fw_P (dC, dI) cls_ (AA s0) w38 H := by rw [← ht]; exact hB
      obtain ⟨rfl, Fz2, rows2, hX2⟩ := hw
      have hX3 := VX.tr hX1 hX2 hKp.1
      refine lv_lmul hx hb d_S_product_30 ?_
      refine lv_lstore_n (lv' := [(2, .long (acc * ((askV (sv P wk (n0 + 1)) (p_pt P k i) xi).1))), (0, .ref (ad 0)), (1, .ref h), (4, .int (nI i))]) hx hb d_S_product_31 rfl hl (by decide) rfl (fun ls hl => ?_)
      refine lv_iinc (v := nI (i + 1)) (lv' := [(4, .int (nI (i + 1))), (2, .long (acc * ((askV (sv P wk (n0 + 1)) (p_pt P k i) xi).1))), (0, .ref (ad 0)), (1, .ref h)]) hx hb d_S_product_32 hl (k := 3) rfl (nI_add _ 1) (by decide) rfl (fun ls hl => ?_)
      refine lv_goto (tgt := 5) hx hb d_S_product_35 (by decide) ?_
      refine W.widen (k := 3 * dm x.2 (askV (sv P wk (n0 + 1)) (p_pt P k i) xi).2.2) (n := 11 * dm x.2 (askV (sv P wk (n0 + 1)) (p_pt P k i) xi).2.2) (by unfold dm; omega) (by unfold dm; omega) ?_
      exact ih (i + 1) (acc * (askV (sv P wk (n0 + 1)) (p_pt P k i) xi).1) ((askV (sv P wk (n0 + 1)) (p_pt P k i) xi).2) Fz2 rows2 (by omega) (hKp.tr hKa) heq (by omega) _ _ _  hX3 hP hS ls (lv_sub hl [2, 3, 1, 0] rfl)
set_option maxHeartbeats 4000000 in
set_option maxRecDepth 100000 in
theorem c_S_greatest {l : Launch} {s0 : State} {dC : Nat → ClassId} {dI : Nat → Nat → Nat} {dA : Nat → ClassId} (B0 : BB s0 dC dI dA) (w : fw_W) (ad : Nat → Nat) (Fz : Nat → Prop) (P : PD) (wk : Nat) (rows : Nat → Option Nat) (h kt vt k : Nat) (x : XS)  (n0 : Nat) (IH : VO l s0 dC dI dA ad P wk n0) (hfr0 : fr12 x.2 ≤ n0) (hinj : Inj ad) (hU : RU dA ad P wk h kt vt k Fz rows w x) (hk : k < 12) (hpo : p_ok P) (hkd : p_kd P k = 2)  : Met l y_S_greatest [.code y_S_greatest b_S_greatest 5 (some .long)] ({ frames := 7 * n0 + 7, cells := 3 * (dm x.2 (if p_cn P k = 0 then failV 1 x else foldV (sv P wk (n0 + 1)) (fun a b => if a < b then b else a) ((p_parts P k).drop 1) (askV (sv P wk (n0 + 1)) (p_pt P k 0) x).1 (askV (sv P wk (n0 + 1)) (p_pt P k 0) x).2).2.2), slots := 11 * (dm x.2 (if p_cn P k = 0 then failV 1 x else foldV (sv P wk (n0 + 1)) (fun a b => if a < b then b else a) ((p_parts P k).drop 1) (askV (sv P wk (n0 + 1)) (p_pt P k 0) x).1 (askV (sv P wk (n0 + 1)) (p_pt P k 0) x).2).2.2), locals := 210 * n0 + 150 }) (mP s0 dC dI w [.ref (ad 0), .ref h]) (mQl s0 dC dI (fun r w' => r = (if p_cn P k = 0 then failV 1 x else foldV (sv P wk (n0 + 1)) (fun a b => if a < b then b else a) ((p_parts P k).drop 1) (askV (sv P wk (n0 + 1)) (p_pt P k 0) x).1 (askV (sv P wk (n0 + 1)) (p_pt P k 0) x).2).1 ∧ ∃ (Fz' : Nat → Prop) (rows' : Nat → Option Nat), VX dA ad P wk h kt vt k Fz rows w x Fz' rows' w' (if p_cn P k = 0 then failV 1 x else foldV (sv P wk (n0 + 1)) (fun a b => if a < b then b else a) ((p_parts P k).drop 1) (askV (sv P wk (n0 + 1)) (p_pt P k 0) x).1 (askV (sv P wk (n0 + 1)) (p_pt P k 0) x).2).2)) (3 * (dm x.2 (if p_cn P k = 0 then failV 1 x else foldV (sv P wk (n0 + 1)) (fun a b => if a < b then b else a) ((p_parts P k).drop 1) (askV (sv P wk (n0 + 1)) (p_pt P k 0) x).1 (askV (sv P wk (n0 + 1)) (p_pt P k 0) x).2).2.2)) (11 * (dm x.2 (if p_cn P k = 0 then failV 1 x else foldV (sv P wk (n0 + 1)) (fun a b => if a < b then b else a) ((p_parts P k).drop 1) (askV (sv P wk (n0 + 1)) (p_pt P k 0) x).1 (askV (sv P wk (n0 + 1)) (p_pt P k 0) x).2).2.2)) (AA s0) := by
  have hpk := (hpo k hk).2 hkd
  have hc3 := hpk.2.1
  have hK1 := Kp_ask (Kp_sv P wk (n0 + 1)) (p_pt P k 0) x
  have cA := fun hi => c_S_askPart B0 w ad Fz P wk rows h kt vt k x 0 n0 IH hfr0 hinj hU hk hpo hkd hi
  generalize hA : askV (sv P wk (n0 + 1)) (p_pt P k 0) x = A9 at hK1 cA ⊢
  have hm1 := hK1.2.2.1
  have hfrA := Nat.le_trans hK1.fr hfr0
  refine mt_ofW B0 (by decide) (Nat.le_of_ble_eq_true rfl) (fun p e s m args below meth c ls hargs X hin hl hP => ?_)
  have X9 := X
  obtain ⟨hx, hb, hr, hml, hown, hg, hK, hn, hE, hlocks, hA⟩ := X9
  have hS : va_S (AA s0) s.heap s.heap [] := va_S.rf
  have hl : lv_has ls 5 [(0, .ref (ad 0)), (1, .ref h)] := hl
  obtain ⟨⟨g0, g1, g2, g3, g4⟩, hM4, hP6, hnF, hfl⟩ := (id hU.1)
  obtain ⟨p0, p1, p2, p3, ⟨rowsG, p4, hrowsG⟩, p5, p6, -⟩ := id hP6
  have p5k := p5 k hk
  have hrwk := hrowsG k hk
  obtain ⟨fk, fv, f1, f2, f3, hl3, hL⟩ := id hU.2.1
  rcases Classical.em (p_cn P k = 0) with hz | hz
  · rw [if_pos hz]
    refine lv_aload_n hx hb d_S_greatest_0 rfl (lv_at hl 0 rfl) ?_
    refine va_get (D := (dC, dI)) (ci := 2) (v := .ref (ad 9)) (C := R_S) (T := F_S) (N := 9) hx hb hg in_S hown hK (hP.one g0) 0 rfl rfl 0 (by decide) (hg _ k_139) (fun _ h9 => h9) rfl d_S_greatest_1 ?_
    refine va_getN (D := (dC, dI)) (ci := 1) (v := .ref (ad 14)) (C := R_P) (T := F_P) (N := 5) hx hb hg in_P hown hK (hP.one p0) 0 rfl rfl 4 (by decide) (hn _ u_94) (fun _ h9 => h9) rfl d_S_greatest_4 ?_
    refine lv_aload_n hx hb d_S_greatest_7 rfl (lv_at hl 1 rfl) ?_
    refine va_getN (D := (dC, dI)) (ci := 3) (v := .int (nI k)) (C := R_T) (T := F_T) (N := 5) hx hb hg in_T hown hK (hP.one f1) 0 rfl rfl 0 (by decide) (hn _ u_404) (fun _ h9 => h9) rfl d_S_greatest_8 ?_
    refine fw_iald (tys := tyl dA) hx hb hK hP p6 0 rfl (j := k) (by omega) (by decide) d_S_greatest_11 ?_
    refine lv_if_ne (tgt := 21) hx hb d_S_greatest_12 (by decide) (fun c1 => ?_) (fun c1 => ?_)
    · exact absurd (show nI (p_cn P k) = 0 by rw [hz]; rfl) c1
    · refine lv_aload_n hx hb d_S_greatest_15 rfl (lv_at hl 0 rfl) ?_
      refine lv_iconst (v := (nI 1)) hx hb d_S_greatest_16 (by decide) ?_
      have hmF : s_md (sFail 1 x.2) = s_md x.2 := rfl
      refine va_calll (rn_V (n := 1) (As := [.int (nI 1)]) (rest := []) (C := R_S) (T := F_S) (N := 9) (ci := 2) X hP hS (c_S_fail B0 w ad Fz P wk rows x.2 1 hinj hU.1 (by decide)) k_360 k_362 k_12 k_57 k_363 (by decide +kernel) rfl rfl ⟨by dsimp only; omega, by dsimp only; omega⟩ g0 rfl rfl hl.1 rfl (Nat.le_of_ble_eq_true rfl) d_S_greatest_17 ⟨by dsimp only [dm, failV]; omega, by dsimp only [dm, failV]; omega⟩) hS (fun q _ h => h) (fun q h => h) (fun r w39 tS H locs ht hvm hw hB hz1 hk1 hS => ?_)
      have hP : fw_P (dC, dI) cls_ (AA s0) w39 H := by rw [← ht]; exact hB
      obtain ⟨rfl, hRf, hof⟩ := hw
      have hX4 := hU.step (VQ.of (σ := x.2) hRf hof)
      refine W.widen (k := 3 * dm x.2 (failV 1 x).2.2) (n := 11 * dm x.2 (failV 1 x).2.2) (by omega) (by omega) ?_
      exact W.lret (v := 0) hx hb hr (fun tS ht hW => ⟨⟨0, w39, rfl, ⟨rfl, Fz, rows, hX4⟩, mB_of ht hP⟩, hS.F ht⟩) hS.2.2 d_S_greatest_20
  · rw [if_neg hz]
    have hmF : s_md A9.2.2 ≤ s_md (foldV (sv P wk (n0 + 1)) (fun a b => if a < b then b else a) ((p_parts P k).drop 1) A9.1 A9.2).2.2 := (Kp_fold (Kp_sv P wk (n0 + 1)) _ _ _ A9.2).2.2.1
    generalize hfin : foldV (sv P wk (n0 + 1)) (fun a b => if a < b then b else a) ((p_parts P k).drop 1) A9.1 A9.2 = fin9 at hmF ⊢
    refine lv_aload_n hx hb d_S_greatest_0 rfl (lv_at hl 0 rfl) ?_
    refine va_get (D := (dC, dI)) (ci := 2) (v := .ref (ad 9)) (C := R_S) (T := F_S) (N := 9) hx hb hg in_S hown hK (hP.one g0) 0 rfl rfl 0 (by decide) (hg _ k_139) (fun _ h9 => h9) rfl d_S_greatest_1 ?_
    refine va_getN (D := (dC, dI)) (ci := 1) (v := .ref (ad 14)) (C := R_P) (T := F_P) (N := 5) hx hb hg in_P hown hK (hP.one p0) 0 rfl rfl 4 (by decide) (hn _ u_94) (fun _ h9 => h9) rfl d_S_greatest_4 ?_
    refine lv_aload_n hx hb d_S_greatest_7 rfl (lv_at hl 1 rfl) ?_
    refine va_getN (D := (dC, dI)) (ci := 3) (v := .int (nI k)) (C := R_T) (T := F_T) (N := 5) hx hb hg in_T hown hK (hP.one f1) 0 rfl rfl 0 (by decide) (hn _ u_404) (fun _ h9 => h9) rfl d_S_greatest_8 ?_
    refine fw_iald (tys := tyl dA) hx hb hK hP p6 0 rfl (j := k) (by omega) (by decide) d_S_greatest_11 ?_
    refine lv_if_ne (tgt := 21) hx hb d_S_greatest_12 (by decide) (fun c1 => ?_) (fun c1 => ?_)
    · refine lv_aload_n hx hb d_S_greatest_21 rfl (lv_at hl 0 rfl) ?_
      refine lv_aload_n hx hb d_S_greatest_22 rfl (lv_at hl 1 rfl) ?_
      refine lv_iconst (v := (nI 0)) hx hb d_S_greatest_23 (by decide) ?_
      refine va_calll (rn_V (n := 2) (As := [.ref h, .int (nI 0)]) (rest := []) (C := R_S) (T := F_S) (N := 9) (ci := 2) X hP hS (cA (by omega)) k_436 k_438 k_23 k_57 k_439 (by decide +kernel) rfl rfl ⟨by dsimp only; omega, by dsimp only; omega⟩ g0 rfl rfl hl.1 rfl (Nat.le_of_ble_eq_true rfl) d_S_greatest_24 ⟨by dsimp only [dm]; omega, by dsimp only [dm]; omega⟩) hS (fun q _ h => h) (fun q h => h) (fun r w40 tS H locs ht hvm hw hB hz1 hk1 hS => ?_)
      have hP : fw_P (dC, dI) cls_ (AA s0) w40 H := by rw [← ht]; exact hB
      obtain ⟨rfl, Fz1, rows1, hX1⟩ := hw
      refine lv_lstore_n (lv' := [(2, .long A9.1), (0, .ref (ad 0)), (1, .ref h)]) hx hb d_S_greatest_27 rfl hl (by decide) rfl (fun ls hl => ?_)
      refine lv_iconst (v := (nI 1)) hx hb d_S_greatest_28 (by decide) ?_
      refine lv_istore (lv' := [(4, .int (nI 1)), (2, .long A9.1), (0, .ref (ad 0)), (1, .ref h)]) hx hb d_S_greatest_29 hl (by decide) rfl (fun ls hl => ?_)
      refine W.widen (k := 3 * dm x.2 A9.2.2) (n := 11 * dm x.2 A9.2.2) (by unfold dm; omega) (by unfold dm; omega) ?_
      suffices lp : ∀ (n : Nat) (i : Nat) (acc : Int64) (xi : XS) (Fz2 : Nat → Prop) (rows2 : Nat → Option Nat), (i ≤ p_cn P k) → (Kp x.2 xi.2) → (foldV (sv P wk (n0 + 1)) (fun a b => if a < b then b else a) ((p_parts P k).drop i) acc xi = fin9) → (p_cn P k < i + n) → ∀ (wl : fw_W) (H : Heap) (locs : List Loc), (VX dA ad P wk h kt vt k Fz rows w x Fz2 rows2 wl xi) → fw_P (dC, dI) cls_ (AA s0) wl H → va_S (AA s0) s.heap H locs → ∀ (ls : Array Slot), lv_has ls 5 [(0, .ref (ad 0)), (1, .ref h), (2, .long acc), (4, .int (nI i))] → W p l e _ s m args below meth c H locs (3 * dm x.2 xi.2) (11 * dm x.2 xi.2) (MQ below _ args s (3 * dm x.2 fin9.2.2) (11 * dm x.2 fin9.2.2) (AA s0)) (F0 m 31 ls []) from lp (p_cn P k + 1) 1 A9.1 A9.2 Fz1 rows1 (by omega) hK1 hfin (by omega) _ _ _  hX1 hP hS ls (lv_sub hl [2, 3, 1, 0] rfl)
      intro n
      induction n with
      | zero => intro i acc xi Fz2 rows2 hi hKp heq hbn; exact absurd hbn (by omega)
      | succ n ih =>
        intro i acc xi Fz2 rows2 hi hKp heq hbn wl H locs  hX2 hP hS ls hl
        obtain ⟨⟨g0, g1, g2, g3, g4⟩, hM4, hP6, hnF, hfl⟩ := (id hX2.1.1)
        obtain ⟨p0, p1, p2, p3, ⟨rowsG, p4, hrowsG⟩, p5, p6, -⟩ := id hP6
        have p5k := p5 k hk
        have hrwk := hrowsG k hk
        obtain ⟨fk, fv, f1, f2, f3, hl3, hL⟩ := id hX2.1.2.1
        have hmd := hKp.2.2.1
        have hmd2 : s_md xi.2 ≤ s_md fin9.2.2 := by rw [← heq]; exact (Kp_fold (Kp_sv P wk (n0 + 1)) _ _ _ xi).2.2.1
        refine lv_iload hx hb d_S_greatest_31 (lv_at hl 3 rfl) ?_
        refine lv_aload_n hx hb d_S_greatest_33 rfl (lv_at hl 0 rfl) ?_
        refine va_get (D := (dC, dI)) (ci := 2) (v := .ref (ad 9)) (C := R_S) (T := F_S) (N := 9) hx hb hg in_S hown hK (hP.one g0) 0 rfl rfl 0 (by decide) (hg _ k_139) (fun _ h9 => h9) rfl d_S_greatest_34 ?_
        refine va_getN (D := (dC, dI)) (ci := 1) (v := .ref (ad 14)) (C := R_P) (T := F_P) (N := 5) hx hb hg in_P hown hK (hP.one p0) 0 rfl rfl 4 (by decide) (hn _ u_94) (fun _ h9 => h9) rfl d_S_greatest_37 ?_
        refine lv_aload_n hx hb d_S_greatest_40 rfl (lv_at hl 1 rfl) ?_
        refine va_getN (D := (dC, dI)) (ci := 3) (v := .int (nI k)) (C := R_T) (T := F_T) (N := 5) hx hb hg in_T hown hK (hP.one f1) 0 rfl rfl 0 (by decide) (hn _ u_404) (fun _ h9 => h9) rfl d_S_greatest_41 ?_
        refine fw_iald (tys := tyl dA) hx hb hK hP p6 0 rfl (j := k) (by omega) (by decide) d_S_greatest_44 ?_
        refine nu_ge (tgt := 66) hx hb (by omega) (by omega) d_S_greatest_45 (by decide) (fun c2 => ?_) (fun c2 => ?_)
        · rw [List.drop_eq_nil_of_le (by rw [parts_len]; omega)] at heq
          refine lv_lload_n hx hb d_S_greatest_66 rfl (lv_at hl 2 rfl) ?_
          refine W.widen (k := 3 * dm x.2 fin9.2.2) (n := 11 * dm x.2 fin9.2.2) (by unfold dm; omega) (by unfold dm; omega) ?_
          exact W.lret (v := acc) hx hb hr (fun tS ht hW => ⟨⟨acc, wl, rfl, ⟨by rw [← heq]; rfl, Fz2, rows2, by rw [← heq]; exact hX2⟩, mB_of ht hP⟩, hS.F ht⟩) hS.2.2 d_S_greatest_67
        · rw [parts_drop c2] at heq
          have hKa := Kp_ask (Kp_sv P wk (n0 + 1)) (p_pt P k i) xi
          have hmd3 : s_md (askV (sv P wk (n0 + 1)) (p_pt P k i) xi).2.2 ≤ s_md fin9.2.2 := by rw [← heq]; exact (Kp_fold (Kp_sv P wk (n0 + 1)) _ _ _ _).2.2.1
          have hma := hKa.2.2.1
          refine lv_lload_n hx hb d_S_greatest_48 rfl (lv_at hl 2 rfl) ?_
          refine lv_aload_n hx hb d_S_greatest_49 rfl (lv_at hl 0 rfl) ?_
          refine lv_aload_n hx hb d_S_greatest_50 rfl (lv_at hl 1 rfl) ?_
          refine lv_iload hx hb d_S_greatest_51 (lv_at hl 3 rfl) ?_
          refine va_calll (rn_V (n := 2) (As := [.ref h, .int (nI i)]) (rest := [.long acc]) (C := R_S) (T := F_S) (N := 9) (ci := 2) X hP hS (c_S_askPart B0 wl ad Fz2 P wk rows2 h kt vt k xi i n0 IH (Nat.le_trans hKp.fr hfr0) hinj hX2.1 hk hpo hkd c2) k_436 k_438 k_23 k_57 k_439 (by decide +kernel) rfl rfl ⟨by dsimp only; omega, by dsimp only; omega⟩ g0 rfl rfl hl.1 rfl (Nat.le_of_ble_eq_true rfl) d_S_greatest_53 ⟨by dsimp only [dm]; omega, by dsimp only [dm]; omega⟩) hS (fun q _ h => h) (fun q h => h) (fun r w41 tS H locs ht hvm hw hB hz1 hk1 hS => ?_)
          have hP : fw_P (dC, dI) cls_ (AA s0) w41 H := by rw [← ht]; exact hB
          obtain ⟨rfl, Fz3, rows3, hX3⟩ := hw
          have hX4 := VX.tr hX2 hX3 hKp.1
          refine va_calll (rn_S (n := 2) (As := [.long acc, .long ((askV (sv P wk (n0 + 1)) (p_pt P k i) xi).1)]) (rest := []) X hP hS (c_J_max B0 w41 acc (askV (sv P wk (n0 + 1)) (p_pt P k i) xi).1) k_472 k_473 k_65 k_474 (by decide +kernel) rfl rfl ⟨by dsimp only; omega, by dsimp only; omega⟩ rfl hl.1 rfl (Nat.le_of_ble_eq_true rfl) d_S_greatest_56 ⟨by dsimp only [dm]; omega, by dsimp only [dm]; omega⟩) hS (fun q _ h => h) (fun q h => h) (fun r w42 tS H locs ht hvm hw hB hz1 hk1 hS => ?_)
          have hP : fw_P (dC, dI) cls_ (AA s0) w42 H := by rw [← ht]; exact hB
          obtain ⟨ew8, rfl⟩ := hw
          rw [ew8] at hP
          refine lv_lstore_n (lv' := [(2, .long (if acc < (askV (sv P wk (n0 + 1)) (p_pt P k i) xi).1 then (askV (sv P wk (n0 + 1)) (p_pt P k i) xi).1 else acc)), (0, .ref (ad 0)), (1, .ref h), (4, .int (nI i))]) hx hb d_S_greatest_59 rfl hl (by decide) rfl (fun ls hl => ?_)
          refine lv_iinc (v := nI (i + 1)) (lv' := [(4, .int (nI (i + 1))), (2, .long (if acc < (askV (sv P wk (n0 + 1)) (p_pt P k i) xi).1 then (askV (sv P wk (n0 + 1)) (p_pt P k i) xi).1 else acc)), (0, .ref (ad 0)), (1, .ref h)]) hx hb d_S_greatest_60 hl (k := 3) rfl (nI_add _ 1) (by decide) rfl (fun ls hl => ?_)
          refine lv_goto (tgt := 31) hx hb d_S_greatest_63 (by decide) ?_
          refine W.widen (k := 3 * dm x.2 (askV (sv P wk (n0 + 1)) (p_pt P k i) xi).2.2) (n := 11 * dm x.2 (askV (sv P wk (n0 + 1)) (p_pt P k i) xi).2.2) (by unfold dm; omega) (by unfold dm; omega) ?_
          exact ih (i + 1) (if acc < (askV (sv P wk (n0 + 1)) (p_pt P k i) xi).1 then (askV (sv P wk (n0 + 1)) (p_pt P k i) xi).1 else acc) ((askV (sv P wk (n0 + 1)) (p_pt P k i) xi).2) Fz3 rows3 (by omega) (hKp.tr hKa) heq (by omega) _ _ _  hX4 hP hS ls (lv_sub hl [2, 3, 1, 0] rfl)
    · exact absurd ((nI_eq (by omega) (by decide)).mp c1) hz
end
section
theorem xor_neg (a b : Int64) (hb : b.toBitVec.msb = false) : (a ^^^ b) < 0 ↔ a < 0 := by
  rw [Int64.lt_iff_toInt_lt, Int64.lt_iff_toInt_lt, Int64.toInt_zero]
  have h1 := BitVec.msb_eq_toInt (x := (a ^^^ b).toBitVec)
  have h2 := BitVec.msb_eq_toInt (x := a.toBitVec)
  rw [Int64.toBitVec_xor, BitVec.msb_xor, hb, Bool.xor_false] at h1
  have e1 : decide ((a ^^^ b).toInt < 0) = decide (a.toInt < 0) := h1.symm.trans h2
  exact decide_eq_decide.mp e1
theorem tdiv_two (A B : Int) : (0 ≤ A → A.tdiv B = A / B) ∧ (A < 0 → A.tdiv B = -((-A) / B)) := by
  refine ⟨fun h => Int.tdiv_eq_ediv_of_nonneg h, fun h => ?_⟩
  have e : A.tdiv B = -((-A).tdiv B) := by rw [Int.neg_tdiv, Int.neg_neg]
  rw [e, Int.tdiv_eq_ediv_of_nonneg (by omega)]
theorem rem_12 (a b : Int64) (B : Int) (hb : b.toInt = B) (hB : B = 12 ∨ B = 4) : ∃ r : Int, (a - a / b * b).toInt = r ∧ (0 ≤ a.toInt → 0 ≤ r ∧ r < B) ∧ (a.toInt < 0 → -B < r ∧ r ≤ 0) := by
  have h1 := Int64.toInt_lt a
  have h2 := Int64.le_toInt a
  obtain ⟨t1, t2⟩ := tdiv_two a.toInt B
  have hd : (a / b).toInt = (a.toInt.tdiv B).bmod (2 ^ 64) := by rw [Int64.toInt_div, hb]
  generalize a.toInt.tdiv B = q at t1 t2 hd
  have hm : (a / b * b).toInt = ((a / b).toInt * B).bmod (2 ^ 64) := by rw [Int64.toInt_mul, hb]
  have hs : (a - a / b * b).toInt = (a.toInt - (a / b * b).toInt).bmod (2 ^ 64) := by rw [Int64.toInt_sub]
  generalize a.toInt = A at *
  have hq : q.bmod (2 ^ 64) = q := Int.bmod_eq_of_le (by rcases hB with rfl | rfl <;> omega) (by rcases hB with rfl | rfl <;> omega)
  rw [hq] at hd
  rw [hd] at hm
  have hqB : (q * B).bmod (2 ^ 64) = q * B := Int.bmod_eq_of_le (by rcases hB with rfl | rfl <;> omega) (by rcases hB with rfl | rfl <;> omega)
  rw [hqB] at hm
  rw [hm] at hs
  have hr : (A - q * B).bmod (2 ^ 64) = A - q * B := Int.bmod_eq_of_le (by rcases hB with rfl | rfl <;> omega) (by rcases hB with rfl | rfl <;> omega)
  rw [hr] at hs
  refine ⟨A - q * B, hs, fun h => ?_, fun h => ?_⟩
  · rcases hB with rfl | rfl <;> omega
  · rcases hB with rfl | rfl <;> omega
theorem fMod_lN (a b : Int64) (B : Nat) (hb : b.toInt = B) (hB : B = 12 ∨ B = 4) (hm : b.toBitVec.msb = false) : ∃ t : Nat, t < B ∧ fMod a b = lN t := by
  obtain ⟨r, hr, r1, r2⟩ := rem_12 a b B hb (by omega)
  unfold fMod
  have hx := xor_neg a b hm
  by_cases h : (a - a / b * b) ≠ 0 ∧ (a ^^^ b) < 0
  · rw [if_pos h]
    have ha : a.toInt < 0 := by have := hx.mp h.2; rw [Int64.lt_iff_toInt_lt, Int64.toInt_zero] at this; exact this
    have hr0 : r ≠ 0 := fun e => h.1 (Int64.toInt_inj.mp (by rw [hr, e, Int64.toInt_zero]))
    have r3 := r2 ha
    refine ⟨(r + B).toNat, by omega, Int64.toInt_inj.mp ?_⟩
    rw [Int64.toInt_add, hr, hb, lN_toInt (by omega)]
    rw [Int.bmod_eq_of_le (by omega) (by omega)]
    omega
  · rw [if_neg h]
    have hr0 : 0 ≤ r ∧ r < B := by
      by_cases ha : 0 ≤ a.toInt
      · exact r1 ha
      · have r3 := r2 (by omega)
        have : r = 0 := Classical.byContradiction fun hne => h ⟨fun e => hne (by rw [← hr, e, Int64.toInt_zero]), hx.mpr (by rw [Int64.lt_iff_toInt_lt, Int64.toInt_zero]; omega)⟩
        omega
    refine ⟨r.toNat, by omega, Int64.toInt_inj.mp ?_⟩
    rw [hr, lN_toInt (by omega)]
    omega
theorem fMod_nI (a b : Int64) (B : Nat) (hb : b.toInt = B) (hB : B = 12 ∨ B = 4) (hm : b.toBitVec.msb = false) : (fMod a b).toInt32 = nI (fMod a b).toInt32.toNatClampNeg ∧ (fMod a b).toInt32.toNatClampNeg < B := by
  obtain ⟨t, h1, h2⟩ := fMod_lN a b B hb hB hm
  rw [h2, lN_i, nI_clamp (by omega)]
  exact ⟨rfl, h1⟩
theorem fMod12 (a : Int64) : (fMod a 12).toInt32 = nI (fMod a 12).toInt32.toNatClampNeg ∧ (fMod a 12).toInt32.toNatClampNeg < 12 := fMod_nI a 12 12 (by decide) (by decide) (by decide)
theorem fMod4 (a : Int64) : (fMod a 4).toInt32 = nI (fMod a 4).toInt32.toNatClampNeg ∧ (fMod a 4).toInt32.toNatClampNeg < 4 := fMod_nI a 4 4 (by decide) (by decide) (by decide)
end
