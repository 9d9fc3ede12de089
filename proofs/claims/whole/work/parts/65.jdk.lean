theorem mt_ofWF {l : Launch} {s0 : State} {dC : Nat → ClassId} {dI : Nat → Nat → Nat} {dA : Nat → ClassId} (B0 : BB s0 dC dI dA) {y : MethodName} {cc : ByteArray} {nL : Nat} {ret : Option FieldType} {rm : Room} {w : fw_W} {av : List Value} {Qc : Array Value → State → Outcome → State → Prop} {mc ms : Nat}
    (hy : plainFor y = true) (hn : (lg_sl av).length ≤ nL)
    (body : ∀ (p : Program) (e : Env) (s : State) (m : MethodId) (args : Array Value) (below : List Frame) (meth : Method) (c : Code) (ls : Array Slot), args = av.toArray → CX s0 dC dI dA y.cls cc nL ret p s m args meth c → (y.name = "<init>" → meth.name = "<init>") → lv_has ls nL (lv_args 0 av) → fw_P (dC, dI) cls_ (AA s0) w s.heap →
      W p l e rm s m args below meth c s.heap [] 0 0 (MQ below Qc args s mc ms (AA s0)) (F0 m 0 ls [])) : Met l y [.code y cc nL ret] rm (mP s0 dC dI w av) Qc mc ms (AA s0) := by
  refine MetFree.of_bodySF (code := cc) (maxLocals := nL) (ret := ret) hy ?_ ?_
  · intro args s m h hn9
    obtain ⟨meth, c, h1, h2, h3, h4, h5, h6, -, -⟩ := Cond.code_spec hn9 (atoms_spec (ws := [Cond.code y cc nL ret]) h _ List.mem_cons_self)
    exact ⟨meth, c, h1, h2, h3, h4, h5, h6⟩
  · intro p e s m args below meth c s₁ B hml hP9 _
    have hh0 : s₁.heap = s.heap := by rw [B.state]; rfl
    obtain ⟨rfl, hP, hE⟩ := hP9
    have hl := lv_entry av (n := nL) hn
    have K : W p l e rm s m av.toArray below meth c s.heap [] 0 0 (MQ below Qc av.toArray s mc ms (AA s0)) (entryFrame m av.toArray nL) := by
      rw [lg_entry_eq]
      generalize (lg_sl av ++ List.replicate (nL - (lg_sl av).length) Slot.unset).toArray = ls at hl ⊢
      exact body p e s m _ below meth c ls rfl ⟨B.exec, B.bytes, B.returns, hml, findClass_of_methodNamed B.named, hE.gw B0, hE.va B0, hE.nw B0, hE, B.notSynchronized, fun q h => Nat.le_trans hE.2.1 h⟩ (fun h => by rw [(name_of_methodNamed B.named B.method).1]; exact h) hl hP
    obtain ⟨t, a1, o, b1, b2, b3⟩ := K s₁ hh0 (Stand.of_body B)
    exact ⟨t, o, a1, b1, b2, ⟨b3.1, b3.2⟩⟩
abbrev b_J_floorMod : ByteArray := prog_12_method_52_code
def y_J_floorMod : MethodName := ⟨"java/lang/Math", "floorMod", "(JJ)J"⟩
theorem d_J_floorMod_0 : decode b_J_floorMod 0 = .ok (.lload_n 0, 1) := by decide +kernel
theorem d_J_floorMod_1 : decode b_J_floorMod 1 = .ok (.lload_n 2, 1) := by decide +kernel
theorem d_J_floorMod_2 : decode b_J_floorMod 2 = .ok (.lrem, 1) := by decide +kernel
theorem d_J_floorMod_3 : decode b_J_floorMod 3 = .ok (.lstore 4, 2) := by decide +kernel
theorem d_J_floorMod_5 : decode b_J_floorMod 5 = .ok (.lload_n 0, 1) := by decide +kernel
theorem d_J_floorMod_6 : decode b_J_floorMod 6 = .ok (.lload_n 2, 1) := by decide +kernel
theorem d_J_floorMod_7 : decode b_J_floorMod 7 = .ok (.lxor, 1) := by decide +kernel
theorem d_J_floorMod_8 : decode b_J_floorMod 8 = .ok (.lconst 0, 1) := by decide +kernel
theorem d_J_floorMod_9 : decode b_J_floorMod 9 = .ok (.lcmp, 1) := by decide +kernel
theorem d_J_floorMod_10 : decode b_J_floorMod 10 = .ok (.ifCond .ge 15, 3) := by decide +kernel
theorem d_J_floorMod_13 : decode b_J_floorMod 13 = .ok (.lload 4, 2) := by decide +kernel
theorem d_J_floorMod_15 : decode b_J_floorMod 15 = .ok (.lconst 0, 1) := by decide +kernel
theorem d_J_floorMod_16 : decode b_J_floorMod 16 = .ok (.lcmp, 1) := by decide +kernel
theorem d_J_floorMod_17 : decode b_J_floorMod 17 = .ok (.ifCond .eq 8, 3) := by decide +kernel
theorem d_J_floorMod_20 : decode b_J_floorMod 20 = .ok (.lload 4, 2) := by decide +kernel
theorem d_J_floorMod_22 : decode b_J_floorMod 22 = .ok (.lload_n 2, 1) := by decide +kernel
theorem d_J_floorMod_23 : decode b_J_floorMod 23 = .ok (.ladd, 1) := by decide +kernel
theorem d_J_floorMod_24 : decode b_J_floorMod 24 = .ok (.lreturn, 1) := by decide +kernel
theorem d_J_floorMod_25 : decode b_J_floorMod 25 = .ok (.lload 4, 2) := by decide +kernel
theorem d_J_floorMod_27 : decode b_J_floorMod 27 = .ok (.lreturn, 1) := by decide +kernel
abbrev b_J_max : ByteArray := prog_12_method_66_code
def y_J_max : MethodName := ⟨"java/lang/Math", "max", "(JJ)J"⟩
theorem d_J_max_0 : decode b_J_max 0 = .ok (.lload_n 0, 1) := by decide +kernel
theorem d_J_max_1 : decode b_J_max 1 = .ok (.lload_n 2, 1) := by decide +kernel
theorem d_J_max_2 : decode b_J_max 2 = .ok (.lcmp, 1) := by decide +kernel
theorem d_J_max_3 : decode b_J_max 3 = .ok (.ifCond .lt 7, 3) := by decide +kernel
theorem d_J_max_6 : decode b_J_max 6 = .ok (.lload_n 0, 1) := by decide +kernel
theorem d_J_max_7 : decode b_J_max 7 = .ok (.goto 4, 3) := by decide +kernel
theorem d_J_max_10 : decode b_J_max 10 = .ok (.lload_n 2, 1) := by decide +kernel
theorem d_J_max_11 : decode b_J_max 11 = .ok (.lreturn, 1) := by decide +kernel
theorem pl_J2 : plainFor y_J_max = true := by decide +kernel
theorem pl_J : plainFor y_J_floorMod = true := by decide +kernel
set_option maxHeartbeats 4000000 in
set_option maxRecDepth 100000 in
theorem c_J_floorMod {l : Launch} {s0 : State} {dC : Nat → ClassId} {dI : Nat → Nat → Nat} {dA : Nat → ClassId} (B0 : BB s0 dC dI dA) (w : fw_W) (a b : Int64) (hb0 : ¬ b = 0) : Met l y_J_floorMod [.code y_J_floorMod b_J_floorMod 6 (some .long)] ({ frames := 0, cells := 0, slots := 0, locals := 0 }) (mP s0 dC dI w [.long a, .long b]) (mQl s0 dC dI (fun r w' => w' = w ∧ r = fMod a b)) 0 0 (AA s0) := by
  refine mt_ofWF B0 pl_J (Nat.le_of_ble_eq_true rfl) (fun p e s m args below meth c ls hargs X hin hl hP => ?_)
  have X9 := X
  obtain ⟨hx, hb, hr, hml, hown, hg, hK, hn, hE, hlocks, hA⟩ := X9
  have hS : va_S (AA s0) s.heap s.heap [] := va_S.rf
  have hl : lv_has ls 6 [(0, .long a), (2, .long b)] := hl
  refine lv_lload_n hx hb d_J_floorMod_0 rfl (lv_at hl 0 rfl) ?_
  refine lv_lload_n hx hb d_J_floorMod_1 rfl (lv_at hl 1 rfl) ?_
  refine lv_lrem hx hb d_J_floorMod_2 hb0 ?_
  refine lv_lstore (lv' := [(4, .long (a - a / b * b)), (0, .long a), (2, .long b)]) hx hb d_J_floorMod_3 hl (by decide) rfl (fun ls hl => ?_)
  refine lv_lload_n hx hb d_J_floorMod_5 rfl (lv_at hl 1 rfl) ?_
  refine lv_lload_n hx hb d_J_floorMod_6 rfl (lv_at hl 2 rfl) ?_
  refine lv_lxor hx hb d_J_floorMod_7 ?_
  refine lv_lconst (v := 0) hx hb d_J_floorMod_8 (by decide) ?_
  refine W.lcmp hx hb d_J_floorMod_9 ?_
  refine lv_if_ge (tgt := 25) hx hb d_J_floorMod_10 (by decide) (fun c1 => ?_) (fun c1 => ?_)
  · refine lv_lload hx hb d_J_floorMod_25 (lv_at hl 0 rfl) ?_
    exact W.lret (v := a - a / b * b) hx hb hr (fun tS ht hW => ⟨⟨a - a / b * b, w, rfl, ⟨rfl, by unfold fMod; rw [if_neg (fun h => absurd h.2 (fun h2 => absurd c1 (fun h3 => by have := (lg_cmp_ge _ _).mp h3; exact absurd this (Int64.not_le.mpr h2))))]⟩, mB_of ht hP⟩, hS.F ht⟩) hS.2.2 d_J_floorMod_27
  · refine lv_lload hx hb d_J_floorMod_13 (lv_at hl 0 rfl) ?_
    refine lv_lconst (v := 0) hx hb d_J_floorMod_15 (by decide) ?_
    refine W.lcmp hx hb d_J_floorMod_16 ?_
    refine lv_if_eq (tgt := 25) hx hb d_J_floorMod_17 (by decide) (fun c2 => ?_) (fun c2 => ?_)
    · refine lv_lload hx hb d_J_floorMod_25 (lv_at hl 0 rfl) ?_
      exact W.lret (v := a - a / b * b) hx hb hr (fun tS ht hW => ⟨⟨a - a / b * b, w, rfl, ⟨rfl, by unfold fMod; rw [if_neg (fun h => h.1 ((lg_cmp_eq _ _).mp c2))]⟩, mB_of ht hP⟩, hS.F ht⟩) hS.2.2 d_J_floorMod_27
    · refine lv_lload hx hb d_J_floorMod_20 (lv_at hl 0 rfl) ?_
      refine lv_lload_n hx hb d_J_floorMod_22 rfl (lv_at hl 2 rfl) ?_
      refine lv_ladd hx hb d_J_floorMod_23 ?_
      exact W.lret (v := (a - a / b * b) + b) hx hb hr (fun tS ht hW => ⟨⟨(a - a / b * b) + b, w, rfl, ⟨rfl, by unfold fMod; rw [if_pos ⟨fun h => c2 ((lg_cmp_eq _ _).mpr h), Int64.not_le.mp (fun h => c1 ((lg_cmp_ge _ _).mpr h))⟩]⟩, mB_of ht hP⟩, hS.F ht⟩) hS.2.2 d_J_floorMod_24
set_option maxHeartbeats 4000000 in
set_option maxRecDepth 100000 in
theorem c_J_max {l : Launch} {s0 : State} {dC : Nat → ClassId} {dI : Nat → Nat → Nat} {dA : Nat → ClassId} (B0 : BB s0 dC dI dA) (w : fw_W) (a b : Int64)  : Met l y_J_max [.code y_J_max b_J_max 4 (some .long)] ({ frames := 0, cells := 0, slots := 0, locals := 0 }) (mP s0 dC dI w [.long a, .long b]) (mQl s0 dC dI (fun r w' => w' = w ∧ r = if a < b then b else a)) 0 0 (AA s0) := by
  refine mt_ofWF B0 pl_J2 (Nat.le_of_ble_eq_true rfl) (fun p e s m args below meth c ls hargs X hin hl hP => ?_)
  have X9 := X
  obtain ⟨hx, hb, hr, hml, hown, hg, hK, hn, hE, hlocks, hA⟩ := X9
  have hS : va_S (AA s0) s.heap s.heap [] := va_S.rf
  have hl : lv_has ls 4 [(0, .long a), (2, .long b)] := hl
  refine lv_lload_n hx hb d_J_max_0 rfl (lv_at hl 0 rfl) ?_
  refine lv_lload_n hx hb d_J_max_1 rfl (lv_at hl 1 rfl) ?_
  refine W.lcmp hx hb d_J_max_2 ?_
  refine lv_if_lt (tgt := 10) hx hb d_J_max_3 (by decide) (fun c1 => ?_) (fun c1 => ?_)
  · refine lv_lload_n hx hb d_J_max_10 rfl (lv_at hl 1 rfl) ?_
    exact W.lret (v := b) hx hb hr (fun tS ht hW => ⟨⟨b, w, rfl, ⟨rfl, by rw [if_pos ((lg_cmp_lt _ _).mp c1)]⟩, mB_of ht hP⟩, hS.F ht⟩) hS.2.2 d_J_max_11
  · refine lv_lload_n hx hb d_J_max_6 rfl (lv_at hl 0 rfl) ?_
    refine lv_goto (tgt := 11) hx hb d_J_max_7 (by decide) ?_
    exact W.lret (v := a) hx hb hr (fun tS ht hW => ⟨⟨a, w, rfl, ⟨rfl, by rw [if_neg (fun h => c1 ((lg_cmp_lt _ _).mpr h))]⟩, mB_of ht hP⟩, hS.F ht⟩) hS.2.2 d_J_max_11
