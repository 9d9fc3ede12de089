/-! ===== the law's helpers: bodies with an exception table ===== -/
theorem mt_ofH {l : Launch} {s0 : State} {dC : Nat → ClassId} {dI : Nat → Nat → Nat} {dA : Nat → ClassId} (B0 : BB s0 dC dI dA) {y : MethodName} {cc : ByteArray} {nL : Nat} {ret : Option FieldType} {hh : List (Nat × Nat × Nat × Nat)} {rm : Room} {w : fw_W} {av : List Value} {Qc : Array Value → State → Outcome → State → Prop} {mc ms : Nat}
    (hy : plainName y.cls = true) (hn : (lg_sl av).length ≤ nL)
    (body : ∀ (p : Program) (e : Env) (s : State) (m : MethodId) (args : Array Value) (below : List Frame) (meth : Method) (c : Code) (ls : Array Slot), args = av.toArray → CX s0 dC dI dA y.cls cc nL ret p s m args meth c → c.exceptionTable.toList = tableOf hh → lv_has ls nL (lv_args 0 av) → fw_P (dC, dI) cls_ (AA s0) w s.heap →
      W p l e rm s m args below meth c s.heap [] 0 0 (MQ below Qc args s mc ms (AA s0)) (F0 m 0 ls [])) : Met l y [.codeWith y cc nL ret hh] rm (mP s0 dC dI w av) Qc mc ms (AA s0) := by
  refine MetFree.of_bodyS (code := cc) (maxLocals := nL) (ret := ret) hy ?_ ?_
  · intro args s m h hn
    obtain ⟨m9, meth, c, hn9, h1, h2, h3, h4, -, h5, h6, -⟩ := Cond.codeWith_spec (atoms_spec (ws := [.codeWith y cc nL ret hh]) h _ List.mem_cons_self)
    cases hn.symm.trans hn9
    exact ⟨meth, c, h1, h2, h3, h4, h5, h6⟩
  · intro p e s m args below meth c s₁ B hml hv _
    have hh0 : s₁.heap = s.heap := by rw [B.state]; rfl
    have htab := vx_table (x := y) B (atoms_spec (ws := [.codeWith y cc nL ret hh]) B.pre _ List.mem_cons_self)
    obtain ⟨rfl, hP, hE⟩ := hv
    have hl := lv_entry av (n := nL) hn
    have X₀ := Stand.of_body B
    have K : W p l e rm s m av.toArray below meth c s.heap [] 0 0 (MQ below Qc av.toArray s mc ms (AA s0)) (entryFrame m av.toArray nL) := by
      rw [lg_entry_eq]
      generalize (lg_sl av ++ List.replicate (nL - (lg_sl av).length) Slot.unset).toArray = ls at hl ⊢
      exact body p e s m _ below meth c ls rfl ⟨B.exec, B.bytes, B.returns, hml, findClass_of_methodNamed B.named, hE.gw B0, hE.va B0, hE.nw B0, hE, B.notSynchronized, fun q h => Nat.le_trans hE.2.1 h⟩ htab hl hP
    obtain ⟨t, a1, o, b1, b2, b3⟩ := K s₁ hh0 X₀
    exact ⟨t, o, a1, b1, b2, ⟨b3.1, b3.2⟩⟩
theorem cst_at {s0 U : State} {dC : Nat → ClassId} {dI : Nat → Nat → Nat} {dA : Nat → ClassId} (B0 : BB s0 dC dI dA) (hE : EE s0 U) {E : String} (h : Cond.castable E E ∈ lw_tbl) {args : Array Value} : (Cond.castable E E).before args U = true := by
  obtain ⟨⟨a0, h0⟩, -⟩ := B0
  exact thr_at rfl hE.1 (h0 _ h)
section LWX
variable {p : Program} {l : Launch} {e : Env} {R : Room} {s : State} {m : MethodId} {args : Array Value} {below : List Frame} {meth : Method} {c : Code} {H : Heap} {locs : List Loc} {cells slots : Nat} {Q : State → Prop}
variable {s0 : State} {dC : Nat → ClassId} {dI : Nat → Nat → Nat} {dA : Nat → ClassId} {own : String} {cc : ByteArray} {nL : Nat} {ret0 : Option FieldType} {w : fw_W}
variable {y : MethodName} {bytes : ByteArray} {maxL mc ms n index : Nat} {ret : Option FieldType} {rm : Room} {Qc : Array Value → State → Outcome → State → Prop} {As rest st0 : List Value} {ls : Array Slot} {pc : Nat} {xp : String → fw_W → Prop} {hh : List (Nat × Nat × Nat × Nat)}
theorem rn_SW (X : CX s0 dC dI dA own cc nL ret0 p s m args meth c) (hP : fw_P (dC, dI) cls_ (AA s0) w H) (hS : va_S (AA s0) s.heap H locs) (hM : Met l y [.codeWith y bytes maxL ret hh] rm (mP s0 dC dI w As) Qc mc ms (AA s0))
    (k1 : Cond.methodLink own index y ∈ gw) (k2 : Cond.static y ∈ gw) (k4 : Cond.initialized y.cls ∈ gw) (k5 : Cond.codeWith y bytes maxL ret hh ∈ gw)
    (hd : y.cls ≠ "java/lang/invoke/MethodHandle" ∧ y.cls ≠ "java/lang/invoke/VarHandle" ∧ (parseMethodDescriptor y.desc).map (fun d => d.parameters.length) = some n) (hrc : rm.cells = mc) (hrs : rm.slots = ms) (hR : rm.frames + 1 ≤ R.frames ∧ 8 + (maxL + 11) + rm.locals ≤ R.locals)
    (hn : As.length = n) (hsize : ls.size = nL) (hstack : st0 = As.reverse ++ rest) (hW : (rest.map fun v => v.category).sum ≤ 8) (hdg : decode cc pc = .ok (.invokestatic index, 3)) (hf : cells + mc ≤ R.cells ∧ slots + ms ≤ R.slots) :
    va_Run p l e R s m args below meth c H locs cells slots mc ms (F0 m pc ls st0) rest (Qc As.toArray) (AA s0) := by
  obtain ⟨hx, hb, hr, hml, hown, hg, hK, hnn, hE, hlocks, hA⟩ := X
  refine vx_runSW (As := As) ⟨hx, hb, hml, hown, hg⟩ hM (vx_cwSW n hg (fun w hw => ?_) rfl hrc hrs hd hR) ⟨mP.blind, mP.at hE hP hS⟩ rfl hn hsize hstack (lv_room hW) hdg hf
  rcases List.mem_append.mp hw with h | h
  · simp only [List.mem_cons, List.not_mem_nil, or_false] at h
    rcases h with rfl | rfl | rfl
    · exact ⟨k1, gw_good k1⟩
    · exact ⟨k2, gw_good k2⟩
    · exact ⟨k4, gw_good k4⟩
  · rw [List.mem_singleton.mp h]
    exact ⟨k5, gw_good k5⟩
/-- a callee throws, and it is caught here -/
theorem ct_run {a : Array Value} (B0 : BB s0 dC dI dA) (X0 : XX s0) (X : CX s0 dC dI dA own cc nL ret0 p s m args meth c) (htab : c.exceptionTable.toList = tableOf hh)
    (hr : vx_Run p l e R s m args below meth c H locs cells slots mc ms (F0 m pc ls st0) rest (Qno a) (mX s0 dC dI xp) (AA s0)) (hS : va_S (AA s0) s.heap H locs) (E0 : String) (hE0 : ∀ (E : String) (w' : fw_W), xp E w' → E = E0)
    (pre : List ExceptionTableEntry) (x : ExceptionTableEntry) (suf : List ExceptionTableEntry) (hsplit : tableOf hh = pre ++ x :: suf) (hpass : ∀ z ∈ pre, z.catchType ≠ 0 ∧ ∃ nm : String, Cond.classLink own z.catchType nm ∈ gw ∧ (E0, nm) ∈ ncs) (hxc : covers x pc = true) (h0 : x.catchType ≠ 0)
    (hlink : Cond.classLink own x.catchType E0 ∈ gw) (hcast : Cond.castable E0 E0 ∈ lw_tbl)
    (kk : ∀ (w' : fw_W) (q9 : Addr) (H1 : Heap) (locs1 : List Loc), xp E0 w' → fw_P (dC, dI) cls_ (AA s0) w' H1 → va_S (AA s0) s.heap H1 locs1 → W p l e R s m args below meth c H1 locs1 (cells + mc) (slots + ms) Q (F0 m x.handlerPc ls [.ref q9])) :
    W p l e R s m args below meth c H locs cells slots Q (F0 m pc ls st0) := by
  obtain ⟨hx9, hb, hr9, hml, hown, hg, hK, hnn, hEE, hlocks, hA⟩ := X
  refine th_run hr hS (fun E w' ce q9 H1 locs1 h1 h2 h3 h4 h5 h6 => ?_)
  have e := hE0 E w' h1
  subst e
  exact vx_catch hown pre x suf (htab.trans hsplit) (fun z hz => by
    obtain ⟨a1, nm, a2, a3⟩ := hpass z hz
    exact Or.inr ⟨a1, nm, hg _ a2, X0.nc hEE a3⟩) hxc h0 (hg _ hlink) (cst_at B0 hEE hcast) h4 h5 h6 (kk w' q9 H1 locs1 h1 h2 h3)
end LWX
theorem cs_IA : Cond.castable E_IA E_IA ∈ lw_tbl := by decide +kernel
theorem cs_NE : Cond.castable E_NE E_NE ∈ lw_tbl := by decide +kernel
theorem cs_AR : Cond.castable E_AR E_AR ∈ lw_tbl := by decide +kernel
theorem cs_IS : Cond.castable E_IS E_IS ∈ lw_tbl := by decide +kernel
section AGR
variable {dA : Nat → ClassId} {AD md : Nat → Nat} {Fz : Nat → Prop} {w w1 : fw_W} {P : PD} {tr : Nat → Option tv} {cl : List tv} {ta : Nat → Int32} {β β' : BS} {ou : Nat}
theorem RB.agree (h : RB dA AD Fz w P tr cl ta) (hA : ∀ i, i < 32 → w1 (AD i) = w (AD i)) (hF : ∀ q, Fz q → w1 q = w q) : RB dA AD Fz w1 P tr cl ta := by
  obtain ⟨h27, hSI, hM, hX, hP6, ⟨hn, hd⟩, hpo, hrl⟩ := h
  exact ⟨(hA 27 (by omega)).trans h27, hSI.kept (fun i hi => hA i (by omega)), hM.kept (fun i h1 h2 => hA i (by omega)) hF (fun _ h => h), hX.kept (fun i h1 h2 => hA i h2), hP6.kept (fun i h1 h2 => hA i (by omega)), ⟨hn, fd_kept hF hd⟩, hpo, hrl⟩
theorem RB.pok (h : RBb dA AD Fz w β) : p_ok (b_P β) := h.2.2.2.2.2.2.1
theorem RD.agree {μ : MS} (h : RD dA md w μ) (hA : ∀ i, U37 i → w1 (md i) = w (md i)) : RD dA md w1 μ := by
  unfold RD at h ⊢
  rw [hA 36 (by decide), hA 0 (by decide), hA 1 (by decide), hA 2 (by decide), hA 3 (by decide), hA 4 (by decide), hA 5 (by decide), hA 6 (by decide), hA 7 (by decide), hA 8 (by decide), hA 9 (by decide), hA 10 (by decide), hA 11 (by decide), hA 12 (by decide), hA 13 (by decide), hA 14 (by decide), hA 15 (by decide), hA 23 (by decide), hA 24 (by decide), hA 25 (by decide), hA 26 (by decide), hA 27 (by decide), hA 28 (by decide), hA 29 (by decide), hA 30 (by decide), hA 31 (by decide), hA 32 (by decide), hA 33 (by decide), hA 34 (by decide)]
  exact h
theorem RD.some {μ : MS} (h : RD dA md w μ) : ∀ i, U37 i → w (md i) ≠ none := by
  obtain ⟨r36, r0, r1, r2, r3, r4, r5, r6, r7, r8, ⟨u, r9⟩, r10, r11, r12, r13, r14, r15, r23, r24, r25, r26, r27, r28, r29, r30, r31, r32, r33, r34⟩ := h
  intro i hi
  rcases (show i = 0 ∨ i = 1 ∨ i = 2 ∨ i = 3 ∨ i = 4 ∨ i = 5 ∨ i = 6 ∨ i = 7 ∨ i = 8 ∨ i = 9 ∨ i = 10 ∨ i = 11 ∨ i = 12 ∨ i = 13 ∨ i = 14 ∨ i = 15 ∨ i = 23 ∨ i = 24 ∨ i = 25 ∨ i = 26 ∨ i = 27 ∨ i = 28 ∨ i = 29 ∨ i = 30 ∨ i = 31 ∨ i = 32 ∨ i = 33 ∨ i = 34 ∨ i = 36 by omega) with rfl | rfl | rfl | rfl | rfl | rfl | rfl | rfl | rfl | rfl | rfl | rfl | rfl | rfl | rfl | rfl | rfl | rfl | rfl | rfl | rfl | rfl | rfl | rfl | rfl | rfl | rfl | rfl | rfl
  · exact ne_some r0
  · exact ne_some r1
  · exact ne_some r2
  · exact ne_some r3
  · exact ne_some r4
  · exact ne_some r5
  · exact ne_some r6
  · exact ne_some r7
  · exact ne_some r8
  · exact ne_some r9
  · exact ne_some r10
  · exact ne_some r11
  · exact ne_some r12
  · exact ne_some r13
  · exact ne_some r14
  · exact ne_some r15
  · exact ne_some r23
  · exact ne_some r24
  · exact ne_some r25
  · exact ne_some r26
  · exact ne_some r27
  · exact ne_some r28
  · exact ne_some r29
  · exact ne_some r30
  · exact ne_some r31
  · exact ne_some r32
  · exact ne_some r33
  · exact ne_some r34
  · exact ne_some r36
/-- the law's own long[1] -/
abbrev oc (dA : Nat → ClassId) (fo : Nat → Int64) : va_E := .inl (dA 1, 1, .inr (.inl fo))
/-- what a helper leaves that writes ou -/
def VL (dA : Nat → ClassId) (AD : Nat → Nat) (ou : Nat) (Fz : Nat → Prop) (w w' : fw_W) (β' : BS) (fo : Nat → Int64) : Prop := ∃ Fz' : Nat → Prop, RBb dA AD Fz' w' β' ∧ (∀ q, Fz' q → Fz q ∨ w q = none) ∧ (∀ (q : Nat) (e : va_E), w q = some e → (∀ i, i < 32 → q ≠ AD i) → q ≠ ou → w' q = some e) ∧ w' ou = some (oc dA fo)
theorem VB.keepO {w' : fw_W} {fo : Nat → Int64} (h : VB dA AD Fz w w' β') (h1 : w ou = some (oc dA fo)) (h2 : ∀ i, i < 32 → ou ≠ AD i) : VL dA AD ou Fz w w' β' fo := by
  obtain ⟨Fz', a, b, c⟩ := h
  exact ⟨Fz', a, b, fun q e h3 h4 _ => c q e h3 h4, c ou _ h1 h2⟩
theorem VB.put {w' w2 : fw_W} {fo : Nat → Int64} {fo2 : Nat → Int64} (h : VB dA AD Fz w w' β') (h1 : w ou = some (oc dA fo)) (h2 : ∀ i, i < 32 → ou ≠ AD i) (h3 : ¬ Fz ou) (ew : w2 = va_up w' ou (some (oc dA fo2))) : VL dA AD ou Fz w w2 β' fo2 := by
  obtain ⟨Fz', a, b, c⟩ := h
  have hF : ¬ Fz' ou := fun h9 => (b ou h9).elim h3 (fun h8 => by rw [h1] at h8; cases h8)
  refine ⟨Fz', RB.agree a (fun i hi => ?_) (fun q hq => ?_), b, fun q e h4 h5 h6 => ?_, by rw [ew, va_up_self]⟩
  · rw [ew, va_up_ne _ _ (fun e9 => h2 i hi e9.symm)]
  · rw [ew, va_up_ne _ _ (fun e9 => hF (by rw [← e9]; exact hq))]
  · rw [ew, va_up_ne _ _ h6]; exact c q e h4 h5
end AGR
