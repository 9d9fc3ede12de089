/-! ===== throws: what is known at the law's start, and the rows of a body that throws ===== -/
abbrev E_IA : String := "java/lang/IllegalArgumentException"
abbrev E_NE : String := "java/util/NoSuchElementException"
abbrev E_AR : String := "java/lang/ArithmeticException"
abbrev E_IS : String := "java/lang/IllegalStateException"
def exS : List String := ["java/lang/RuntimeException", "java/lang/Exception"]
def thr_ok : Cond → Bool
  | .castable .. => true
  | .declares _ => true
  | w => goodWord w
theorem thr_at {w : Cond} (hw : thr_ok w = true) {A A' : Array Value} {s U : State} (hW : s.WarmedH U.vm) (h : w.before A s = true) : w.before A' U = true := by
  by_cases hg : goodWord w = true
  · exact word_at hW (good_of_word hg) h
  · cases w <;> first | (exact va_Nw.use rfl (va_Nw.warmC hW (va_Nw.of rfl h))) | (exact va_Nw.use rfl (va_Nw.warmD hW (va_Nw.of rfl h))) | exact absurd hw hg
def exL (ik ic : Nat) (E : String) : List Cond := Cond.classLink "TraceBuilder" ik E :: Cond.initialized E :: vx_at0 "TraceBuilder" ic E exS
def exok (ik ic : Nat) (E : String) : Prop := (∀ w ∈ exL ik ic E, w ∈ lw_tbl) ∧ (∀ w ∈ exL ik ic E, thr_ok w = true) ∧ (∀ w ∈ exL ik ic E, vx_ot w = true) ∧ Bundle.fit E = true
theorem ex_IA : exok 94 96 E_IA := ⟨by decide +kernel, by decide +kernel, by decide +kernel, by decide +kernel⟩
theorem ex_NE : exok 66 68 E_NE := ⟨by decide +kernel, by decide +kernel, by decide +kernel, by decide +kernel⟩
theorem ex_AR : exok 155 157 E_AR := ⟨by decide +kernel, by decide +kernel, by decide +kernel, by decide +kernel⟩
theorem ex_IS : exok 158 160 E_IS := ⟨by decide +kernel, by decide +kernel, by decide +kernel, by decide +kernel⟩
theorem exS_fit : ∀ n ∈ exS, Bundle.fit n = true := by decide +kernel
def ncs : List (String × String) := [(E_NE, E_IA), (E_AR, E_IA), (E_IS, E_IA), (E_AR, E_NE), (E_IS, E_NE), (E_IS, E_AR)]
def pneed : Nat → Int32 := fun j => nI (p_need j)
/-- what the throws and the one static array want of the law's start -/
def XX (s0 : State) : Prop := vx_Zq Bundle.tN "UNASSIGNED_STACK" Bundle.steD (AA s0) s0 s0.heap ∧ vx_Zq Bundle.tN "SUPPRESSED_SENTINEL" Bundle.listD (AA s0) s0 s0.heap ∧ (∃ t : Nat, va_Z "TraceBuilder" "PARTS_NEEDED" "[I" (.ref t) (AA s0) s0 s0.heap ∧ va_T .int t 10 (fun j => .int (pneed j)) (AA s0) s0 s0.heap) ∧ ∀ q ∈ ncs, va_Nc q.1 q.2 s0
section XXS
variable {s0 U : State} {dC : Nat → ClassId} {dI : Nat → Nat → Nat} {dA : Nat → ClassId}
theorem XX.u (h : XX s0) (hE : EE s0 U) : vx_Zq Bundle.tN "UNASSIGNED_STACK" Bundle.steD (AA s0) U U.heap := vx_Zq.moved hE.1.alike (h.1.kept hE.2.2)
theorem XX.n (h : XX s0) (hE : EE s0 U) : vx_Zq Bundle.tN "SUPPRESSED_SENTINEL" Bundle.listD (AA s0) U U.heap := vx_Zq.moved hE.1.alike (h.2.1.kept hE.2.2)
theorem XX.z (h : XX s0) (hE : EE s0 U) : ∃ t : Nat, va_Z "TraceBuilder" "PARTS_NEEDED" "[I" (.ref t) (AA s0) U U.heap ∧ va_T .int t 10 (fun j => .int (pneed j)) (AA s0) U U.heap := by
  obtain ⟨-, -, ⟨t, a, b⟩, -⟩ := h
  exact ⟨t, va_Z.moved hE.1.alike (a.kept hE.2.2), va_T.moved hE.1.alike (b.kept hE.2.2)⟩
theorem XX.nc (h : XX s0) (hE : EE s0 U) {a b : String} (hm : (a, b) ∈ ncs) : va_Nc a b U := va_Nc.moved hE.1.alike (h.2.2.2 (a, b) hm)
theorem EE.ex (B0 : BB s0 dC dI dA) (hE : EE s0 U) {ik ic : Nat} {E : String} (h : exok ik ic E) {args : Array Value} : ∀ w ∈ exL ik ic E, w.before args U = true := by
  obtain ⟨⟨a0, h0⟩, -⟩ := B0
  exact fun w hw => thr_at (h.2.1 w hw) hE.1 (h0 w (h.1 w hw))
end XXS
/-- a contract that throws: the class of what is thrown, the world behind it -/
abbrev mX (s0 : State) (dC : Nat → ClassId) (dI : Nat → Nat → Nat) (xp : String → fw_W → Prop) : String → State → State → Prop := vx_X (S := fw_W) (fun _ => True) (fun E w t => xp E w ∧ fw_P (dC, dI) cls_ (AA s0) w t.heap) (AA s0)
def Qno : Array Value → State → Outcome → State → Prop := fun _ _ _ _ => False
theorem fw_grow {D : va_G} {cl : List vw_C} {A : Nat → Prop} {w : fw_W} {H H1 : Heap} (hP : fw_P D cl A w H) (hk : ∀ q : Nat, q < H.size → H1[q]? = H[q]?) : fw_P D cl A w H1 := fun q e hq => by
  obtain ⟨h1, h2⟩ := hP q e hq
  exact ⟨h1.kept (hk q h1.lt), h2⟩
theorem mt_ofX {l : Launch} {s0 : State} {dC : Nat → ClassId} {dI : Nat → Nat → Nat} {dA : Nat → ClassId} (B0 : BB s0 dC dI dA) {y : MethodName} {cc : ByteArray} {nL : Nat} {ret : Option FieldType} {rm : Room} {w : fw_W} {av : List Value} {Qc : Array Value → State → Outcome → State → Prop} {XC : String → State → State → Prop} {mc ms : Nat}
    (hy : plainName y.cls = true) (hn : (lg_sl av).length ≤ nL)
    (body : ∀ (p : Program) (e : Env) (s : State) (m : MethodId) (args : Array Value) (below : List Frame) (meth : Method) (c : Code) (ls : Array Slot), args = av.toArray → CX s0 dC dI dA y.cls cc nL ret p s m args meth c → (∀ x ∈ c.exceptionTable.toList, False) → lv_has ls nL (lv_args 0 av) → fw_P (dC, dI) cls_ (AA s0) w s.heap →
      W p l e rm s m args below meth c s.heap [] 0 0 (vx_MQ below Qc XC args s mc ms (AA s0)) (F0 m 0 ls [])) : vx_Met l y [.code y cc nL ret] rm (mP s0 dC dI w av) Qc XC mc ms (AA s0) := by
  refine vx_ofW (cc := cc) (maxL := nL) (ret := ret) hy rfl ?_
  intro p e s m args below meth c s₁ B hml hnt hv
  obtain ⟨rfl, hP, hE⟩ := hv
  have hl := lv_entry av (n := nL) hn
  rw [lg_entry_eq]
  generalize (lg_sl av ++ List.replicate (nL - (lg_sl av).length) Slot.unset).toArray = ls at hl ⊢
  exact body p e s m _ below meth c ls rfl ⟨B.exec, B.bytes, B.returns, hml, findClass_of_methodNamed B.named, hE.gw B0, hE.va B0, hE.nw B0, hE, B.notSynchronized, fun q h => Nat.le_trans hE.2.1 h⟩ hnt hl hP
section THR
variable {p : Program} {l : Launch} {e : Env} {R : Room} {s : State} {m : MethodId} {args : Array Value} {below : List Frame} {meth : Method} {c : Code} {H : Heap} {locs : List Loc} {cells slots : Nat} {Q : State → Prop}
variable {s0 : State} {dC : Nat → ClassId} {dI : Nat → Nat → Nat} {dA : Nat → ClassId} {own : String} {cc : ByteArray} {nL : Nat} {ret0 : Option FieldType} {w : fw_W}
variable {y : MethodName} {bytes : ByteArray} {maxL mc ms mc' ms' n index : Nat} {ret : Option FieldType} {rm : Room} {Qc : Array Value → State → Outcome → State → Prop} {XC : String → State → State → Prop} {C : String} {b : Nat} {As rest st0 : List Value} {ls : Array Slot} {pc : Nat} {T : u_T} {N ci : Nat} {fs : List Value} {xp xp' : String → fw_W → Prop}
/-- throw new E() -/
theorem th_0 (B0 : BB s0 dC dI dA) (X0 : XX s0) (hl : l.stackTraces = false) (X : CX s0 dC dI dA "TraceBuilder" cc nL ret0 p s m args meth c) (hnt : ∀ x ∈ c.exceptionTable.toList, False) (hP : fw_P (dC, dI) cls_ (AA s0) w H) (hS : va_S (AA s0) s.heap H locs) {E : String} {ik ic : Nat} (hE : exok ik ic E) (hx : xp E w) (hsize : ls.size = nL)
    (d0 : decode cc pc = .ok (.new ik, 3)) (d3 : decode cc (pc + 3) = .ok (.dup, 1)) (d4 : decode cc (pc + 4) = .ok (.invokespecial ic, 3)) (d7 : decode cc (pc + 7) = .ok (.athrow, 1))
    (hRf : 5 < R.frames) (hRl : (rest.map fun v => v.category).sum + 81 ≤ R.locals) (hRc : cells + 1 ≤ R.cells) (hRs : slots + 6 ≤ R.slots) (hc : cells + 1 ≤ mc) (hs : slots + 6 ≤ ms) :
    W p l e R s m args below meth c H locs cells slots (vx_MQ below Qc (mX s0 dC dI xp) args s mc ms (AA s0)) (F0 m pc ls rest) := by
  obtain ⟨hx9, hb, hr, hml, hown, hg, hK, hnn, hEE, hlocks, hA⟩ := X
  have hw := hEE.ex B0 hE (args := args)
  refine vx_throw0 (names := exS) hx9 hb hl hown hE.2.2.2 exS_fit (hw _ List.mem_cons_self) (hw _ (List.mem_cons_of_mem _ List.mem_cons_self)) (fun w h => hw w (List.mem_cons_of_mem _ (List.mem_cons_of_mem _ h))) hE.2.2.1 (X0.u hEE) (X0.n hEE) hS (hsize.trans hml.symm) d0 d3 d4 d7 (fun x h => absurd (hnt x h) id) hRf hRl hRc hRs hlocks (fun t hvm hz hk => ?_) hS.2.2 hc hs
  refine ⟨w, trivial, ⟨hx, fw_grow hP hk⟩, Nat.le_trans hS.1 hz, fun q h1 h2 => ?_⟩
  rw [hk q (Nat.lt_of_lt_of_le h1 hS.1)]
  exact hS.2.1 q h1 h2
/-- a callee that throws -/
theorem th_run {a : Array Value} (hr : vx_Run p l e R s m args below meth c H locs cells slots mc ms (F0 m pc ls st0) rest (Qno a) (mX s0 dC dI xp) (AA s0)) (hS : va_S (AA s0) s.heap H locs)
    (kx : ∀ (E : String) (w' : fw_W) (ce : Cell) (q9 : Addr) (H1 : Heap) (locs1 : List Loc), xp E w' → fw_P (dC, dI) cls_ (AA s0) w' H1 → va_S (AA s0) s.heap H1 locs1 → H1[q9]? = some ce → ce.vm = .none → s.vm.findClass E = some ce.cls → vx_W p l e R s m args below meth c H1 locs1 (cells + mc) (slots + ms) Q (F0 m pc ls rest) q9) : W p l e R s m args below meth c H locs cells slots Q (F0 m pc ls st0) := by
  intro T hT X
  rcases hr T hT X with ⟨v, st₀, t, T', L, h0, X', hL, e1, e2, hno, st⟩ | ⟨q, st₀, t, T', L, E, ce, h0, X', hL, e1, e2, ⟨u, -, ⟨hp, hb⟩, hF⟩, hce, hcv, hcl, st⟩
  · exact absurd hno id
  · obtain ⟨k1, k2, k3⟩ := vx_keep h0 e1 hS (fun _ _ h => h) (fun _ h => h) hL hF
    obtain ⟨t2, a1, b1⟩ := kx E u ce q T'.heap (locs ++ L) hp (by rw [e1]; exact hb) k3 (by rw [e1]; exact hce) hcv hcl T' rfl X'
    exact ⟨t2, st.trans a1, b1⟩
/-- .. and its caller lets it pass -/
theorem th_pass {a : Array Value} (X : CX s0 dC dI dA own cc nL ret0 p s m args meth c) (hnt : ∀ x ∈ c.exceptionTable.toList, False) (hr : vx_Run p l e R s m args below meth c H locs cells slots mc ms (F0 m pc ls st0) rest (Qno a) (mX s0 dC dI xp) (AA s0)) (hS : va_S (AA s0) s.heap H locs) (hx : ∀ (E : String) (w' : fw_W), xp E w' → xp' E w') (hc : cells + mc ≤ mc') (hs : slots + ms ≤ ms') : W p l e R s m args below meth c H locs cells slots (vx_MQ below Qc (mX s0 dC dI xp') args s mc' ms' (AA s0)) (F0 m pc ls st0) := by
  obtain ⟨hx9, hb, hr9, hml, hown, hg, hK, hnn, hEE, hlocks, hA⟩ := X
  refine th_run hr hS (fun E w' ce q9 H1 locs1 h1 h2 h3 h4 h5 h6 => ?_)
  exact vx_out (fun x h => absurd (hnt x h) id) hlocks h4 h5 h6 (fun t ht _ => ⟨w', trivial, ⟨hx E w' h1, by rw [ht]; exact h2⟩, h3.F ht⟩) h3.2.2 hc hs
theorem rx_S (X : CX s0 dC dI dA own cc nL ret0 p s m args meth c) (hP : fw_P (dC, dI) cls_ (AA s0) w H) (hS : va_S (AA s0) s.heap H locs) (hM : vx_Met l y [.code y bytes maxL ret] rm (mP s0 dC dI w As) Qc XC mc ms (AA s0))
    (k1 : Cond.methodLink own index y ∈ gw) (k2 : Cond.static y ∈ gw) (k4 : Cond.initialized y.cls ∈ gw) (k5 : Cond.code y bytes maxL ret ∈ gw)
    (hd : y.cls ≠ "java/lang/invoke/MethodHandle" ∧ y.cls ≠ "java/lang/invoke/VarHandle" ∧ (parseMethodDescriptor y.desc).map (fun d => d.parameters.length) = some n) (hrc : rm.cells = mc) (hrs : rm.slots = ms) (hR : rm.frames + 1 ≤ R.frames ∧ 8 + (maxL + 11) + rm.locals ≤ R.locals)
    (hn : As.length = n) (hsize : ls.size = nL) (hstack : st0 = As.reverse ++ rest) (hW : (rest.map fun v => v.category).sum ≤ 8) (hdg : decode cc pc = .ok (.invokestatic index, 3)) (hf : cells + mc ≤ R.cells ∧ slots + ms ≤ R.slots) :
    vx_Run p l e R s m args below meth c H locs cells slots mc ms (F0 m pc ls st0) rest (Qc As.toArray) XC (AA s0) := by
  obtain ⟨hx, hb, hr, hml, hown, hg, hK, hnn, hE, hlocks, hA⟩ := X
  exact vx_runS (As := As) ⟨hx, hb, hml, hown, hg⟩ hM ⟨callB_of n hg (gw_code k5) rfl hrc hrs (hg _ k4) (hg _ k1) hd hR, hg _ k2⟩ ⟨mP.blind, mP.at hE hP hS⟩ rfl hn hsize hstack (lv_room hW) hdg hf
theorem rx_V (X : CX s0 dC dI dA own cc nL ret0 p s m args meth c) (hP : fw_P (dC, dI) cls_ (AA s0) w H) (hS : va_S (AA s0) s.heap H locs) (hM : vx_Met l y [.code y bytes maxL ret] rm (mP s0 dC dI w (.ref b :: As)) Qc XC mc ms (AA s0))
    (k1 : Cond.methodLink own index y ∈ gw) (k2 : Cond.instanceMethod y ∈ gw) (k3 : Cond.selects C y y ∈ gw) (k4 : Cond.initialized C ∈ gw) (k5 : Cond.code y bytes maxL ret ∈ gw)
    (hd : y.cls = C ∧ y.cls ≠ "java/lang/invoke/MethodHandle" ∧ y.cls ≠ "java/lang/invoke/VarHandle" ∧ (parseMethodDescriptor y.desc).map (fun d => d.parameters.length) = some n) (hrc : rm.cells = mc) (hrs : rm.slots = ms) (hR : rm.frames + 1 ≤ R.frames ∧ 8 + (maxL + 11) + rm.locals ≤ R.locals)
    (he : w b = some (.inr (ci, fs))) (hc : cls_[ci]? = some (C, T, N)) (hn : As.length = n) (hsize : ls.size = nL) (hstack : st0 = As.reverse ++ .ref b :: rest) (hW : (rest.map fun v => v.category).sum ≤ 8) (hdg : decode cc pc = .ok (.invokevirtual index, 3)) (hf : cells + mc ≤ R.cells ∧ slots + ms ≤ R.slots) :
    vx_Run p l e R s m args below meth c H locs cells slots mc ms (F0 m pc ls st0) rest (Qc (Value.ref b :: As).toArray) XC (AA s0) := by
  obtain ⟨hx, hb, hr, hml, hown, hg, hK, hnn, hE, hlocks, hA⟩ := X
  refine vx_runV (C := C) (As := As) ⟨hx, hb, hml, hown, hg⟩ hM (cwV n hg (fun w hw => ?_) rfl hrc hrs hd hR) ⟨mP.blind, va_recv hK (hP.one he) (q0 := 0) hc rfl, mP.at hE hP hS⟩ rfl hn hsize hstack (lv_room hW) hdg hf
  rcases List.mem_append.mp hw with h | h
  · simp only [List.mem_cons, List.not_mem_nil, or_false] at h
    rcases h with rfl | rfl | rfl | rfl
    · exact ⟨k1, gw_good k1⟩
    · exact ⟨k2, gw_good k2⟩
    · exact ⟨k3, gw_good k3⟩
    · exact ⟨k4, gw_good k4⟩
  · exact gw_code k5 w h
end THR
