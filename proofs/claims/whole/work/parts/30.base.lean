/-! ===== the base: what is known at the law's start s0, and what a method's body knows of it ===== -/
abbrev tyl (dA : Nat → ClassId) : List (ClassId × FieldType) := [(dA 0, .int), (dA 1, .long), (dA 2, .boolean), (dA 3, .object R_T), (dA 4, .array .int)]
/-- the cells that came since the law's start -/
def AA (s0 : State) : Nat → Prop := fun q => s0.heap.size ≤ q
/-- what is given at the law's start -/
def BB (s0 : State) (dC : Nat → ClassId) (dI : Nat → Nat → Nat) (dA : Nat → ClassId) : Prop := (∃ a0 : Array Value, ∀ w ∈ lw_tbl, w.before a0 s0 = true) ∧ va_K (dC, dI) cls_ (tyl dA) s0
/-- a state since then -/
def EE (s0 : State) (U : State) : Prop := s0.WarmedH U.vm ∧ va_F (AA s0) s0 U
def nest_ok : Cond → Bool
  | .fieldLinkNest .. => true
  | .methodLinkNest .. => true
  | _ => false
theorem nws_ok : nws.all nest_ok = true := by decide +kernel
theorem nest_at {w : Cond} (hw : nest_ok w = true) {A A' : Array Value} {s U : State} (hW : s.WarmedH U.vm) (h : w.before A s = true) : w.before A' U = true := by
  cases w <;> first | (exact va_Nw.use rfl (va_Nw.warmF hW (va_Nw.of rfl h))) | (exact va_Nw.use rfl (va_Nw.warmM hW (va_Nw.of rfl h))) | (simp [nest_ok] at hw)
theorem EE.gw {s0 U : State} {dC : Nat → ClassId} {dI : Nat → Nat → Nat} {dA : Nat → ClassId} (B0 : BB s0 dC dI dA) (h : EE s0 U) {args : Array Value} : ∀ w ∈ gw, w.before args U = true := by
  obtain ⟨⟨a0, h0⟩, -⟩ := B0
  exact fun w hw => word_at h.1 (gw_good hw) (h0 w (gw_tbl hw))
theorem EE.nw {s0 U : State} {dC : Nat → ClassId} {dI : Nat → Nat → Nat} {dA : Nat → ClassId} (B0 : BB s0 dC dI dA) (h : EE s0 U) {args : Array Value} : ∀ w ∈ nws, w.before args U = true := by
  obtain ⟨⟨a0, h0⟩, -⟩ := B0
  exact fun w hw => nest_at (List.all_eq_true.mp nws_ok w hw) h.1 (h0 w (nws_in w hw))
theorem EE.va {s0 U : State} {dC : Nat → ClassId} {dI : Nat → Nat → Nat} {dA : Nat → ClassId} (B0 : BB s0 dC dI dA) (h : EE s0 U) : va_K (dC, dI) cls_ (tyl dA) U := va_K.moved h.1.alike B0.2
/-- the start of a contract: the world w -/
def mP (s0 : State) (dC : Nat → ClassId) (dI : Nat → Nat → Nat) (w : fw_W) (av : List Value) : Array Value → State → Prop := va_Pc av (fun U => fw_P (dC, dI) cls_ (AA s0) w U.heap ∧ EE s0 U)
theorem mP.blind {s0 : State} {dC : Nat → ClassId} {dI : Nat → Nat → Nat} {w : fw_W} {av : List Value} : FrameBlind (mP s0 dC dI w av) := fun _ _ _ _ q => q
theorem mP.at {s0 s : State} {dC : Nat → ClassId} {dI : Nat → Nat → Nat} {w : fw_W} {av : List Value} {H : Heap} {locs : List Loc} (hE : EE s0 s) (hP : fw_P (dC, dI) cls_ (AA s0) w H) (hS : va_S (AA s0) s.heap H locs) : ∀ U : State, U.heap = H → s.WarmedH U.vm → mP s0 dC dI w av av.toArray U := by
  intro U hU hW
  refine ⟨rfl, by rw [hU]; exact hP, State.WarmedH.trans hE.1 hW, ?_, fun q h1 h2 => ?_⟩
  · rw [hU]; exact Nat.le_trans hE.2.1 hS.1
  · rw [hU, hS.2.1 q (Nat.lt_of_lt_of_le h1 hE.2.1) h2]; exact hE.2.2 q h1 h2
/-- the ends of a contract: post speaks of the answer and of the world behind it -/
abbrev mB (s0 : State) (dC : Nat → ClassId) (dI : Nat → Nat → Nat) : fw_W → State → Prop := fun w t => fw_P (dC, dI) cls_ (AA s0) w t.heap
abbrev mQi (s0 : State) (dC : Nat → ClassId) (dI : Nat → Nat → Nat) (post : Int32 → fw_W → Prop) : Array Value → State → Outcome → State → Prop := va_Qi post (mB s0 dC dI) (AA s0)
abbrev mQl (s0 : State) (dC : Nat → ClassId) (dI : Nat → Nat → Nat) (post : Int64 → fw_W → Prop) : Array Value → State → Outcome → State → Prop := va_Ql post (mB s0 dC dI) (AA s0)
abbrev mQv (s0 : State) (dC : Nat → ClassId) (dI : Nat → Nat → Nat) (post : fw_W → Prop) : Array Value → State → Outcome → State → Prop := va_Qv post (mB s0 dC dI) (AA s0)
abbrev mQq (s0 : State) (dC : Nat → ClassId) (dI : Nat → Nat → Nat) (post : Option Nat → fw_W → Prop) : Array Value → State → Outcome → State → Prop := va_Qq post (mB s0 dC dI) (AA s0)
/-- what a body knows of its machine, its class and its start -/
def CX (s0 : State) (dC : Nat → ClassId) (dI : Nat → Nat → Nat) (dA : Nat → ClassId) (own : String) (cc : ByteArray) (nL : Nat) (ret : Option FieldType) (p : Program) (s : State) (m : MethodId) (args : Array Value) (meth : Method) (c : Code) : Prop :=
  p.tables.exec = Jvm.exec ∧ c.code = cc ∧ meth.sig.returnType = ret ∧ c.maxLocals = nL ∧ s.vm.findClass own = some m.cls ∧ (∀ w ∈ gw, w.before args s = true) ∧ va_K (dC, dI) cls_ (tyl dA) s ∧ (∀ w ∈ nws, w.before args s = true) ∧ EE s0 s ∧ meth.locks = false ∧ (∀ q, s.heap.size ≤ q → AA s0 q)
theorem mt_ofW {l : Launch} {s0 : State} {dC : Nat → ClassId} {dI : Nat → Nat → Nat} {dA : Nat → ClassId} (B0 : BB s0 dC dI dA) {y : MethodName} {cc : ByteArray} {nL : Nat} {ret : Option FieldType} {rm : Room} {w : fw_W} {av : List Value} {Qc : Array Value → State → Outcome → State → Prop} {mc ms : Nat}
    (hy : plainName y.cls = true) (hn : (lg_sl av).length ≤ nL)
    (body : ∀ (p : Program) (e : Env) (s : State) (m : MethodId) (args : Array Value) (below : List Frame) (meth : Method) (c : Code) (ls : Array Slot), args = av.toArray → CX s0 dC dI dA y.cls cc nL ret p s m args meth c → (y.name = "<init>" → meth.name = "<init>") → lv_has ls nL (lv_args 0 av) → fw_P (dC, dI) cls_ (AA s0) w s.heap →
      W p l e rm s m args below meth c s.heap [] 0 0 (MQ below Qc args s mc ms (AA s0)) (F0 m 0 ls [])) : Met l y [.code y cc nL ret] rm (mP s0 dC dI w av) Qc mc ms (AA s0) := by
  refine Met.ofW (cc := cc) (maxL := nL) (ret := ret) hy rfl ?_
  intro p e s m args below meth c s₁ B hml hv
  obtain ⟨rfl, hP, hE⟩ := hv
  have hl := lv_entry av (n := nL) hn
  rw [lg_entry_eq]
  generalize (lg_sl av ++ List.replicate (nL - (lg_sl av).length) Slot.unset).toArray = ls at hl ⊢
  exact body p e s m _ below meth c ls rfl ⟨B.exec, B.bytes, B.returns, hml, findClass_of_methodNamed B.named, hE.gw B0, hE.va B0, hE.nw B0, hE, B.notSynchronized, fun q h => Nat.le_trans hE.2.1 h⟩ (fun h => by rw [(name_of_methodNamed B.named B.method).1]; exact h) hl hP
