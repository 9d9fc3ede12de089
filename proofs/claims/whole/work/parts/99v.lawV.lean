/-! THE CLAIM OUT OF ONE WALK OF THE LAW'S BODY. Your part is whole_start (and what it stands on); all else here is the same for every law, but numbers. -/
def R_law : String := "TraceBuilderLaw"
def lw_P (b : Addr) (xs : List Int32) (args : Array Value) (s : State) : Prop := args = #[.ref b] ∧ s.IntsAt b xs ∧ xs.length ≤ 3072 ∧ (Jvm.Cond.and given_1 narrow_1).before args s = true
def lw_Q (_ : Array Value) (s : State) (o : Outcome) (t : State) : Prop := o = .returned (some (.int 1)) ∧ Framed s o t [] 601024 7293034
def lw_Z (below : List Frame) (a : Array Value) (s : State) : State → Prop := fun t => ∃ o, t.status = .running ∧ Ended t below o ∧ lw_Q a s o t
/-- the law's own end, with 1 on the stack, nothing written that was there before, its room as the claim has it -/
theorem lw_ret {p : Program} {l : Launch} {e : Env} {s : State} {m : MethodId} {below : List Frame} {meth : Method} {c : Code} {b : Nat} (hx : p.tables.exec = Jvm.exec) (hb : c.code = code) (hr : meth.sig.returnType = ret) (hlocks : meth.locks = false) {pc : Nat} {H : Heap} {ls : Array Slot} (hdg : decode code pc = .ok (.ireturn, 1)) : W p l e room_1 s m #[Value.ref b] below meth c H [] 601024 7293034 (lw_Z below #[Value.ref b] s) (F0 m pc ls [.int 1]) := by
  intro T hT X
  obtain ⟨fs, hret, hrun, hended, hW, hframe⟩ := X.leave (v := some (.int 1)) (hlocks := hlocks) (fun h => by rw [hr] at h; cases h)
  have hmeth' : T.vm.method? m = some meth := X.method'
  refine ⟨T.setFrames fs, ?_, .returned (some (.int 1)), hrun, hended, rfl, ⟨_, rfl⟩, hW, hframe⟩
  jvm_step X.here [X.here.top, hx, hb, hdg, hmeth', hr, ret, narrow_b1]
  (try refine ⟨rfl, ?_⟩); (try refine ⟨rfl, ?_⟩)
  first | (intro acts; rw [hret _ acts rfl rfl rfl]) | rw [hret _ _ rfl rfl rfl]
  exact Steps.refl _
/-- what holds at the law's entry: the machine, the code, the tables' words (any of lw_tbl by 'hts w (by decide +kernel)'), the script of L ints xs at the cell b, what the Statement gives of the start (any of its parts by flat_of_before) -/
def lw_At (p : Program) (s : State) (m : MethodId) (meth : Method) (c : Code) (b L : Nat) (xs : Nat → Int32) : Prop :=
  p.tables.exec = Jvm.exec ∧ c.code = code ∧ meth.sig.returnType = ret ∧ c.maxLocals = 8 ∧ s.vm.findClass R_law = some m.cls ∧ (∀ w ∈ lw_tbl, w.before #[Value.ref b] s = true) ∧ va_X b L xs s s.heap ∧ b < s.heap.size ∧ meth.locks = false ∧ (Jvm.Cond.and given_1 narrow_1).before #[Value.ref b] s = true
/-! ===== the law's loop: what holds at its head ===== -/
theorem sl_ld {p : Program} {l : Launch} {e : Env} {R : Room} {s : State} {m : MethodId} {args : Array Value} {below : List Frame} {meth : Method} {c : Code} {H : Heap} {locs : List Loc} {cells slots : Nat} {Q : State → Prop} {cc : ByteArray} {pc : Nat} {ls : Array Slot} {rest : List Value} (hx : p.tables.exec = Jvm.exec) (hb : c.code = cc) {b L : Nat} {xs : Nat → Int32} (hX : va_X b L xs s s.heap) (hbl : b < s.heap.size) (hS : va_S (AA s) s.heap H locs) {j : Nat} {v : Int32} (hj : j < L) (hL : L ≤ 3072) (hv : xs j = v) (hdg : decode cc pc = .ok (.iaload, 1))
    (k : W p l e R s m args below meth c H locs cells slots Q (F0 m (pc + 1) ls (.int v :: rest))) : W p l e R s m args below meth c H locs cells slots Q (F0 m pc ls (.int (nI j) :: .ref b :: rest)) :=
  va_sld hx hb hX hbl (Nat.not_le.mpr hbl) hS (vp_in_nI hj (by omega)) hdg (by rw [nI_clamp (by omega), hv]; exact k)
def DJ (AD md : Nat → Nat) (ou : Nat) : Prop := Inj2 AD ∧ Inj37 md ∧ (∀ i j, i < 32 → U37 j → AD i ≠ md j) ∧ (∀ i, i < 32 → ou ≠ AD i) ∧ (∀ j, U37 j → ou ≠ md j)
def LSt (dA : Nat → ClassId) (AD md : Nat → Nat) (ou : Nat) (w : fw_W) (β : BS) : Prop := ∃ (Fz : Nat → Prop) (μ : MS) (fo : Nat → Int64), RBb dA AD Fz w β ∧ RD dA md w μ ∧ RQ β μ ∧ OB β ∧ w ou = some (oc dA fo) ∧ (∀ j, U37 j → ¬ Fz (md j)) ∧ ¬ Fz ou
def LX (p : Program) (l : Launch) (s : State) (m : MethodId) (meth : Method) (c : Code) (dC : Nat → ClassId) (dI : Nat → Nat → Nat) (dA : Nat → ClassId) (b L : Nat) (xs : Nat → Int32) (AD md : Nat → Nat) (ou : Nat) : Prop :=
  CX s dC dI dA R_L b_L_law 8 ret p s m #[Value.ref b] meth c ∧ BB s dC dI dA ∧ XX s ∧ l.stackTraces = false ∧ va_X b L xs s s.heap ∧ b < s.heap.size ∧ L ≤ 3072 ∧ DJ AD md ou
abbrev LLoc (AD md : Nat → Nat) (ou b i : Nat) : List (Nat × Value) := [(0, .ref b), (1, .ref (AD 27)), (2, .ref (md 36)), (3, .ref ou), (4, .int (nI i))]
/-- the law goes on behind a call -/
def KK (p : Program) (l : Launch) (e : Env) (s : State) (m : MethodId) (below : List Frame) (meth : Method) (c : Code) (dC : Nat → ClassId) (dI : Nat → Nat → Nat) (dA : Nat → ClassId) (b : Nat) (AD md : Nat → Nat) (ou i cells slots : Nat) : Prop :=
  ∀ (w : fw_W) (β : BS) (H : Heap) (locs : List Loc) (ls : Array Slot), LSt dA AD md ou w β → fw_P (dC, dI) cls_ (AA s) w H → va_S (AA s) s.heap H locs → lv_has ls 8 (LLoc AD md ou b i) → W p l e room_1 s m #[Value.ref b] below meth c H locs cells slots (lw_Z below #[Value.ref b] s) (F0 m 794 ls [])
section STP
variable {dA : Nat → ClassId} {AD md : Nat → Nat} {ou : Nat} {Fz : Nat → Prop} {w w1 w2 : fw_W} {β β1 β2 : BS} {μ : MS} {fo fo1 : Nat → Int64} {n : Nat}
theorem cl_step (hD : DJ AD md ou) (h1 : RD dA md w μ) (h2 : w ou = some (oc dA fo)) (h3 : ∀ j, U37 j → ¬ Fz (md j)) (h4 : ¬ Fz ou) (hv : VL dA AD ou Fz w w1 β1 fo1) : ∃ Fz1 : Nat → Prop, RBb dA AD Fz1 w1 β1 ∧ RD dA md w1 μ ∧ w1 ou = some (oc dA fo1) ∧ (∀ j, U37 j → ¬ Fz1 (md j)) ∧ ¬ Fz1 ou := by
  obtain ⟨d1, d2, d3, d4, d5⟩ := hD
  obtain ⟨Fz1, a1, a2, a3, a4⟩ := hv
  have hs := h1.some
  refine ⟨Fz1, a1, h1.agree (fun j hj => ?_), a4, fun j hj h9 => ?_, fun h9 => ?_⟩
  · obtain ⟨e, he⟩ := some_ne (hs j hj)
    rw [he]
    exact a3 _ e he (fun i hi e9 => d3 i j hi hj e9.symm) (fun e9 => d5 j hj e9.symm)
  · exact (a2 _ h9).elim (h3 j hj) (hs j hj)
  · exact (a2 _ h9).elim h4 (fun h8 => by rw [h2] at h8; cases h8)
theorem md_step (hD : DJ AD md ou) (hR : RBb dA AD Fz w1 β1) (h2 : w1 ou = some (oc dA fo1)) (h3 : ∀ j, U37 j → ¬ Fz (md j)) (hM : MB dA md w1 w2 β2 n) : ∃ μ2, RD dA md w2 μ2 ∧ RQ β2 μ2 ∧ m_thr μ2 = n ∧ RBb dA AD Fz w2 β1 ∧ w2 ou = some (oc dA fo1) := by
  obtain ⟨d1, d2, d3, d4, d5⟩ := hD
  obtain ⟨μ2, a1, a2, a3, a4⟩ := hM
  exact ⟨μ2, a1, a2, a3, RB.agree hR (fun i hi => a4 _ (fun j hj => d3 i j hi hj)) (fun q hq => a4 q (fun j hj e9 => h3 j hj (by rw [← e9]; exact hq))), (a4 ou d5).trans h2⟩
end STP
