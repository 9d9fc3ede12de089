/-! ===== calls over the base ===== -/
section CAL
variable {p : Program} {l : Launch} {e : Env} {R : Room} {s : State} {m : MethodId} {args : Array Value} {below : List Frame} {meth : Method} {c : Code} {H : Heap} {locs : List Loc} {cells slots : Nat} {Q : State → Prop}
variable {s0 : State} {dC : Nat → ClassId} {dI : Nat → Nat → Nat} {dA : Nat → ClassId} {own : String} {cc : ByteArray} {nL : Nat} {ret0 : Option FieldType} {w : fw_W}
variable {y : MethodName} {bytes : ByteArray} {maxL mc ms n index : Nat} {ret : Option FieldType} {rm : Room} {Qc : Array Value → State → Outcome → State → Prop} {C : String} {b : Nat} {As rest st0 : List Value} {ls : Array Slot} {pc : Nat} {T : u_T} {N ci : Nat} {fs : List Value} {host : String}
theorem gw_code (h : Cond.code y bytes maxL ret ∈ gw) : GoodIn gw [.code y bytes maxL ret] := fun w hw => by
  rw [List.mem_singleton] at hw
  rw [hw]
  exact ⟨h, gw_good h⟩
theorem rn_V (X : CX s0 dC dI dA own cc nL ret0 p s m args meth c) (hP : fw_P (dC, dI) cls_ (AA s0) w H) (hS : va_S (AA s0) s.heap H locs) (hM : Met l y [.code y bytes maxL ret] rm (mP s0 dC dI w (.ref b :: As)) Qc mc ms (AA s0))
    (k1 : Cond.methodLink own index y ∈ gw) (k2 : Cond.instanceMethod y ∈ gw) (k3 : Cond.selects C y y ∈ gw) (k4 : Cond.initialized C ∈ gw) (k5 : Cond.code y bytes maxL ret ∈ gw)
    (hd : y.cls = C ∧ y.cls ≠ "java/lang/invoke/MethodHandle" ∧ y.cls ≠ "java/lang/invoke/VarHandle" ∧ (parseMethodDescriptor y.desc).map (fun d => d.parameters.length) = some n) (hrc : rm.cells = mc) (hrs : rm.slots = ms) (hR : rm.frames + 1 ≤ R.frames ∧ 8 + (maxL + 11) + rm.locals ≤ R.locals)
    (he : w b = some (.inr (ci, fs))) (hc : cls_[ci]? = some (C, T, N)) (hn : As.length = n) (hsize : ls.size = nL) (hstack : st0 = As.reverse ++ .ref b :: rest) (hW : (rest.map fun v => v.category).sum ≤ 8) (hdg : decode cc pc = .ok (.invokevirtual index, 3)) (hf : cells + mc ≤ R.cells ∧ slots + ms ≤ R.slots) :
    va_Run p l e R s m args below meth c H locs cells slots mc ms (F0 m pc ls st0) rest (Qc (Value.ref b :: As).toArray) (AA s0) := by
  obtain ⟨hx, hb, hr, hml, hown, hg, hK, hnn, hE, hlocks, hA⟩ := X
  refine va_runV (C := C) (As := As) ⟨hx, hb, hml, hown, hg⟩ hM (cwV n hg (fun w hw => ?_) rfl hrc hrs hd hR) ⟨mP.blind, va_recv hK (hP.one he) (q0 := 0) hc rfl, mP.at hE hP hS⟩ rfl hn hsize hstack (lv_room hW) hdg hf
  rcases List.mem_append.mp hw with h | h
  · simp only [List.mem_cons, List.not_mem_nil, or_false] at h
    rcases h with rfl | rfl | rfl | rfl
    · exact ⟨k1, gw_good k1⟩
    · exact ⟨k2, gw_good k2⟩
    · exact ⟨k3, gw_good k3⟩
    · exact ⟨k4, gw_good k4⟩
  · exact gw_code k5 w h
theorem rn_VN (X : CX s0 dC dI dA own cc nL ret0 p s m args meth c) (hP : fw_P (dC, dI) cls_ (AA s0) w H) (hS : va_S (AA s0) s.heap H locs) (hM : Met l y [.code y bytes maxL ret] rm (mP s0 dC dI w (.ref b :: As)) Qc mc ms (AA s0))
    (k1 : Cond.methodLinkNest own index y host ∈ nws) (k2 : Cond.instanceMethod y ∈ gw) (k3 : Cond.selects C y y ∈ gw) (k4 : Cond.initialized y.cls ∈ gw) (k5 : Cond.code y bytes maxL ret ∈ gw)
    (hd : y.cls ≠ "java/lang/invoke/MethodHandle" ∧ y.cls ≠ "java/lang/invoke/VarHandle" ∧ (parseMethodDescriptor y.desc).map (fun d => d.parameters.length) = some n) (hrc : rm.cells = mc) (hrs : rm.slots = ms) (hR : rm.frames + 1 ≤ R.frames ∧ 8 + (maxL + 11) + rm.locals ≤ R.locals)
    (he : w b = some (.inr (ci, fs))) (hc : cls_[ci]? = some (C, T, N)) (hn : As.length = n) (hsize : ls.size = nL) (hstack : st0 = As.reverse ++ .ref b :: rest) (hW : (rest.map fun v => v.category).sum ≤ 8) (hdg : decode cc pc = .ok (.invokevirtual index, 3)) (hf : cells + mc ≤ R.cells ∧ slots + ms ≤ R.slots) :
    va_Run p l e R s m args below meth c H locs cells slots mc ms (F0 m pc ls st0) rest (Qc (Value.ref b :: As).toArray) (AA s0) := by
  obtain ⟨hx, hb, hr, hml, hown, hg, hK, hnn, hE, hlocks, hA⟩ := X
  exact va_runVN (C := C) (As := As) ⟨hx, hb, hml, hown, hg⟩ hM ⟨va_cnB n hg (gw_code k5) rfl hrc hrs (va_Nw.of rfl (hnn _ k1)) (hg _ k4) hd hR, hg _ k2, hg _ k3⟩ ⟨mP.blind, va_recv hK (hP.one he) (q0 := 0) hc rfl, mP.at hE hP hS⟩ rfl hn hsize hstack (lv_room hW) hdg hf
theorem rn_S (X : CX s0 dC dI dA own cc nL ret0 p s m args meth c) (hP : fw_P (dC, dI) cls_ (AA s0) w H) (hS : va_S (AA s0) s.heap H locs) (hM : Met l y [.code y bytes maxL ret] rm (mP s0 dC dI w As) Qc mc ms (AA s0))
    (k1 : Cond.methodLink own index y ∈ gw) (k2 : Cond.static y ∈ gw) (k4 : Cond.initialized y.cls ∈ gw) (k5 : Cond.code y bytes maxL ret ∈ gw)
    (hd : y.cls ≠ "java/lang/invoke/MethodHandle" ∧ y.cls ≠ "java/lang/invoke/VarHandle" ∧ (parseMethodDescriptor y.desc).map (fun d => d.parameters.length) = some n) (hrc : rm.cells = mc) (hrs : rm.slots = ms) (hR : rm.frames + 1 ≤ R.frames ∧ 8 + (maxL + 11) + rm.locals ≤ R.locals)
    (hn : As.length = n) (hsize : ls.size = nL) (hstack : st0 = As.reverse ++ rest) (hW : (rest.map fun v => v.category).sum ≤ 8) (hdg : decode cc pc = .ok (.invokestatic index, 3)) (hf : cells + mc ≤ R.cells ∧ slots + ms ≤ R.slots) :
    va_Run p l e R s m args below meth c H locs cells slots mc ms (F0 m pc ls st0) rest (Qc As.toArray) (AA s0) := by
  obtain ⟨hx, hb, hr, hml, hown, hg, hK, hnn, hE, hlocks, hA⟩ := X
  exact va_runS (As := As) ⟨hx, hb, hml, hown, hg⟩ hM ⟨callB_of n hg (gw_code k5) rfl hrc hrs (hg _ k4) (hg _ k1) hd hR, hg _ k2⟩ ⟨mP.blind, mP.at hE hP hS⟩ rfl hn hsize hstack (lv_room hW) hdg hf
theorem rn_SN (X : CX s0 dC dI dA own cc nL ret0 p s m args meth c) (hP : fw_P (dC, dI) cls_ (AA s0) w H) (hS : va_S (AA s0) s.heap H locs) (hM : Met l y [.code y bytes maxL ret] rm (mP s0 dC dI w As) Qc mc ms (AA s0))
    (k1 : Cond.methodLinkNest own index y host ∈ nws) (k2 : Cond.static y ∈ gw) (k4 : Cond.initialized y.cls ∈ gw) (k5 : Cond.code y bytes maxL ret ∈ gw)
    (hd : y.cls ≠ "java/lang/invoke/MethodHandle" ∧ y.cls ≠ "java/lang/invoke/VarHandle" ∧ (parseMethodDescriptor y.desc).map (fun d => d.parameters.length) = some n) (hrc : rm.cells = mc) (hrs : rm.slots = ms) (hR : rm.frames + 1 ≤ R.frames ∧ 8 + (maxL + 11) + rm.locals ≤ R.locals)
    (hn : As.length = n) (hsize : ls.size = nL) (hstack : st0 = As.reverse ++ rest) (hW : (rest.map fun v => v.category).sum ≤ 8) (hdg : decode cc pc = .ok (.invokestatic index, 3)) (hf : cells + mc ≤ R.cells ∧ slots + ms ≤ R.slots) :
    va_Run p l e R s m args below meth c H locs cells slots mc ms (F0 m pc ls st0) rest (Qc As.toArray) (AA s0) := by
  obtain ⟨hx, hb, hr, hml, hown, hg, hK, hnn, hE, hlocks, hA⟩ := X
  exact va_runSN (As := As) ⟨hx, hb, hml, hown, hg⟩ hM ⟨va_cnB n hg (gw_code k5) rfl hrc hrs (va_Nw.of rfl (hnn _ k1)) (hg _ k4) hd hR, hg _ k2, trivial⟩ ⟨mP.blind, mP.at hE hP hS⟩ rfl hn hsize hstack (lv_room hW) hdg hf
theorem rn_I (X : CX s0 dC dI dA own cc nL ret0 p s m args meth c) (hP : fw_P (dC, dI) cls_ (AA s0) w H) (hS : va_S (AA s0) s.heap H locs) (hM : Met l y [.code y bytes maxL none] rm (mP s0 dC dI w (.ref b :: As)) Qc mc ms (AA s0))
    (k1 : Cond.methodLink own index y ∈ gw) (k2 : Cond.instanceMethod y ∈ gw) (k4 : Cond.initialized y.cls ∈ gw) (k5 : Cond.code y bytes maxL none ∈ gw) (hi : y.name = "<init>")
    (hd : y.cls ≠ "java/lang/invoke/MethodHandle" ∧ y.cls ≠ "java/lang/invoke/VarHandle" ∧ (parseMethodDescriptor y.desc).map (fun d => d.parameters.length) = some n) (hrc : rm.cells = mc) (hrs : rm.slots = ms) (hR : rm.frames + 1 ≤ R.frames ∧ 8 + (maxL + 11) + rm.locals ≤ R.locals)
    (hn : As.length = n) (hsize : ls.size = nL) (hstack : st0 = As.reverse ++ .ref b :: rest) (hW : (rest.map fun v => v.category).sum ≤ 8) (hdg : decode cc pc = .ok (.invokespecial index, 3)) (hf : cells + mc ≤ R.cells ∧ slots + ms ≤ R.slots) :
    va_Run p l e R s m args below meth c H locs cells slots mc ms (F0 m pc ls st0) rest (Qc (Value.ref b :: As).toArray) (AA s0) := by
  obtain ⟨hx, hb, hr, hml, hown, hg, hK, hnn, hE, hlocks, hA⟩ := X
  exact va_runI (As := As) ⟨hx, hb, hml, hown, hg⟩ hM ⟨callB_of n hg (gw_code k5) rfl hrc hrs (hg _ k4) (hg _ k1) hd hR, hi, hg _ k2⟩ ⟨mP.blind, mP.at hE hP hS⟩ rfl hn hsize hstack (lv_room hW) hdg hf
theorem rn_IN (X : CX s0 dC dI dA own cc nL ret0 p s m args meth c) (hP : fw_P (dC, dI) cls_ (AA s0) w H) (hS : va_S (AA s0) s.heap H locs) (hM : Met l y [.code y bytes maxL none] rm (mP s0 dC dI w (.ref b :: As)) Qc mc ms (AA s0))
    (k1 : Cond.methodLinkNest own index y host ∈ nws) (k2 : Cond.instanceMethod y ∈ gw) (k4 : Cond.initialized y.cls ∈ gw) (k5 : Cond.code y bytes maxL none ∈ gw) (hi : y.name = "<init>")
    (hd : y.cls ≠ "java/lang/invoke/MethodHandle" ∧ y.cls ≠ "java/lang/invoke/VarHandle" ∧ (parseMethodDescriptor y.desc).map (fun d => d.parameters.length) = some n) (hrc : rm.cells = mc) (hrs : rm.slots = ms) (hR : rm.frames + 1 ≤ R.frames ∧ 8 + (maxL + 11) + rm.locals ≤ R.locals)
    (hn : As.length = n) (hsize : ls.size = nL) (hstack : st0 = As.reverse ++ .ref b :: rest) (hW : (rest.map fun v => v.category).sum ≤ 8) (hdg : decode cc pc = .ok (.invokespecial index, 3)) (hf : cells + mc ≤ R.cells ∧ slots + ms ≤ R.slots) :
    va_Run p l e R s m args below meth c H locs cells slots mc ms (F0 m pc ls st0) rest (Qc (Value.ref b :: As).toArray) (AA s0) := by
  obtain ⟨hx, hb, hr, hml, hown, hg, hK, hnn, hE, hlocks, hA⟩ := X
  exact va_runIN (As := As) ⟨hx, hb, hml, hown, hg⟩ hM ⟨va_cnB n hg (gw_code k5) rfl hrc hrs (va_Nw.of rfl (hnn _ k1)) (hg _ k4) hd hR, hi, hg _ k2⟩ ⟨mP.blind, mP.at hE hP hS⟩ rfl hn hsize hstack (lv_room hW) hdg hf
end CAL
section NUM
variable {p : Program} {l : Launch} {e : Env} {R : Room} {s : State} {m : MethodId} {args : Array Value} {below : List Frame} {meth : Method} {c : Code} {H : Heap} {locs : List Loc} {cells slots : Nat} {Q : State → Prop}
variable {cc : ByteArray} {pc : Nat} {ls : Array Slot} {rest : List Value}
theorem nu_iadd (hx : p.tables.exec = Jvm.exec) (hb : c.code = cc) {a b r : Nat} (hdg : decode cc pc = .ok (.iadd, 1)) (hr : a + b = r) (k : W p l e R s m args below meth c H locs cells slots Q (F0 m (pc + 1) ls (.int (nI r) :: rest))) : W p l e R s m args below meth c H locs cells slots Q (F0 m pc ls (.int (nI b) :: .int (nI a) :: rest)) := by
  refine lv_iadd hx hb hdg ?_
  rw [nI_add, hr]
  exact k
theorem nu_isub (hx : p.tables.exec = Jvm.exec) (hb : c.code = cc) {a b r : Nat} (hdg : decode cc pc = .ok (.isub, 1)) (hr : a = b + r) (k : W p l e R s m args below meth c H locs cells slots Q (F0 m (pc + 1) ls (.int (nI r) :: rest))) : W p l e R s m args below meth c H locs cells slots Q (F0 m pc ls (.int (nI b) :: .int (nI a) :: rest)) := by
  refine lv_isub hx hb hdg ?_
  rw [pk_sub (by omega), show a - b = r by omega]
  exact k
theorem nu_imul (hx : p.tables.exec = Jvm.exec) (hb : c.code = cc) {a b r : Nat} (hdg : decode cc pc = .ok (.imul, 1)) (hr : a * b = r) (k : W p l e R s m args below meth c H locs cells slots Q (F0 m (pc + 1) ls (.int (nI r) :: rest))) : W p l e R s m args below meth c H locs cells slots Q (F0 m pc ls (.int (nI b) :: .int (nI a) :: rest)) := by
  refine lv_imul hx hb hdg ?_
  rw [pk_mul, hr]
  exact k
theorem nu_lt (hx : p.tables.exec = Jvm.exec) (hb : c.code = cc) {a b : Nat} {off : Int} {tgt : Nat} (ha : a < 2 ^ 31) (hb2 : b < 2 ^ 31) (hdg : decode cc pc = .ok (.if_icmp .lt off, 3)) (ht : (pc : Int) + off = (tgt : Int)) (k1 : a < b → W p l e R s m args below meth c H locs cells slots Q (F0 m tgt ls rest)) (k2 : b ≤ a → W p l e R s m args below meth c H locs cells slots Q (F0 m (pc + 3) ls rest)) : W p l e R s m args below meth c H locs cells slots Q (F0 m pc ls (.int (nI b) :: .int (nI a) :: rest)) :=
  lv_icmp_lt hx hb hdg ht (fun h => k1 ((nI_ltI ha hb2).mp h)) (fun h => k2 (Nat.not_lt.mp (fun q => h ((nI_ltI ha hb2).mpr q))))
theorem nu_ge (hx : p.tables.exec = Jvm.exec) (hb : c.code = cc) {a b : Nat} {off : Int} {tgt : Nat} (ha : a < 2 ^ 31) (hb2 : b < 2 ^ 31) (hdg : decode cc pc = .ok (.if_icmp .ge off, 3)) (ht : (pc : Int) + off = (tgt : Int)) (k1 : b ≤ a → W p l e R s m args below meth c H locs cells slots Q (F0 m tgt ls rest)) (k2 : a < b → W p l e R s m args below meth c H locs cells slots Q (F0 m (pc + 3) ls rest)) : W p l e R s m args below meth c H locs cells slots Q (F0 m pc ls (.int (nI b) :: .int (nI a) :: rest)) :=
  lv_icmp_ge hx hb hdg ht (fun h => k1 ((nI_leI hb2 ha).mp h)) (fun h => k2 (Nat.not_le.mp (fun q => h ((nI_leI hb2 ha).mpr q))))
theorem nu_gt (hx : p.tables.exec = Jvm.exec) (hb : c.code = cc) {a b : Nat} {off : Int} {tgt : Nat} (ha : a < 2 ^ 31) (hb2 : b < 2 ^ 31) (hdg : decode cc pc = .ok (.if_icmp .gt off, 3)) (ht : (pc : Int) + off = (tgt : Int)) (k1 : b < a → W p l e R s m args below meth c H locs cells slots Q (F0 m tgt ls rest)) (k2 : a ≤ b → W p l e R s m args below meth c H locs cells slots Q (F0 m (pc + 3) ls rest)) : W p l e R s m args below meth c H locs cells slots Q (F0 m pc ls (.int (nI b) :: .int (nI a) :: rest)) :=
  lv_icmp_gt hx hb hdg ht (fun h => k1 ((nI_ltI hb2 ha).mp h)) (fun h => k2 (Nat.not_lt.mp (fun q => h ((nI_ltI hb2 ha).mpr q))))
theorem nu_le (hx : p.tables.exec = Jvm.exec) (hb : c.code = cc) {a b : Nat} {off : Int} {tgt : Nat} (ha : a < 2 ^ 31) (hb2 : b < 2 ^ 31) (hdg : decode cc pc = .ok (.if_icmp .le off, 3)) (ht : (pc : Int) + off = (tgt : Int)) (k1 : a ≤ b → W p l e R s m args below meth c H locs cells slots Q (F0 m tgt ls rest)) (k2 : b < a → W p l e R s m args below meth c H locs cells slots Q (F0 m (pc + 3) ls rest)) : W p l e R s m args below meth c H locs cells slots Q (F0 m pc ls (.int (nI b) :: .int (nI a) :: rest)) :=
  lv_icmp_le hx hb hdg ht (fun h => k1 ((nI_leI ha hb2).mp h)) (fun h => k2 (Nat.not_le.mp (fun q => h ((nI_leI ha hb2).mpr q))))
theorem nu_eq (hx : p.tables.exec = Jvm.exec) (hb : c.code = cc) {a b : Nat} {off : Int} {tgt : Nat} (ha : a < 2 ^ 31) (hb2 : b < 2 ^ 31) (hdg : decode cc pc = .ok (.if_icmp .eq off, 3)) (ht : (pc : Int) + off = (tgt : Int)) (k1 : a = b → W p l e R s m args below meth c H locs cells slots Q (F0 m tgt ls rest)) (k2 : a ≠ b → W p l e R s m args below meth c H locs cells slots Q (F0 m (pc + 3) ls rest)) : W p l e R s m args below meth c H locs cells slots Q (F0 m pc ls (.int (nI b) :: .int (nI a) :: rest)) :=
  lv_icmp_eq hx hb hdg ht (fun h => k1 ((nI_eq ha hb2).mp h)) (fun h => k2 (fun q => h ((nI_eq ha hb2).mpr q)))
theorem nu_ne (hx : p.tables.exec = Jvm.exec) (hb : c.code = cc) {a b : Nat} {off : Int} {tgt : Nat} (ha : a < 2 ^ 31) (hb2 : b < 2 ^ 31) (hdg : decode cc pc = .ok (.if_icmp .ne off, 3)) (ht : (pc : Int) + off = (tgt : Int)) (k1 : a ≠ b → W p l e R s m args below meth c H locs cells slots Q (F0 m tgt ls rest)) (k2 : a = b → W p l e R s m args below meth c H locs cells slots Q (F0 m (pc + 3) ls rest)) : W p l e R s m args below meth c H locs cells slots Q (F0 m pc ls (.int (nI b) :: .int (nI a) :: rest)) :=
  lv_icmp_ne hx hb hdg ht (fun h => k1 (fun q => h ((nI_eq ha hb2).mpr q))) (fun h => k2 ((nI_eq ha hb2).mp h))
theorem nu_ifeq (hx : p.tables.exec = Jvm.exec) (hb : c.code = cc) {b : Bool} {off : Int} {tgt : Nat} (hdg : decode cc pc = .ok (.ifCond .eq off, 3)) (ht : (pc : Int) + off = (tgt : Int)) (k1 : b = false → W p l e R s m args below meth c H locs cells slots Q (F0 m tgt ls rest)) (k2 : b = true → W p l e R s m args below meth c H locs cells slots Q (F0 m (pc + 3) ls rest)) : W p l e R s m args below meth c H locs cells slots Q (F0 m pc ls (.int (nI b.toNat) :: rest)) :=
  lv_if_eq hx hb hdg ht (fun h => k1 (by cases b with | false => rfl | true => exact absurd h (by decide))) (fun h => k2 (by cases b with | true => rfl | false => exact absurd rfl h))
theorem nu_ifne (hx : p.tables.exec = Jvm.exec) (hb : c.code = cc) {b : Bool} {off : Int} {tgt : Nat} (hdg : decode cc pc = .ok (.ifCond .ne off, 3)) (ht : (pc : Int) + off = (tgt : Int)) (k1 : b = true → W p l e R s m args below meth c H locs cells slots Q (F0 m tgt ls rest)) (k2 : b = false → W p l e R s m args below meth c H locs cells slots Q (F0 m (pc + 3) ls rest)) : W p l e R s m args below meth c H locs cells slots Q (F0 m pc ls (.int (nI b.toNat) :: rest)) :=
  lv_if_ne hx hb hdg ht (fun h => k1 (by cases b with | true => rfl | false => exact absurd rfl h)) (fun h => k2 (by cases b with | false => rfl | true => exact absurd h (by decide)))
end NUM
