abbrev nf (f : Nat → Nat) : Nat → Int32 := fun k => nI (f k)
abbrev zf (f : Nat → Bool) : Nat → Int32 := fun k => nI (f k).toNat
theorem nf_up {f : Nat → Nat} {j v : Nat} : upd (nf f) j (nI v) = nf (va_up f j v) := by
  funext k
  by_cases h : k = j
  · simp [upd, va_up, nf, zf, h]
  · simp [upd, va_up, nf, zf, h]
theorem nar_b (b : Bool) : narrow .boolean (.int (nI b.toNat)) = .int (nI b.toNat) := by cases b <;> decide
theorem fit_b (b : Bool) : fits .boolean (.int (nI b.toNat)) = true := by cases b <;> decide
theorem vnar_b (b : Bool) : vp_nar .boolean (nI b.toNat) = nI b.toNat := by cases b <;> decide
theorem zf_up {f : Nat → Bool} {j : Nat} {v : Bool} : upd (zf f) j (vp_nar .boolean (nI v.toNat)) = zf (va_up f j v) := by
  rw [vnar_b]
  funext k
  by_cases h : k = j
  · simp [upd, va_up, nf, zf, h]
  · simp [upd, va_up, nf, zf, h]
theorem rf_or (r : Option Nat) : va_rf r = .null ∨ ∃ a, va_rf r = .ref a := by
  cases r with
  | none => exact Or.inl rfl
  | some a => exact Or.inr ⟨a, rfl⟩
section RWS
variable {p : Program} {l : Launch} {e : Env} {R : Room} {s : State} {m : MethodId} {args : Array Value} {below : List Frame} {meth : Method} {c : Code} {H : Heap} {locs : List Loc} {cells slots : Nat} {Q : State → Prop}
variable {cc : ByteArray} {pc : Nat} {ls : Array Slot} {rest : List Value} {D : va_G} {cl : List vw_C} {tys : List (ClassId × FieldType)} {A : Nat → Prop} {H0 : Heap} {a : Nat} {w : fw_W}
theorem fw_aldg (hexec : p.tables.exec = Jvm.exec) (hb : c.code = cc) (hK : va_K D cl tys s) (hP : fw_P D cl A w H) {cA : ClassId} {t : FieldType} {n : Nat} {f : Nat → Option Nat} (ha : w a = some (.inl (cA, n, .inr (.inr (.inr (.inr f)))))) (t0 : Nat) (ht : tys[t0]? = some (cA, .array t)) {j : Nat} (hj : j < n) (hn : n < 2 ^ 31) (hdg : decode cc pc = .ok (.aaload, 1))
    (kk : W p l e R s m args below meth c H locs cells slots Q (F0 m (pc + 1) ls (va_rf (f j) :: rest))) : W p l e R s m args below meth c H locs cells slots Q (F0 m pc ls (.int (nI j) :: .ref a :: rest)) := by
  have hc : (nI j).toNatClampNeg = j := nI_clamp (Nat.lt_trans hj hn)
  have hin := vp_in_nI hj hn
  refine W.aald (v := va_rf (f j)) (ty := .array t) hexec hb (hP.one ha 0 _ rfl) ((hK.2 t0 _ ht).1 n (fun j => va_rf (f j))) rfl (fun q => by cases q) (by show ¬ (nI j < 0 ∨ (arrV _ _ _).slots.size ≤ _); rw [arrV_size]; exact hin) (by show (arrV _ _ _).slots[_]? = _; rw [hc, arrV_read _ _ hj]) rfl rfl hdg kk
theorem fw_putF (hexec : p.tables.exec = Jvm.exec) (hb : c.code = cc) {own ref C : String} {T : u_T} {N ci index : Nat} {Ts : List Cond} (hts : ∀ w ∈ Ts, w.before args s = true) (hin : ∀ w ∈ u_ws C T N, w ∈ Ts) (ty0 : Nat → FieldType) (hty : ∀ k, k < N → parseFieldDescriptor (T k).2.2.1 = some (ty0 k)) (hnm : ∀ a, a < N → ∀ b, b < N → a ≠ b → (T a).2.1 ≠ (T b).2.1) (hown : s.vm.findClass own = some m.cls) (hK : va_K D cl tys s) (hP : fw_P D cl A w H) (hS0 : va_S A H0 H locs) {fs : List Value} (he : w a = some (.inr (ci, fs))) (hc : cl[ci]? = some (C, T, N)) (k : Nat) (hk : k < N) (hlink : (Cond.fieldLink own index ref (T k).2.1 (T k).2.2.1).before args s = true) (hsame : ∀ x, s.fieldFound? (T k).1 (T k).2.1 (T k).2.2.1 = some x → s.fieldFound? ref (T k).2.1 (T k).2.2.1 = some x) (hfin : (T k).2.2.2 = true) (hin2 : meth.name = "<init>") (hdecl : (T k).1 = own) {ty : FieldType} {v : Value} (hd : parseFieldDescriptor (T k).2.2.1 = some ty) (hn : narrow ty v = v) (hfit : fits ty v = true) (hl : k < fs.length)
    (hdg : decode cc pc = .ok (.putfield index, 3)) (kk : ∀ (w1 : fw_W) (H1 : Heap) (locs1 : List Loc), w1 = va_up w a (some (.inr (ci, fs.set k v))) → fw_P D cl A w1 H1 → va_S A H0 H1 locs1 → W p l e R s m args below meth c H1 locs1 cells slots Q (F0 m (pc + 3) ls rest)) : W p l e R s m args below meth c H locs cells slots Q (F0 m pc ls (v :: .ref a :: rest)) := by
  obtain ⟨ws, hPw, hDw, hw⟩ := fw_open hP
  obtain ⟨k2, hk2⟩ := hw a _ he
  exact va_putF hexec hb hts hin ty0 hty hnm hown hK hPw hDw hS0 k2 hk2 hc k hk hlink hsame hfin hin2 hdecl hd hn hfit hl hdg (fun H1 locs1 h1 h2 h3 => kk _ H1 locs1 rfl (fw_set hw hk2 h1 h2) h3)
end RWS
theorem mB_of {s0 t : State} {dC : Nat → ClassId} {dI : Nat → Nat → Nat} {w : fw_W} {H : Heap} (ht : t.heap = H) (hP : fw_P (dC, dI) cls_ (AA s0) w H) : mB s0 dC dI w t := by
  subst ht
  exact hP
