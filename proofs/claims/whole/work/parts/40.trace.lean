set_option maxHeartbeats 4000000 in
set_option maxRecDepth 100000 in
theorem c_T_init {l : Launch} {s0 : State} {dC : Nat → ClassId} {dI : Nat → Nat → Nat} {dA : Nat → ClassId} (B0 : BB s0 dC dI dA) (w : fw_W) (h : Nat) (o : Int32) (f1 : w h = some (.inr (3, [.int 0, .null, .null, .int 0, .long 0]))) : Met l y_T_init [.code y_T_init b_T_init 2 none] ({ frames := 1, cells := 2, slots := 6, locals := 12 }) (mP s0 dC dI w [.ref h, .int o]) (mQv s0 dC dI (fun w' => ∃ kt vt : Nat, w kt = none ∧ w vt = none ∧ kt ≠ vt ∧ w' h = some (.inr (3, [.int o, .ref kt, .ref vt, .int 0, .long 0])) ∧ w' kt = some (.inl (dA 0, 3, .inl (fun _ => 0))) ∧ w' vt = some (.inl (dA 1, 3, .inr (.inl (fun _ => 0)))) ∧ ∀ z, z ≠ h → z ≠ kt → z ≠ vt → w' z = w z)) 2 6 (AA s0) := by
  refine mt_ofW B0 (by decide) (Nat.le_of_ble_eq_true rfl) (fun p e s m args below meth c ls hargs X hin hl hP => ?_)
  have X9 := X
  obtain ⟨hx, hb, hr, hml, hown, hg, hK, hn, hE, hlocks, hA⟩ := X9
  have hS : va_S (AA s0) s.heap s.heap [] := va_S.rf
  have hl : lv_has ls 2 [(0, .ref h), (1, .int o)] := hl
  refine lv_aload_n hx hb d_T_init_0 rfl (lv_at hl 0 rfl) ?_
  refine W.objInit hx hb hown (hg _ k_401) (hg _ k_74) (hg _ k_75) rfl (by rw [hml]; exact hl.1) rfl d_T_init_1 (Nat.le_of_ble_eq_true rfl) (Nat.le_of_ble_eq_true rfl) ?_
  refine W.eq (g2 := F0 m 4 ls []) rfl ?_
  refine lv_aload_n hx hb d_T_init_4 rfl (lv_at hl 0 rfl) ?_
  refine lv_iconst (v := (nI 3)) hx hb d_T_init_5 (by decide) ?_
  refine fw_newa (tys := tyl dA) (atype := .int) (N' := 3) (a0 := (3, .inl (fun _ => 0))) hx hb (hg _ k_106) rfl hK hP hS hA 0 rfl (fun _ => rfl) (by decide) (by decide) (by decide) (Nat.le_of_ble_eq_true rfl) (Nat.le_of_ble_eq_true rfl) d_T_init_6 (fun q1 w2 H hn4 ew3 hP hS => ?_)
  have f1 : w2 h = some (.inr (3, [.int 0, .null, .null, .int 0, .long 0])) := by rw [ew3, va_up_ne _ _ (fw_neN f1 hn4)]; exact f1
  have f5 : w2 q1 = some (.inl (dA 0, 3, .inl (fun _ => 0))) := by rw [ew3]; exact va_up_self _ _ _
  refine fw_putF (D := (dC, dI)) (ci := 3) (v := .ref q1) (ty := (.array .int)) (C := R_T) (T := F_T) (N := 5) hx hb hg in_T ft_T ft_T_ok n_T hown hK hP hS f1 rfl 1 (by decide) (hg _ k_406) (fun _ h9 => h9) rfl (hin rfl) rfl (by decide +kernel) rfl rfl (Nat.le_of_ble_eq_true rfl) d_T_init_8 (fun w6 H locs ew7 hP hS => ?_)
  have f5 : w6 q1 = some (.inl (dA 0, 3, .inl (fun _ => 0))) := by rw [ew7, va_up_ne _ _ (fw_ne f5 f1 (by simp))]; exact f5
  have f1 : w6 h = some (.inr (3, [.int 0, .ref q1, .null, .int 0, .long 0])) := by rw [ew7]; exact va_up_self _ _ _
  refine lv_aload_n hx hb d_T_init_11 rfl (lv_at hl 0 rfl) ?_
  refine lv_iconst (v := (nI 3)) hx hb d_T_init_12 (by decide) ?_
  refine fw_newa (tys := tyl dA) (atype := .long) (N' := 3) (a0 := (3, .inr (.inl (fun _ => 0)))) hx hb (hg _ k_107) rfl hK hP hS hA 1 rfl (fun _ => rfl) (by decide) (by decide) (by decide) (Nat.le_of_ble_eq_true rfl) (Nat.le_of_ble_eq_true rfl) d_T_init_13 (fun q8 w9 H hn11 ew10 hP hS => ?_)
  have f1 : w9 h = some (.inr (3, [.int 0, .ref q1, .null, .int 0, .long 0])) := by rw [ew10, va_up_ne _ _ (fw_neN f1 hn11)]; exact f1
  have f5 : w9 q1 = some (.inl (dA 0, 3, .inl (fun _ => 0))) := by rw [ew10, va_up_ne _ _ (fw_neN f5 hn11)]; exact f5
  have f12 : w9 q8 = some (.inl (dA 1, 3, .inr (.inl (fun _ => 0)))) := by rw [ew10]; exact va_up_self _ _ _
  refine fw_putF (D := (dC, dI)) (ci := 3) (v := .ref q8) (ty := (.array .long)) (C := R_T) (T := F_T) (N := 5) hx hb hg in_T ft_T ft_T_ok n_T hown hK hP hS f1 rfl 2 (by decide) (hg _ k_409) (fun _ h9 => h9) rfl (hin rfl) rfl (by decide +kernel) rfl rfl (Nat.le_of_ble_eq_true rfl) d_T_init_15 (fun w13 H locs ew14 hP hS => ?_)
  have f5 : w13 q1 = some (.inl (dA 0, 3, .inl (fun _ => 0))) := by rw [ew14, va_up_ne _ _ (fw_ne f5 f1 (by simp))]; exact f5
  have f12 : w13 q8 = some (.inl (dA 1, 3, .inr (.inl (fun _ => 0)))) := by rw [ew14, va_up_ne _ _ (fw_ne f12 f1 (by simp))]; exact f12
  have f1 : w13 h = some (.inr (3, [.int 0, .ref q1, .ref q8, .int 0, .long 0])) := by rw [ew14]; exact va_up_self _ _ _
  refine lv_aload_n hx hb d_T_init_18 rfl (lv_at hl 0 rfl) ?_
  refine lv_iload_n hx hb d_T_init_19 rfl (lv_at hl 1 rfl) ?_
  refine fw_putF (D := (dC, dI)) (ci := 3) (v := .int o) (ty := .int) (C := R_T) (T := F_T) (N := 5) hx hb hg in_T ft_T ft_T_ok n_T hown hK hP hS f1 rfl 0 (by decide) (hg _ k_402) (fun _ h9 => h9) rfl (hin rfl) rfl (by decide +kernel) rfl rfl (Nat.le_of_ble_eq_true rfl) d_T_init_20 (fun w15 H locs ew16 hP hS => ?_)
  have f5 : w15 q1 = some (.inl (dA 0, 3, .inl (fun _ => 0))) := by rw [ew16, va_up_ne _ _ (fw_ne f5 f1 (by simp))]; exact f5
  have f12 : w15 q8 = some (.inl (dA 1, 3, .inr (.inl (fun _ => 0)))) := by rw [ew16, va_up_ne _ _ (fw_ne f12 f1 (by simp))]; exact f12
  have f1 : w15 h = some (.inr (3, [.int o, .ref q1, .ref q8, .int 0, .long 0])) := by rw [ew16]; exact va_up_self _ _ _
  have hvn : w q8 = none ∧ q1 ≠ q8 := by
    have e1 : q8 ≠ h := Ne.symm (fw_neN (w := w6) (by rw [ew7, va_up_self]) hn11)
    have e2 : q1 ≠ q8 := fun z => by
      have a9 := hn11
      rw [ew7, va_up_ne _ _ e1, ew3, ← z, va_up_self] at a9
      cases a9
    have a9 := hn11
    rw [ew7, va_up_ne _ _ e1, ew3, va_up_ne _ _ (Ne.symm e2)] at a9
    exact ⟨a9, e2⟩
  exact W.vret hx hb hr (fun tS ht hW => ⟨⟨w15, rfl, ⟨q1, q8, hn4, hvn.1, hvn.2, f1, f5, f12, (fun z z1 z2 z3 => by rw [ew16, va_up_ne _ _ z1, ew14, va_up_ne _ _ z1, ew10, va_up_ne _ _ z3, ew7, va_up_ne _ _ z1, ew3, va_up_ne _ _ z2])⟩, mB_of ht hP⟩, hS.F ht⟩) hS.2.2 d_T_init_23
set_option maxHeartbeats 4000000 in
set_option maxRecDepth 100000 in
theorem c_T_has {l : Launch} {s0 : State} {dC : Nat → ClassId} {dI : Nat → Nat → Nat} {dA : Nat → ClassId} (B0 : BB s0 dC dI dA) (w : fw_W) (h kt vt sz : Nat) (o : Int32) (res : Int64) (fk : Nat → Int32) (key : Int32) (f1 : w h = some (.inr (3, [.int o, .ref kt, .ref vt, .int (nI sz), .long res]))) (f2 : w kt = some (.inl (dA 0, 3, .inl fk))) (hsz : sz ≤ 3) : Met l y_T_has [.code y_T_has b_T_has 3 (some .boolean)] ({ frames := 0, cells := 0, slots := 0, locals := 0 }) (mP s0 dC dI w [.ref h, .int key]) (mQi s0 dC dI (fun r w' => w' = w ∧ ∃ b : Bool, r = nI b.toNat ∧ (b = true ↔ ∃ j, j < sz ∧ fk j = key))) 0 0 (AA s0) := by
  refine mt_ofW B0 (by decide) (Nat.le_of_ble_eq_true rfl) (fun p e s m args below meth c ls hargs X hin hl hP => ?_)
  have X9 := X
  obtain ⟨hx, hb, hr, hml, hown, hg, hK, hn, hE, hlocks, hA⟩ := X9
  have hS : va_S (AA s0) s.heap s.heap [] := va_S.rf
  have hl : lv_has ls 3 [(0, .ref h), (1, .int key)] := hl
  refine lv_iconst (v := (nI 0)) hx hb d_T_has_0 (by decide) ?_
  refine lv_istore_n (lv' := [(2, .int (nI 0)), (0, .ref h), (1, .int key)]) hx hb d_T_has_1 rfl hl (by decide) rfl (fun ls hl => ?_)
  suffices lp : ∀ (n i : Nat), i ≤ sz → sz < i + n → (∀ j, j < i → fk j ≠ key) → ∀ (ls : Array Slot), lv_has ls 3 [(0, .ref h), (1, .int key), (2, .int (nI i))] → W p l e _ s m args below meth c s.heap [] 0 0 (MQ below _ args s 0 0 (AA s0)) (F0 m 2 ls []) from lp (sz + 1) 0 (Nat.zero_le _) (by omega) (fun j hj => absurd hj (Nat.not_lt_zero j)) ls (lv_sub hl [1, 2, 0] rfl)
  intro n
  induction n with
  | zero => intro i h1 h2; exact absurd h2 (by omega)
  | succ n ih =>
    intro i hi hn2 hpre ls hl
    refine lv_iload_n hx hb d_T_has_2 rfl (lv_at hl 2 rfl) ?_
    refine lv_aload_n hx hb d_T_has_3 rfl (lv_at hl 0 rfl) ?_
    refine va_get (D := (dC, dI)) (ci := 3) (v := .int (nI sz)) (C := R_T) (T := F_T) (N := 5) hx hb hg in_T hown hK (hP.one f1) 0 rfl rfl 3 (by decide) (hg _ k_412) (fun _ h9 => h9) rfl d_T_has_4 ?_
    refine nu_ge (tgt := 28) hx hb (by omega) (by omega) d_T_has_7 (by decide) (fun c1 => ?_) (fun c1 => ?_)
    · refine lv_iconst (v := (nI 0)) hx hb d_T_has_28 (by decide) ?_
      exact W.zret (v := (nI 0)) hx hb hr (by decide) (fun tS ht hW => ⟨⟨(nI 0), w, rfl, ⟨rfl, false, rfl, ⟨fun h => (by cases h), fun ⟨j, h1, h2⟩ => absurd h2 (hpre j (by omega))⟩⟩, mB_of ht hP⟩, hS.F ht⟩) hS.2.2 d_T_has_29
    · refine lv_aload_n hx hb d_T_has_10 rfl (lv_at hl 0 rfl) ?_
      refine va_get (D := (dC, dI)) (ci := 3) (v := .ref kt) (C := R_T) (T := F_T) (N := 5) hx hb hg in_T hown hK (hP.one f1) 0 rfl rfl 1 (by decide) (hg _ k_406) (fun _ h9 => h9) rfl d_T_has_11 ?_
      refine lv_iload_n hx hb d_T_has_14 rfl (lv_at hl 2 rfl) ?_
      refine fw_iald (tys := tyl dA) hx hb hK hP f2 0 rfl (j := i) (by omega) (by decide) d_T_has_15 ?_
      refine lv_iload_n hx hb d_T_has_16 rfl (lv_at hl 1 rfl) ?_
      refine lv_icmp_ne (tgt := 22) hx hb d_T_has_17 (by decide) (fun c2 => ?_) (fun c2 => ?_)
      · refine lv_iinc (v := nI (i + 1)) (lv' := [(2, .int (nI (i + 1))), (0, .ref h), (1, .int key)]) hx hb d_T_has_22 hl (k := 2) rfl (nI_add _ 1) (by decide) rfl (fun ls hl => ?_)
        refine lv_goto (tgt := 2) hx hb d_T_has_25 (by decide) ?_
        exact ih (i + 1) (by omega) (by omega) (fun j hj => by rcases Nat.lt_succ_iff_lt_or_eq.mp hj with h | h; exact hpre j h; rw [h]; exact c2) ls (lv_sub hl [1, 2, 0] rfl)
      · refine lv_iconst (v := (nI 1)) hx hb d_T_has_20 (by decide) ?_
        exact W.zret (v := (nI 1)) hx hb hr (by decide) (fun tS ht hW => ⟨⟨(nI 1), w, rfl, ⟨rfl, true, rfl, ⟨fun _ => ⟨i, by omega, c2⟩, fun _ => rfl⟩⟩, mB_of ht hP⟩, hS.F ht⟩) hS.2.2 d_T_has_21
