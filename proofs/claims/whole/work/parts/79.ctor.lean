set_option maxHeartbeats 4000000 in
set_option maxRecDepth 100000 in
theorem c_P_init {l : Launch} {s0 : State} {dC : Nat → ClassId} {dI : Nat → Nat → Nat} {dA : Nat → ClassId} (B0 : BB s0 dC dI dA) (w : fw_W) (h : Nat) (f0 : w h = some (.inr (1, [.null, .null, .null, .null, .null]))) : Met l y_P_init [.code y_P_init b_P_init 1 none] ({ frames := 1, cells := 17, slots := 96, locals := 12 }) (mP s0 dC dI w [.ref h]) (mQv s0 dC dI (fun w' => ∃ na : Nat → Nat, (∀ i, i < 17 → w (na i) = none) ∧ (∀ i j, i < 17 → j < 17 → na i = na j → i = j) ∧ aP dA w' h (na 0) (na 1) (na 2) (na 3) (na 4) (fun k => na (5 + k)) (fun _ => 0) (fun _ => 0) (fun _ => 0) (fun _ _ => 0) (fun _ => 0) ∧ ∀ z, w z ≠ none → z ≠ h → w' z = w z)) 17 96 (AA s0) := by
  refine mt_ofW B0 (by decide) (Nat.le_of_ble_eq_true rfl) (fun p e s m args below meth c ls hargs X hin hl hP => ?_)
  have X9 := X
  obtain ⟨hx, hb, hr, hml, hown, hg, hK, hn, hE, hlocks, hA⟩ := X9
  have hS : va_S (AA s0) s.heap s.heap [] := va_S.rf
  have hl : lv_has ls 1 [(0, .ref h)] := hl
  refine lv_aload_n hx hb d_P_init_0 rfl (lv_at hl 0 rfl) ?_
  refine W.objInit hx hb hown (hg _ k_81) (hg _ k_74) (hg _ k_75) rfl (by rw [hml]; exact hl.1) rfl d_P_init_1 (Nat.le_of_ble_eq_true rfl) (Nat.le_of_ble_eq_true rfl) ?_
  refine W.eq (g2 := F0 m 4 ls []) rfl ?_
  refine lv_aload_n hx hb d_P_init_4 rfl (lv_at hl 0 rfl) ?_
  refine lv_bipush (v := (nI 12)) hx hb d_P_init_5 (by decide) ?_
  refine fw_newa (tys := tyl dA) (atype := .int) (N' := 12) (a0 := (12, .inl (fun _ => 0))) hx hb (hg _ k_106) rfl hK hP hS hA 0 rfl (fun _ => rfl) (by decide) (by decide) (by decide) (Nat.le_of_ble_eq_true rfl) (Nat.le_of_ble_eq_true rfl) d_P_init_7 (fun q1 w2 H hn4 ew3 hP hS => ?_)
  have ne6 : h ≠ q1 := fw_neN f0 hn4
  have f0 : w2 h = some (.inr (1, [.null, .null, .null, .null, .null])) := by rw [ew3, va_up_ne _ _ (fw_neN f0 hn4)]; exact f0
  have f5 : w2 q1 = some (.inl (dA 0, 12, .inl (fun _ => 0))) := by rw [ew3]; exact va_up_self _ _ _
  refine fw_putF (D := (dC, dI)) (ci := 1) (v := .ref q1) (ty := (.array .int)) (C := R_P) (T := F_P) (N := 5) hx hb hg in_P ft_P ft_P_ok n_P hown hK hP hS f0 rfl 0 (by decide) (hg _ k_84) (fun _ h9 => h9) rfl (hin rfl) rfl (by decide +kernel) rfl rfl (Nat.le_of_ble_eq_true rfl) d_P_init_9 (fun w7 H locs ew8 hP hS => ?_)
  have f5 : w7 q1 = some (.inl (dA 0, 12, .inl (fun _ => 0))) := by rw [ew8, va_up_ne _ _ (Ne.symm ne6)]; exact f5
  have f0 : w7 h = some (.inr (1, [.ref q1, .null, .null, .null, .null])) := by rw [ew8]; exact va_up_self _ _ _
  refine lv_aload_n hx hb d_P_init_12 rfl (lv_at hl 0 rfl) ?_
  refine lv_bipush (v := (nI 12)) hx hb d_P_init_13 (by decide) ?_
  refine fw_newa (tys := tyl dA) (atype := .long) (N' := 12) (a0 := (12, .inr (.inl (fun _ => 0)))) hx hb (hg _ k_107) rfl hK hP hS hA 1 rfl (fun _ => rfl) (by decide) (by decide) (by decide) (Nat.le_of_ble_eq_true rfl) (Nat.le_of_ble_eq_true rfl) d_P_init_15 (fun q9 w10 H hn12 ew11 hP hS => ?_)
  have ne14 : h ≠ q9 := fw_neN f0 hn12
  have ne15 : q1 ≠ q9 := fw_neN f5 hn12
  have f0 : w10 h = some (.inr (1, [.ref q1, .null, .null, .null, .null])) := by rw [ew11, va_up_ne _ _ (fw_neN f0 hn12)]; exact f0
  have f5 : w10 q1 = some (.inl (dA 0, 12, .inl (fun _ => 0))) := by rw [ew11, va_up_ne _ _ (fw_neN f5 hn12)]; exact f5
  have f13 : w10 q9 = some (.inl (dA 1, 12, .inr (.inl (fun _ => 0)))) := by rw [ew11]; exact va_up_self _ _ _
  refine fw_putF (D := (dC, dI)) (ci := 1) (v := .ref q9) (ty := (.array .long)) (C := R_P) (T := F_P) (N := 5) hx hb hg in_P ft_P ft_P_ok n_P hown hK hP hS f0 rfl 1 (by decide) (hg _ k_87) (fun _ h9 => h9) rfl (hin rfl) rfl (by decide +kernel) rfl rfl (Nat.le_of_ble_eq_true rfl) d_P_init_17 (fun w16 H locs ew17 hP hS => ?_)
  have f5 : w16 q1 = some (.inl (dA 0, 12, .inl (fun _ => 0))) := by rw [ew17, va_up_ne _ _ (Ne.symm ne6)]; exact f5
  have f13 : w16 q9 = some (.inl (dA 1, 12, .inr (.inl (fun _ => 0)))) := by rw [ew17, va_up_ne _ _ (Ne.symm ne14)]; exact f13
  have f0 : w16 h = some (.inr (1, [.ref q1, .ref q9, .null, .null, .null])) := by rw [ew17]; exact va_up_self _ _ _
  refine lv_aload_n hx hb d_P_init_20 rfl (lv_at hl 0 rfl) ?_
  refine lv_bipush (v := (nI 12)) hx hb d_P_init_21 (by decide) ?_
  refine fw_newa (tys := tyl dA) (atype := .int) (N' := 12) (a0 := (12, .inl (fun _ => 0))) hx hb (hg _ k_106) rfl hK hP hS hA 0 rfl (fun _ => rfl) (by decide) (by decide) (by decide) (Nat.le_of_ble_eq_true rfl) (Nat.le_of_ble_eq_true rfl) d_P_init_23 (fun q18 w19 H hn21 ew20 hP hS => ?_)
  have ne23 : h ≠ q18 := fw_neN f0 hn21
  have ne24 : q1 ≠ q18 := fw_neN f5 hn21
  have ne25 : q9 ≠ q18 := fw_neN f13 hn21
  have f0 : w19 h = some (.inr (1, [.ref q1, .ref q9, .null, .null, .null])) := by rw [ew20, va_up_ne _ _ (fw_neN f0 hn21)]; exact f0
  have f5 : w19 q1 = some (.inl (dA 0, 12, .inl (fun _ => 0))) := by rw [ew20, va_up_ne _ _ (fw_neN f5 hn21)]; exact f5
  have f13 : w19 q9 = some (.inl (dA 1, 12, .inr (.inl (fun _ => 0)))) := by rw [ew20, va_up_ne _ _ (fw_neN f13 hn21)]; exact f13
  have f22 : w19 q18 = some (.inl (dA 0, 12, .inl (fun _ => 0))) := by rw [ew20]; exact va_up_self _ _ _
  refine fw_putF (D := (dC, dI)) (ci := 1) (v := .ref q18) (ty := (.array .int)) (C := R_P) (T := F_P) (N := 5) hx hb hg in_P ft_P ft_P_ok n_P hown hK hP hS f0 rfl 2 (by decide) (hg _ k_89) (fun _ h9 => h9) rfl (hin rfl) rfl (by decide +kernel) rfl rfl (Nat.le_of_ble_eq_true rfl) d_P_init_25 (fun w26 H locs ew27 hP hS => ?_)
  have f5 : w26 q1 = some (.inl (dA 0, 12, .inl (fun _ => 0))) := by rw [ew27, va_up_ne _ _ (Ne.symm ne6)]; exact f5
  have f13 : w26 q9 = some (.inl (dA 1, 12, .inr (.inl (fun _ => 0)))) := by rw [ew27, va_up_ne _ _ (Ne.symm ne14)]; exact f13
  have f22 : w26 q18 = some (.inl (dA 0, 12, .inl (fun _ => 0))) := by rw [ew27, va_up_ne _ _ (Ne.symm ne23)]; exact f22
  have f0 : w26 h = some (.inr (1, [.ref q1, .ref q9, .ref q18, .null, .null])) := by rw [ew27]; exact va_up_self _ _ _
  refine lv_aload_n hx hb d_P_init_28 rfl (lv_at hl 0 rfl) ?_
  refine lv_bipush (v := (nI 12)) hx hb d_P_init_29 (by decide) ?_
  refine lv_iconst (v := (nI 3)) hx hb d_P_init_31 (by decide) ?_
  refine fw_mna (tys := tyl dA) (ty := .int) (cy := dA 0) (cB := dA 4) (N' := 12) (K' := 3) (z := (3, .inl (fun _ => 0))) hx hb hown (hg _ k_82) (hE.aoa B0) (hg _ k_106) (hcy_int hK) hK hP hS hA 4 rfl (by decide) (by decide) (by decide) (by decide) (by decide) (by decide) (by decide) (by decide) (by decide) (Nat.le_of_ble_eq_true rfl) (Nat.le_of_ble_eq_true rfl) (fun c9 => by rw [vp_cell_i, ← arrV_new]; rfl) d_P_init_32 (fun q28 ra29 w30 H hn31 hrn32 hri33 hrq34 f35 e36 e37 hP hS => ?_)
  have f35m := f35
  have e36m := e36
  have ne38 : h ≠ q28 := fw_neN f0 hn31
  have nq39 : ∀ i, i < 12 → ra29 i ≠ h := fun i hi => Ne.symm (fw_neN f0 (hrn32 i hi))
  have f0 : w30 h = some (.inr (1, [.ref q1, .ref q9, .ref q18, .null, .null])) := (e37 _ (fw_neN f0 hn31) (fun i hi => fw_neN f0 (hrn32 i hi))).trans f0
  have ne40 : q1 ≠ q28 := fw_neN f5 hn31
  have nq41 : ∀ i, i < 12 → ra29 i ≠ q1 := fun i hi => Ne.symm (fw_neN f5 (hrn32 i hi))
  have f5 : w30 q1 = some (.inl (dA 0, 12, .inl (fun _ => 0))) := (e37 _ (fw_neN f5 hn31) (fun i hi => fw_neN f5 (hrn32 i hi))).trans f5
  have ne42 : q9 ≠ q28 := fw_neN f13 hn31
  have nq43 : ∀ i, i < 12 → ra29 i ≠ q9 := fun i hi => Ne.symm (fw_neN f13 (hrn32 i hi))
  have f13 : w30 q9 = some (.inl (dA 1, 12, .inr (.inl (fun _ => 0)))) := (e37 _ (fw_neN f13 hn31) (fun i hi => fw_neN f13 (hrn32 i hi))).trans f13
  have ne44 : q18 ≠ q28 := fw_neN f22 hn31
  have nq45 : ∀ i, i < 12 → ra29 i ≠ q18 := fun i hi => Ne.symm (fw_neN f22 (hrn32 i hi))
  have f22 : w30 q18 = some (.inl (dA 0, 12, .inl (fun _ => 0))) := (e37 _ (fw_neN f22 hn31) (fun i hi => fw_neN f22 (hrn32 i hi))).trans f22
  refine fw_putF (D := (dC, dI)) (ci := 1) (v := .ref q28) (ty := (.array (.array .int))) (C := R_P) (T := F_P) (N := 5) hx hb hg in_P ft_P ft_P_ok n_P hown hK hP hS f0 rfl 3 (by decide) (hg _ k_91) (fun _ h9 => h9) rfl (hin rfl) rfl (by decide +kernel) rfl rfl (Nat.le_of_ble_eq_true rfl) d_P_init_36 (fun w46 H locs ew47 hP hS => ?_)
  have e36 : ∀ i, i < 12 → w46 (ra29 i) = some (.inl (dA 0, 3, .inl (fun _ => 0))) := fun i hi => by rw [ew47, va_up_ne _ _ (fw_ne (e36 i hi) f0 (by simp))]; exact e36 i hi
  have f5 : w46 q1 = some (.inl (dA 0, 12, .inl (fun _ => 0))) := by rw [ew47, va_up_ne _ _ (Ne.symm ne6)]; exact f5
  have f13 : w46 q9 = some (.inl (dA 1, 12, .inr (.inl (fun _ => 0)))) := by rw [ew47, va_up_ne _ _ (Ne.symm ne14)]; exact f13
  have f22 : w46 q18 = some (.inl (dA 0, 12, .inl (fun _ => 0))) := by rw [ew47, va_up_ne _ _ (Ne.symm ne23)]; exact f22
  have f35 : w46 q28 = some (.inl (dA 4, 12, .inr (.inr (.inr (.inr (fun i => if i < 12 then some (ra29 i) else none)))))) := by rw [ew47, va_up_ne _ _ (Ne.symm ne38)]; exact f35
  have f0 : w46 h = some (.inr (1, [.ref q1, .ref q9, .ref q18, .ref q28, .null])) := by rw [ew47]; exact va_up_self _ _ _
  refine lv_aload_n hx hb d_P_init_39 rfl (lv_at hl 0 rfl) ?_
  refine lv_bipush (v := (nI 12)) hx hb d_P_init_40 (by decide) ?_
  refine fw_newa (tys := tyl dA) (atype := .int) (N' := 12) (a0 := (12, .inl (fun _ => 0))) hx hb (hg _ k_106) rfl hK hP hS hA 0 rfl (fun _ => rfl) (by decide) (by decide) (by decide) (Nat.le_of_ble_eq_true rfl) (Nat.le_of_ble_eq_true rfl) d_P_init_42 (fun q48 w49 H hn51 ew50 hP hS => ?_)
  have ne53 : h ≠ q48 := fw_neN f0 hn51
  have ne54 : q1 ≠ q48 := fw_neN f5 hn51
  have ne55 : q9 ≠ q48 := fw_neN f13 hn51
  have ne56 : q18 ≠ q48 := fw_neN f22 hn51
  have ne57 : q28 ≠ q48 := fw_neN f35 hn51
  have nq58 : ∀ i, i < 12 → (ra29 i) ≠ q48 := fun i hi => fw_neN (e36 i hi) hn51
  have e36 : ∀ i, i < 12 → w49 (ra29 i) = some (.inl (dA 0, 3, .inl (fun _ => 0))) := fun i hi => by rw [ew50, va_up_ne _ _ (fw_neN (e36 i hi) hn51)]; exact e36 i hi
  have f0 : w49 h = some (.inr (1, [.ref q1, .ref q9, .ref q18, .ref q28, .null])) := by rw [ew50, va_up_ne _ _ (fw_neN f0 hn51)]; exact f0
  have f5 : w49 q1 = some (.inl (dA 0, 12, .inl (fun _ => 0))) := by rw [ew50, va_up_ne _ _ (fw_neN f5 hn51)]; exact f5
  have f13 : w49 q9 = some (.inl (dA 1, 12, .inr (.inl (fun _ => 0)))) := by rw [ew50, va_up_ne _ _ (fw_neN f13 hn51)]; exact f13
  have f22 : w49 q18 = some (.inl (dA 0, 12, .inl (fun _ => 0))) := by rw [ew50, va_up_ne _ _ (fw_neN f22 hn51)]; exact f22
  have f35 : w49 q28 = some (.inl (dA 4, 12, .inr (.inr (.inr (.inr (fun i => if i < 12 then some (ra29 i) else none)))))) := by rw [ew50, va_up_ne _ _ (fw_neN f35 hn51)]; exact f35
  have f52 : w49 q48 = some (.inl (dA 0, 12, .inl (fun _ => 0))) := by rw [ew50]; exact va_up_self _ _ _
  refine fw_putF (D := (dC, dI)) (ci := 1) (v := .ref q48) (ty := (.array .int)) (C := R_P) (T := F_P) (N := 5) hx hb hg in_P ft_P ft_P_ok n_P hown hK hP hS f0 rfl 4 (by decide) (hg _ k_93) (fun _ h9 => h9) rfl (hin rfl) rfl (by decide +kernel) rfl rfl (Nat.le_of_ble_eq_true rfl) d_P_init_44 (fun w59 H locs ew60 hP hS => ?_)
  have e36 : ∀ i, i < 12 → w59 (ra29 i) = some (.inl (dA 0, 3, .inl (fun _ => 0))) := fun i hi => by rw [ew60, va_up_ne _ _ (fw_ne (e36 i hi) f0 (by simp))]; exact e36 i hi
  have f5 : w59 q1 = some (.inl (dA 0, 12, .inl (fun _ => 0))) := by rw [ew60, va_up_ne _ _ (Ne.symm ne6)]; exact f5
  have f13 : w59 q9 = some (.inl (dA 1, 12, .inr (.inl (fun _ => 0)))) := by rw [ew60, va_up_ne _ _ (Ne.symm ne14)]; exact f13
  have f22 : w59 q18 = some (.inl (dA 0, 12, .inl (fun _ => 0))) := by rw [ew60, va_up_ne _ _ (Ne.symm ne23)]; exact f22
  have f35 : w59 q28 = some (.inl (dA 4, 12, .inr (.inr (.inr (.inr (fun i => if i < 12 then some (ra29 i) else none)))))) := by rw [ew60, va_up_ne _ _ (Ne.symm ne38)]; exact f35
  have f52 : w59 q48 = some (.inl (dA 0, 12, .inl (fun _ => 0))) := by rw [ew60, va_up_ne _ _ (Ne.symm ne53)]; exact f52
  have f0 : w59 h = some (.inr (1, [.ref q1, .ref q9, .ref q18, .ref q28, .ref q48])) := by rw [ew60]; exact va_up_self _ _ _
  have zn0 : w q1 = none := by
    have a9 := hn4
    exact a9
  have zn1 : w q9 = none := by
    have a9 := hn12
    rw [ew8] at a9
    have b9 : q9 ≠ h := fun e9 => by rw [e9, va_up_self] at a9; cases a9
    rw [va_up_ne _ _ b9] at a9
    rw [ew3] at a9
    have b9 : q9 ≠ q1 := fun e9 => by rw [e9, va_up_self] at a9; cases a9
    rw [va_up_ne _ _ b9] at a9
    exact a9
  have zn2 : w q18 = none := by
    have a9 := hn21
    rw [ew17] at a9
    have b9 : q18 ≠ h := fun e9 => by rw [e9, va_up_self] at a9; cases a9
    rw [va_up_ne _ _ b9] at a9
    rw [ew11] at a9
    have b9 : q18 ≠ q9 := fun e9 => by rw [e9, va_up_self] at a9; cases a9
    rw [va_up_ne _ _ b9] at a9
    rw [ew8] at a9
    have b9 : q18 ≠ h := fun e9 => by rw [e9, va_up_self] at a9; cases a9
    rw [va_up_ne _ _ b9] at a9
    rw [ew3] at a9
    have b9 : q18 ≠ q1 := fun e9 => by rw [e9, va_up_self] at a9; cases a9
    rw [va_up_ne _ _ b9] at a9
    exact a9
  have zn3 : w q28 = none := by
    have a9 := hn31
    rw [ew27] at a9
    have b9 : q28 ≠ h := fun e9 => by rw [e9, va_up_self] at a9; cases a9
    rw [va_up_ne _ _ b9] at a9
    rw [ew20] at a9
    have b9 : q28 ≠ q18 := fun e9 => by rw [e9, va_up_self] at a9; cases a9
    rw [va_up_ne _ _ b9] at a9
    rw [ew17] at a9
    have b9 : q28 ≠ h := fun e9 => by rw [e9, va_up_self] at a9; cases a9
    rw [va_up_ne _ _ b9] at a9
    rw [ew11] at a9
    have b9 : q28 ≠ q9 := fun e9 => by rw [e9, va_up_self] at a9; cases a9
    rw [va_up_ne _ _ b9] at a9
    rw [ew8] at a9
    have b9 : q28 ≠ h := fun e9 => by rw [e9, va_up_self] at a9; cases a9
    rw [va_up_ne _ _ b9] at a9
    rw [ew3] at a9
    have b9 : q28 ≠ q1 := fun e9 => by rw [e9, va_up_self] at a9; cases a9
    rw [va_up_ne _ _ b9] at a9
    exact a9
  have zn4 : w q48 = none := by
    have a9 := hn51
    rw [ew47] at a9
    have b9 : q48 ≠ h := fun e9 => by rw [e9, va_up_self] at a9; cases a9
    rw [va_up_ne _ _ b9] at a9
    have b9 : q48 ≠ q28 := fun e9 => by rw [e9, f35m] at a9; cases a9
    have b8 : ∀ i, i < 12 → q48 ≠ ra29 i := fun i hi e9 => by rw [e9, e36m i hi] at a9; cases a9
    rw [e37 _ b9 b8] at a9
    rw [ew27] at a9
    have b9 : q48 ≠ h := fun e9 => by rw [e9, va_up_self] at a9; cases a9
    rw [va_up_ne _ _ b9] at a9
    rw [ew20] at a9
    have b9 : q48 ≠ q18 := fun e9 => by rw [e9, va_up_self] at a9; cases a9
    rw [va_up_ne _ _ b9] at a9
    rw [ew17] at a9
    have b9 : q48 ≠ h := fun e9 => by rw [e9, va_up_self] at a9; cases a9
    rw [va_up_ne _ _ b9] at a9
    rw [ew11] at a9
    have b9 : q48 ≠ q9 := fun e9 => by rw [e9, va_up_self] at a9; cases a9
    rw [va_up_ne _ _ b9] at a9
    rw [ew8] at a9
    have b9 : q48 ≠ h := fun e9 => by rw [e9, va_up_self] at a9; cases a9
    rw [va_up_ne _ _ b9] at a9
    rw [ew3] at a9
    have b9 : q48 ≠ q1 := fun e9 => by rw [e9, va_up_self] at a9; cases a9
    rw [va_up_ne _ _ b9] at a9
    exact a9
  have zr : ∀ i, i < 12 → w (ra29 i) = none := fun i hi => by
    have a9 := hrn32 i hi
    rw [ew27] at a9
    have b9 : ra29 i ≠ h := fun e9 => by rw [e9, va_up_self] at a9; cases a9
    rw [va_up_ne _ _ b9] at a9
    rw [ew20] at a9
    have b9 : ra29 i ≠ q18 := fun e9 => by rw [e9, va_up_self] at a9; cases a9
    rw [va_up_ne _ _ b9] at a9
    rw [ew17] at a9
    have b9 : ra29 i ≠ h := fun e9 => by rw [e9, va_up_self] at a9; cases a9
    rw [va_up_ne _ _ b9] at a9
    rw [ew11] at a9
    have b9 : ra29 i ≠ q9 := fun e9 => by rw [e9, va_up_self] at a9; cases a9
    rw [va_up_ne _ _ b9] at a9
    rw [ew8] at a9
    have b9 : ra29 i ≠ h := fun e9 => by rw [e9, va_up_self] at a9; cases a9
    rw [va_up_ne _ _ b9] at a9
    rw [ew3] at a9
    have b9 : ra29 i ≠ q1 := fun e9 => by rw [e9, va_up_self] at a9; cases a9
    rw [va_up_ne _ _ b9] at a9
    exact a9
  have zz : ∀ i, i < 17 → w (naP q1 q9 q18 q28 q48 ra29 i) = none := fun i hi => by
    match i, hi with
    | 0, _ => exact zn0
    | 1, _ => exact zn1
    | 2, _ => exact zn2
    | 3, _ => exact zn3
    | 4, _ => exact zn4
    | i + 5, hi => exact zr i (by omega)
  have hfr : ∀ z, w z ≠ none → z ≠ h → w59 z = w z := fun z hz z1 => by
    have n0 : z ≠ q1 := fun e9 => hz (e9 ▸ zn0)
    have n1 : z ≠ q9 := fun e9 => hz (e9 ▸ zn1)
    have n2 : z ≠ q18 := fun e9 => hz (e9 ▸ zn2)
    have n3 : z ≠ q28 := fun e9 => hz (e9 ▸ zn3)
    have n4 : z ≠ q48 := fun e9 => hz (e9 ▸ zn4)
    have nr : ∀ i, i < 12 → z ≠ ra29 i := fun i hi e9 => hz (e9 ▸ zr i hi)
    rw [ew60, va_up_ne _ _ z1]
    rw [ew50, va_up_ne _ _ n4]
    rw [ew47, va_up_ne _ _ z1]
    rw [e37 z n3 nr]
    rw [ew27, va_up_ne _ _ z1]
    rw [ew20, va_up_ne _ _ n2]
    rw [ew17, va_up_ne _ _ z1]
    rw [ew11, va_up_ne _ _ n1]
    rw [ew8, va_up_ne _ _ z1]
    rw [ew3, va_up_ne _ _ n0]
  exact W.vret hx hb hr (fun tS ht hW => ⟨⟨w59, rfl, ⟨naP q1 q9 q18 q28 q48 ra29, zz, naP_inj ne15 ne24 ne40 ne54 ne25 ne42 ne55 ne44 ne56 ne57 nq41 nq43 nq45 hrq34 nq58 hri33, ⟨f0, f5, f13, f22, ⟨_, f35, fun k9 hk9 => by show (if k9 < 12 then some (ra29 k9) else none) = some (naP q1 q9 q18 q28 q48 ra29 (5 + k9)); rw [if_pos hk9, Nat.add_comm 5 k9]; rfl⟩, fun k9 hk9 => by show w59 (naP q1 q9 q18 q28 q48 ra29 (5 + k9)) = _; rw [Nat.add_comm 5 k9]; exact e36 k9 hk9, f52, ne24, ne54, ne56, fun i9 j9 hi9 hj9 e9 => hri33 i9 j9 hi9 hj9 (by have e8 : naP q1 q9 q18 q28 q48 ra29 (5 + i9) = naP q1 q9 q18 q28 q48 ra29 (5 + j9) := e9; rw [Nat.add_comm 5 i9, Nat.add_comm 5 j9] at e8; exact e8)⟩, hfr⟩, mB_of ht hP⟩, hS.F ht⟩) hS.2.2 d_P_init_47
set_option maxHeartbeats 4000000 in
set_option maxRecDepth 100000 in
theorem c_S_init {l : Launch} {s0 : State} {dC : Nat → ClassId} {dI : Nat → Nat → Nat} {dA : Nat → ClassId} (B0 : BB s0 dC dI dA) (w : fw_W) (h pp mm : Nat) (f0 : w h = some (.inr (2, [.null, .null, .int 0, .null, .null, .null, .null, .int 0, .int 0]))) : Met l y_S_init [.code y_S_init b_S_init 3 none] ({ frames := 1, cells := 4, slots := 228, locals := 12 }) (mP s0 dC dI w [.ref h, .ref pp, .ref mm]) (mQv s0 dC dI (fun w' => ∃ a1 a2 a3 a4 : Nat, (w a1 = none ∧ w a2 = none ∧ w a3 = none ∧ w a4 = none) ∧ (a1 ≠ a2 ∧ a1 ≠ a3 ∧ a1 ≠ a4 ∧ a2 ≠ a3 ∧ a2 ≠ a4 ∧ a3 ≠ a4) ∧ w' h = some (.inr (2, [.ref pp, .ref mm, .int 0, .ref a1, .ref a2, .ref a3, .ref a4, .int 0, .int 0])) ∧ w' a1 = some (.inl (dA 2, 12, .inl (zf (fun _ => false)))) ∧ w' a2 = some (.inl (dA 2, 12, .inl (zf (fun _ => false)))) ∧ w' a3 = some (.inl (dA 1, 12, .inr (.inl (fun _ => 0)))) ∧ w' a4 = some (.inl (dA 3, 192, .inr (.inr (.inr (.inr (fun _ => none)))))) ∧ ∀ z, w z ≠ none → z ≠ h → w' z = w z)) 4 228 (AA s0) := by
  refine mt_ofW B0 (by decide) (Nat.le_of_ble_eq_true rfl) (fun p e s m args below meth c ls hargs X hin hl hP => ?_)
  have X9 := X
  obtain ⟨hx, hb, hr, hml, hown, hg, hK, hn, hE, hlocks, hA⟩ := X9
  have hS : va_S (AA s0) s.heap s.heap [] := va_S.rf
  have hl : lv_has ls 3 [(0, .ref h), (1, .ref pp), (2, .ref mm)] := hl
  refine lv_aload_n hx hb d_S_init_0 rfl (lv_at hl 0 rfl) ?_
  refine W.objInit hx hb hown (hg _ k_137) (hg _ k_74) (hg _ k_75) rfl (by rw [hml]; exact hl.1) rfl d_S_init_1 (Nat.le_of_ble_eq_true rfl) (Nat.le_of_ble_eq_true rfl) ?_
  refine W.eq (g2 := F0 m 4 ls []) rfl ?_
  refine lv_aload_n hx hb d_S_init_4 rfl (lv_at hl 0 rfl) ?_
  refine lv_bipush (v := (nI 12)) hx hb d_S_init_5 (by decide) ?_
  refine fw_newa (tys := tyl dA) (atype := .boolean) (N' := 12) (a0 := (12, .inl (zf (fun _ => false)))) hx hb (hg _ k_169) rfl hK hP hS hA 2 rfl (fun _ => rfl) (by decide) (by decide) (by decide) (Nat.le_of_ble_eq_true rfl) (Nat.le_of_ble_eq_true rfl) d_S_init_7 (fun q61 w62 H hn64 ew63 hP hS => ?_)
  have ne66 : h ≠ q61 := fw_neN f0 hn64
  have f0 : w62 h = some (.inr (2, [.null, .null, .int 0, .null, .null, .null, .null, .int 0, .int 0])) := by rw [ew63, va_up_ne _ _ (fw_neN f0 hn64)]; exact f0
  have f65 : w62 q61 = some (.inl (dA 2, 12, .inl (zf (fun _ => false)))) := by rw [ew63]; exact va_up_self _ _ _
  refine fw_putF (D := (dC, dI)) (ci := 2) (v := .ref q61) (ty := (.array .boolean)) (C := R_S) (T := F_S) (N := 9) hx hb hg in_S ft_S ft_S_ok n_S hown hK hP hS f0 rfl 3 (by decide) (hg _ k_142) (fun _ h9 => h9) rfl (hin rfl) rfl (by decide +kernel) rfl rfl (Nat.le_of_ble_eq_true rfl) d_S_init_9 (fun w67 H locs ew68 hP hS => ?_)
  have f65 : w67 q61 = some (.inl (dA 2, 12, .inl (zf (fun _ => false)))) := by rw [ew68, va_up_ne _ _ (Ne.symm ne66)]; exact f65
  have f0 : w67 h = some (.inr (2, [.null, .null, .int 0, .ref q61, .null, .null, .null, .int 0, .int 0])) := by rw [ew68]; exact va_up_self _ _ _
  refine lv_aload_n hx hb d_S_init_12 rfl (lv_at hl 0 rfl) ?_
  refine lv_bipush (v := (nI 12)) hx hb d_S_init_13 (by decide) ?_
  refine fw_newa (tys := tyl dA) (atype := .boolean) (N' := 12) (a0 := (12, .inl (zf (fun _ => false)))) hx hb (hg _ k_169) rfl hK hP hS hA 2 rfl (fun _ => rfl) (by decide) (by decide) (by decide) (Nat.le_of_ble_eq_true rfl) (Nat.le_of_ble_eq_true rfl) d_S_init_15 (fun q69 w70 H hn72 ew71 hP hS => ?_)
  have ne74 : h ≠ q69 := fw_neN f0 hn72
  have ne75 : q61 ≠ q69 := fw_neN f65 hn72
  have f0 : w70 h = some (.inr (2, [.null, .null, .int 0, .ref q61, .null, .null, .null, .int 0, .int 0])) := by rw [ew71, va_up_ne _ _ (fw_neN f0 hn72)]; exact f0
  have f65 : w70 q61 = some (.inl (dA 2, 12, .inl (zf (fun _ => false)))) := by rw [ew71, va_up_ne _ _ (fw_neN f65 hn72)]; exact f65
  have f73 : w70 q69 = some (.inl (dA 2, 12, .inl (zf (fun _ => false)))) := by rw [ew71]; exact va_up_self _ _ _
  refine fw_putF (D := (dC, dI)) (ci := 2) (v := .ref q69) (ty := (.array .boolean)) (C := R_S) (T := F_S) (N := 9) hx hb hg in_S ft_S ft_S_ok n_S hown hK hP hS f0 rfl 4 (by decide) (hg _ k_143) (fun _ h9 => h9) rfl (hin rfl) rfl (by decide +kernel) rfl rfl (Nat.le_of_ble_eq_true rfl) d_S_init_17 (fun w76 H locs ew77 hP hS => ?_)
  have f65 : w76 q61 = some (.inl (dA 2, 12, .inl (zf (fun _ => false)))) := by rw [ew77, va_up_ne _ _ (Ne.symm ne66)]; exact f65
  have f73 : w76 q69 = some (.inl (dA 2, 12, .inl (zf (fun _ => false)))) := by rw [ew77, va_up_ne _ _ (Ne.symm ne74)]; exact f73
  have f0 : w76 h = some (.inr (2, [.null, .null, .int 0, .ref q61, .ref q69, .null, .null, .int 0, .int 0])) := by rw [ew77]; exact va_up_self _ _ _
  refine lv_aload_n hx hb d_S_init_20 rfl (lv_at hl 0 rfl) ?_
  refine lv_bipush (v := (nI 12)) hx hb d_S_init_21 (by decide) ?_
  refine fw_newa (tys := tyl dA) (atype := .long) (N' := 12) (a0 := (12, .inr (.inl (fun _ => 0)))) hx hb (hg _ k_107) rfl hK hP hS hA 1 rfl (fun _ => rfl) (by decide) (by decide) (by decide) (Nat.le_of_ble_eq_true rfl) (Nat.le_of_ble_eq_true rfl) d_S_init_23 (fun q78 w79 H hn81 ew80 hP hS => ?_)
  have ne83 : h ≠ q78 := fw_neN f0 hn81
  have ne84 : q61 ≠ q78 := fw_neN f65 hn81
  have ne85 : q69 ≠ q78 := fw_neN f73 hn81
  have f0 : w79 h = some (.inr (2, [.null, .null, .int 0, .ref q61, .ref q69, .null, .null, .int 0, .int 0])) := by rw [ew80, va_up_ne _ _ (fw_neN f0 hn81)]; exact f0
  have f65 : w79 q61 = some (.inl (dA 2, 12, .inl (zf (fun _ => false)))) := by rw [ew80, va_up_ne _ _ (fw_neN f65 hn81)]; exact f65
  have f73 : w79 q69 = some (.inl (dA 2, 12, .inl (zf (fun _ => false)))) := by rw [ew80, va_up_ne _ _ (fw_neN f73 hn81)]; exact f73
  have f82 : w79 q78 = some (.inl (dA 1, 12, .inr (.inl (fun _ => 0)))) := by rw [ew80]; exact va_up_self _ _ _
  refine fw_putF (D := (dC, dI)) (ci := 2) (v := .ref q78) (ty := (.array .long)) (C := R_S) (T := F_S) (N := 9) hx hb hg in_S ft_S ft_S_ok n_S hown hK hP hS f0 rfl 5 (by decide) (hg _ k_144) (fun _ h9 => h9) rfl (hin rfl) rfl (by decide +kernel) rfl rfl (Nat.le_of_ble_eq_true rfl) d_S_init_25 (fun w86 H locs ew87 hP hS => ?_)
  have f65 : w86 q61 = some (.inl (dA 2, 12, .inl (zf (fun _ => false)))) := by rw [ew87, va_up_ne _ _ (Ne.symm ne66)]; exact f65
  have f73 : w86 q69 = some (.inl (dA 2, 12, .inl (zf (fun _ => false)))) := by rw [ew87, va_up_ne _ _ (Ne.symm ne74)]; exact f73
  have f82 : w86 q78 = some (.inl (dA 1, 12, .inr (.inl (fun _ => 0)))) := by rw [ew87, va_up_ne _ _ (Ne.symm ne83)]; exact f82
  have f0 : w86 h = some (.inr (2, [.null, .null, .int 0, .ref q61, .ref q69, .ref q78, .null, .int 0, .int 0])) := by rw [ew87]; exact va_up_self _ _ _
  refine lv_aload_n hx hb d_S_init_28 rfl (lv_at hl 0 rfl) ?_
  refine lv_sipush (v := (nI 192)) hx hb d_S_init_29 (by decide) ?_
  refine fw_newq (tys := tyl dA) (C := R_T) (N' := 192) hx hb hown (hg _ k_138) (hE.ao B0) hK hP hS hA 3 rfl (by decide) (by decide) (by decide) (Nat.le_of_ble_eq_true rfl) (Nat.le_of_ble_eq_true rfl) d_S_init_32 (fun q88 w89 H hn91 ew90 hP hS => ?_)
  have ne93 : h ≠ q88 := fw_neN f0 hn91
  have ne94 : q61 ≠ q88 := fw_neN f65 hn91
  have ne95 : q69 ≠ q88 := fw_neN f73 hn91
  have ne96 : q78 ≠ q88 := fw_neN f82 hn91
  have f0 : w89 h = some (.inr (2, [.null, .null, .int 0, .ref q61, .ref q69, .ref q78, .null, .int 0, .int 0])) := by rw [ew90, va_up_ne _ _ (fw_neN f0 hn91)]; exact f0
  have f65 : w89 q61 = some (.inl (dA 2, 12, .inl (zf (fun _ => false)))) := by rw [ew90, va_up_ne _ _ (fw_neN f65 hn91)]; exact f65
  have f73 : w89 q69 = some (.inl (dA 2, 12, .inl (zf (fun _ => false)))) := by rw [ew90, va_up_ne _ _ (fw_neN f73 hn91)]; exact f73
  have f82 : w89 q78 = some (.inl (dA 1, 12, .inr (.inl (fun _ => 0)))) := by rw [ew90, va_up_ne _ _ (fw_neN f82 hn91)]; exact f82
  have f92 : w89 q88 = some (.inl (dA 3, 192, .inr (.inr (.inr (.inr (fun _ => none)))))) := by rw [ew90]; exact va_up_self _ _ _
  refine fw_putF (D := (dC, dI)) (ci := 2) (v := .ref q88) (ty := (.array (.object "TraceBuilder$Trace"))) (C := R_S) (T := F_S) (N := 9) hx hb hg in_S ft_S ft_S_ok n_S hown hK hP hS f0 rfl 6 (by decide) (hg _ k_145) (fun _ h9 => h9) rfl (hin rfl) rfl (by decide +kernel) rfl rfl (Nat.le_of_ble_eq_true rfl) d_S_init_35 (fun w97 H locs ew98 hP hS => ?_)
  have f65 : w97 q61 = some (.inl (dA 2, 12, .inl (zf (fun _ => false)))) := by rw [ew98, va_up_ne _ _ (Ne.symm ne66)]; exact f65
  have f73 : w97 q69 = some (.inl (dA 2, 12, .inl (zf (fun _ => false)))) := by rw [ew98, va_up_ne _ _ (Ne.symm ne74)]; exact f73
  have f82 : w97 q78 = some (.inl (dA 1, 12, .inr (.inl (fun _ => 0)))) := by rw [ew98, va_up_ne _ _ (Ne.symm ne83)]; exact f82
  have f92 : w97 q88 = some (.inl (dA 3, 192, .inr (.inr (.inr (.inr (fun _ => none)))))) := by rw [ew98, va_up_ne _ _ (Ne.symm ne93)]; exact f92
  have f0 : w97 h = some (.inr (2, [.null, .null, .int 0, .ref q61, .ref q69, .ref q78, .ref q88, .int 0, .int 0])) := by rw [ew98]; exact va_up_self _ _ _
  refine lv_aload_n hx hb d_S_init_38 rfl (lv_at hl 0 rfl) ?_
  refine lv_aload_n hx hb d_S_init_39 rfl (lv_at hl 1 rfl) ?_
  refine fw_putF (D := (dC, dI)) (ci := 2) (v := .ref pp) (ty := (.object "TraceBuilder$Plan")) (C := R_S) (T := F_S) (N := 9) hx hb hg in_S ft_S ft_S_ok n_S hown hK hP hS f0 rfl 0 (by decide) (hg _ k_139) (fun _ h9 => h9) rfl (hin rfl) rfl (by decide +kernel) rfl rfl (Nat.le_of_ble_eq_true rfl) d_S_init_40 (fun w99 H locs ew100 hP hS => ?_)
  have f65 : w99 q61 = some (.inl (dA 2, 12, .inl (zf (fun _ => false)))) := by rw [ew100, va_up_ne _ _ (Ne.symm ne66)]; exact f65
  have f73 : w99 q69 = some (.inl (dA 2, 12, .inl (zf (fun _ => false)))) := by rw [ew100, va_up_ne _ _ (Ne.symm ne74)]; exact f73
  have f82 : w99 q78 = some (.inl (dA 1, 12, .inr (.inl (fun _ => 0)))) := by rw [ew100, va_up_ne _ _ (Ne.symm ne83)]; exact f82
  have f92 : w99 q88 = some (.inl (dA 3, 192, .inr (.inr (.inr (.inr (fun _ => none)))))) := by rw [ew100, va_up_ne _ _ (Ne.symm ne93)]; exact f92
  have f0 : w99 h = some (.inr (2, [.ref pp, .null, .int 0, .ref q61, .ref q69, .ref q78, .ref q88, .int 0, .int 0])) := by rw [ew100]; exact va_up_self _ _ _
  refine lv_aload_n hx hb d_S_init_43 rfl (lv_at hl 0 rfl) ?_
  refine lv_aload_n hx hb d_S_init_44 rfl (lv_at hl 2 rfl) ?_
  refine fw_put (D := (dC, dI)) (ci := 2) (v := .ref mm) (ty := (.object "TraceBuilder$Memory")) (C := R_S) (T := F_S) (N := 9) hx hb hg in_S ft_S ft_S_ok n_S hown hK hP hS f0 rfl 1 (by decide) (hg _ k_140) (fun _ h9 => h9) rfl (by decide +kernel) rfl rfl (Nat.le_of_ble_eq_true rfl) d_S_init_45 (fun w101 H locs ew102 hP hS => ?_)
  have f65 : w101 q61 = some (.inl (dA 2, 12, .inl (zf (fun _ => false)))) := by rw [ew102, va_up_ne _ _ (Ne.symm ne66)]; exact f65
  have f73 : w101 q69 = some (.inl (dA 2, 12, .inl (zf (fun _ => false)))) := by rw [ew102, va_up_ne _ _ (Ne.symm ne74)]; exact f73
  have f82 : w101 q78 = some (.inl (dA 1, 12, .inr (.inl (fun _ => 0)))) := by rw [ew102, va_up_ne _ _ (Ne.symm ne83)]; exact f82
  have f92 : w101 q88 = some (.inl (dA 3, 192, .inr (.inr (.inr (.inr (fun _ => none)))))) := by rw [ew102, va_up_ne _ _ (Ne.symm ne93)]; exact f92
  have f0 : w101 h = some (.inr (2, [.ref pp, .ref mm, .int 0, .ref q61, .ref q69, .ref q78, .ref q88, .int 0, .int 0])) := by rw [ew102]; exact va_up_self _ _ _
  have zn0 : w q61 = none := by
    have a9 := hn64
    exact a9
  have zn1 : w q69 = none := by
    have a9 := hn72
    rw [ew68] at a9
    have b9 : q69 ≠ h := fun e9 => by rw [e9, va_up_self] at a9; cases a9
    rw [va_up_ne _ _ b9] at a9
    rw [ew63] at a9
    have b9 : q69 ≠ q61 := fun e9 => by rw [e9, va_up_self] at a9; cases a9
    rw [va_up_ne _ _ b9] at a9
    exact a9
  have zn2 : w q78 = none := by
    have a9 := hn81
    rw [ew77] at a9
    have b9 : q78 ≠ h := fun e9 => by rw [e9, va_up_self] at a9; cases a9
    rw [va_up_ne _ _ b9] at a9
    rw [ew71] at a9
    have b9 : q78 ≠ q69 := fun e9 => by rw [e9, va_up_self] at a9; cases a9
    rw [va_up_ne _ _ b9] at a9
    rw [ew68] at a9
    have b9 : q78 ≠ h := fun e9 => by rw [e9, va_up_self] at a9; cases a9
    rw [va_up_ne _ _ b9] at a9
    rw [ew63] at a9
    have b9 : q78 ≠ q61 := fun e9 => by rw [e9, va_up_self] at a9; cases a9
    rw [va_up_ne _ _ b9] at a9
    exact a9
  have zn3 : w q88 = none := by
    have a9 := hn91
    rw [ew87] at a9
    have b9 : q88 ≠ h := fun e9 => by rw [e9, va_up_self] at a9; cases a9
    rw [va_up_ne _ _ b9] at a9
    rw [ew80] at a9
    have b9 : q88 ≠ q78 := fun e9 => by rw [e9, va_up_self] at a9; cases a9
    rw [va_up_ne _ _ b9] at a9
    rw [ew77] at a9
    have b9 : q88 ≠ h := fun e9 => by rw [e9, va_up_self] at a9; cases a9
    rw [va_up_ne _ _ b9] at a9
    rw [ew71] at a9
    have b9 : q88 ≠ q69 := fun e9 => by rw [e9, va_up_self] at a9; cases a9
    rw [va_up_ne _ _ b9] at a9
    rw [ew68] at a9
    have b9 : q88 ≠ h := fun e9 => by rw [e9, va_up_self] at a9; cases a9
    rw [va_up_ne _ _ b9] at a9
    rw [ew63] at a9
    have b9 : q88 ≠ q61 := fun e9 => by rw [e9, va_up_self] at a9; cases a9
    rw [va_up_ne _ _ b9] at a9
    exact a9
  have hfr : ∀ z, w z ≠ none → z ≠ h → w101 z = w z := fun z hz z1 => by
    have n0 : z ≠ q61 := fun e9 => hz (e9 ▸ zn0)
    have n1 : z ≠ q69 := fun e9 => hz (e9 ▸ zn1)
    have n2 : z ≠ q78 := fun e9 => hz (e9 ▸ zn2)
    have n3 : z ≠ q88 := fun e9 => hz (e9 ▸ zn3)
    rw [ew102, va_up_ne _ _ z1]
    rw [ew100, va_up_ne _ _ z1]
    rw [ew98, va_up_ne _ _ z1]
    rw [ew90, va_up_ne _ _ n3]
    rw [ew87, va_up_ne _ _ z1]
    rw [ew80, va_up_ne _ _ n2]
    rw [ew77, va_up_ne _ _ z1]
    rw [ew71, va_up_ne _ _ n1]
    rw [ew68, va_up_ne _ _ z1]
    rw [ew63, va_up_ne _ _ n0]
  exact W.vret hx hb hr (fun tS ht hW => ⟨⟨w101, rfl, ⟨q61, q69, q78, q88, ⟨zn0, zn1, zn2, zn3⟩, ⟨ne75, ne84, ne94, ne85, ne95, ne96⟩, f0, f65, f73, f82, f92, hfr⟩, mB_of ht hP⟩, hS.F ht⟩) hS.2.2 d_S_init_48
