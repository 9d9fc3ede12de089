set_option maxHeartbeats 4000000 in
set_option maxRecDepth 100000 in
theorem c_B_init {l : Launch} {s0 : State} {dC : Nat → ClassId} {dI : Nat → Nat → Nat} {dA : Nat → ClassId} (B0 : BB s0 dC dI dA) (w : fw_W) (h : Nat) (f0 : w h = some (.inr (4, [.null, .null, .null, .null]))) : Met l y_B_init [.code y_B_init b_B_init 1 none] ({ frames := 2, cells := 31, slots := 448, locals := 60 }) (mP s0 dC dI w [.ref h]) (mQv s0 dC dI (fun w' => ∃ AD : Nat → Nat, Inj2 AD ∧ AD 27 = h ∧ (∀ i, i < 32 → i ≠ 27 → w (AD i) = none) ∧ RB dA AD (fun _ => False) w' P_0 (fun _ => none) [] (fun _ => 0) ∧ ∀ (z : Nat) (e : va_E), w z = some e → z ≠ h → w' z = some e)) 31 448 (AA s0) := by
  refine mt_ofW B0 (by decide) (Nat.le_of_ble_eq_true rfl) (fun p e s m args below meth c ls hargs X hin hl hP => ?_)
  have X9 := X
  obtain ⟨hx, hb, hr, hml, hown, hg, hK, hn, hE, hlocks, hA⟩ := X9
  have hS : va_S (AA s0) s.heap s.heap [] := va_S.rf
  have hl : lv_has ls 1 [(0, .ref h)] := hl
  refine lv_aload_n hx hb d_B_init_0 rfl (lv_at hl 0 rfl) ?_
  refine W.objInit hx hb hown (hg _ k_73) (hg _ k_74) (hg _ k_75) rfl (by rw [hml]; exact hl.1) rfl d_B_init_1 (Nat.le_of_ble_eq_true rfl) (Nat.le_of_ble_eq_true rfl) ?_
  refine W.eq (g2 := F0 m 4 ls []) rfl ?_
  refine lv_aload_n hx hb d_B_init_4 rfl (lv_at hl 0 rfl) ?_
  have hf0b := f0
  refine fw_new (D := (dC, dI)) (ci := 1) (fs := [.null, .null, .null, .null, .null]) (C := R_P) (T := F_P) (N := 5) hx hb hg in_P ft_P ft_P_ok hown (hg _ k_76) (hg _ k_77) (hg _ k_55) hK hP hS hA rfl (fun j hj => by rcases (show j = 0 ∨ j = 1 ∨ j = 2 ∨ j = 3 ∨ j = 4 by omega) with rfl | rfl | rfl | rfl | rfl <;> rfl) (Nat.le_of_ble_eq_true rfl) (Nat.le_of_ble_eq_true rfl) d_B_init_5 (fun q1 w2 H hn4 ew3 hP hS => ?_)
  have f0 : w2 h = some (.inr (4, [.null, .null, .null, .null])) := by rw [ew3, va_up_ne _ _ (fw_neN f0 hn4)]; exact f0
  have f5 : w2 q1 = some (.inr (1, [.null, .null, .null, .null, .null])) := by rw [ew3]; exact va_up_self _ _ _
  refine lv_dup hx hb d_B_init_8 rfl ?_
  have hv0 := ew3
  have hf0 := f0
  refine va_callv (rn_IN (n := 0) (As := []) (rest := [.ref q1, .ref h]) X hP hS (c_P_init B0 w2 q1 f5) u_78 k_79 k_55 k_80 rfl (by decide +kernel) rfl rfl ⟨Nat.le_of_ble_eq_true rfl, Nat.le_of_ble_eq_true rfl⟩ rfl hl.1 rfl (Nat.le_of_ble_eq_true rfl) d_B_init_9 ⟨Nat.le_of_ble_eq_true rfl, Nat.le_of_ble_eq_true rfl⟩) hS (fun q _ h => h) (fun q h => h) (fun w6 tS H locs ht hvm hw hB hz1 hk1 hS => ?_)
  have hP : fw_P (dC, dI) cls_ (AA s0) w6 H := by rw [← ht]; exact hB
  obtain ⟨na, zn, zi, hQ, hfr⟩ := hw
  have hr0 := hfr
  have f0 : w6 h = some (.inr (4, [.null, .null, .null, .null])) := (hfr _ (ne_some f0) (fw_neN hf0b hn4)).trans f0
  have hx0 := f0
  refine fw_putF (D := (dC, dI)) (ci := 4) (v := .ref q1) (ty := (.object "TraceBuilder$Plan")) (C := R_B) (T := F_B) (N := 4) hx hb hg in_B ft_B ft_B_ok n_B hown hK hP hS f0 rfl 0 (by decide) (hg _ k_170) (fun _ h9 => h9) rfl (hin rfl) rfl (by decide +kernel) rfl rfl (Nat.le_of_ble_eq_true rfl) d_B_init_12 (fun w7 H locs ew8 hP hS => ?_)
  have f0 : w7 h = some (.inr (4, [.ref q1, .null, .null, .null])) := by rw [ew8]; exact va_up_self _ _ _
  have hkk0 : ∀ (z : Nat) (e : va_E), w z = some e → z ≠ h → w7 z = some e := ct_step hn4 hv0 hr0 ew8
  have hp0 := ew8
  refine lv_aload_n hx hb d_B_init_15 rfl (lv_at hl 0 rfl) ?_
  have hf1b := f0
  refine fw_new (D := (dC, dI)) (ci := 0) (fs := [.null, .null, .int 0, .null]) (C := R_M) (T := F_M) (N := 4) hx hb hg in_M ft_M ft_M_ok hown (hg _ k_108) (hg _ k_109) (hg _ k_56) hK hP hS hA rfl (fun j hj => by rcases (show j = 0 ∨ j = 1 ∨ j = 2 ∨ j = 3 by omega) with rfl | rfl | rfl | rfl <;> rfl) (Nat.le_of_ble_eq_true rfl) (Nat.le_of_ble_eq_true rfl) d_B_init_16 (fun q9 w10 H hn12 ew11 hP hS => ?_)
  have f0 : w10 h = some (.inr (4, [.ref q1, .null, .null, .null])) := by rw [ew11, va_up_ne _ _ (fw_neN f0 hn12)]; exact f0
  have f13 : w10 q9 = some (.inr (0, [.null, .null, .int 0, .null])) := by rw [ew11]; exact va_up_self _ _ _
  refine lv_dup hx hb d_B_init_19 rfl ?_
  have hv1 := ew11
  have hf1 := f0
  refine va_callv (rn_IN (n := 0) (As := []) (rest := [.ref q9, .ref h]) X hP hS (c_M_init B0 w10 q9 f13) u_110 k_111 k_56 k_112 rfl (by decide +kernel) rfl rfl ⟨Nat.le_of_ble_eq_true rfl, Nat.le_of_ble_eq_true rfl⟩ rfl hl.1 rfl (Nat.le_of_ble_eq_true rfl) d_B_init_20 ⟨Nat.le_of_ble_eq_true rfl, Nat.le_of_ble_eq_true rfl⟩) hS (fun q _ h => h) (fun q h => h) (fun w14 tS H locs ht hvm hw hB hz1 hk1 hS => ?_)
  have hP : fw_P (dC, dI) cls_ (AA s0) w14 H := by rw [← ht]; exact hB
  obtain ⟨t1, t2, t3, tn1, tn2, tn3, tM, hfr0⟩ := hw
  have hfr : ∀ z, w10 z ≠ none → z ≠ q9 → w14 z = w10 z := fun z hz z1 => hfr0 z z1 (fun e9 => hz (e9 ▸ tn1)) (fun e9 => hz (e9 ▸ tn2)) (fun e9 => hz (e9 ▸ tn3))
  have hr1 := hfr
  have f0 : w14 h = some (.inr (4, [.ref q1, .null, .null, .null])) := (hfr _ (ne_some f0) (fw_neN hf1b hn12)).trans f0
  have hx1 := f0
  refine fw_putF (D := (dC, dI)) (ci := 4) (v := .ref q9) (ty := (.object "TraceBuilder$Memory")) (C := R_B) (T := F_B) (N := 4) hx hb hg in_B ft_B ft_B_ok n_B hown hK hP hS f0 rfl 1 (by decide) (hg _ k_171) (fun _ h9 => h9) rfl (hin rfl) rfl (by decide +kernel) rfl rfl (Nat.le_of_ble_eq_true rfl) d_B_init_23 (fun w15 H locs ew16 hP hS => ?_)
  have f0 : w15 h = some (.inr (4, [.ref q1, .ref q9, .null, .null])) := by rw [ew16]; exact va_up_self _ _ _
  have hkk1 : ∀ (z : Nat) (e : va_E), w7 z = some e → z ≠ h → w15 z = some e := ct_step hn12 hv1 hr1 ew16
  have hp1 := ew16
  refine lv_aload_n hx hb d_B_init_26 rfl (lv_at hl 0 rfl) ?_
  have hf2b := f0
  refine fw_new (D := (dC, dI)) (ci := 0) (fs := [.null, .null, .int 0, .null]) (C := R_M) (T := F_M) (N := 4) hx hb hg in_M ft_M ft_M_ok hown (hg _ k_108) (hg _ k_109) (hg _ k_56) hK hP hS hA rfl (fun j hj => by rcases (show j = 0 ∨ j = 1 ∨ j = 2 ∨ j = 3 by omega) with rfl | rfl | rfl | rfl <;> rfl) (Nat.le_of_ble_eq_true rfl) (Nat.le_of_ble_eq_true rfl) d_B_init_27 (fun q17 w18 H hn20 ew19 hP hS => ?_)
  have f0 : w18 h = some (.inr (4, [.ref q1, .ref q9, .null, .null])) := by rw [ew19, va_up_ne _ _ (fw_neN f0 hn20)]; exact f0
  have f21 : w18 q17 = some (.inr (0, [.null, .null, .int 0, .null])) := by rw [ew19]; exact va_up_self _ _ _
  refine lv_dup hx hb d_B_init_30 rfl ?_
  have hv2 := ew19
  have hf2 := f0
  refine va_callv (rn_IN (n := 0) (As := []) (rest := [.ref q17, .ref h]) X hP hS (c_M_init B0 w18 q17 f21) u_110 k_111 k_56 k_112 rfl (by decide +kernel) rfl rfl ⟨Nat.le_of_ble_eq_true rfl, Nat.le_of_ble_eq_true rfl⟩ rfl hl.1 rfl (Nat.le_of_ble_eq_true rfl) d_B_init_31 ⟨Nat.le_of_ble_eq_true rfl, Nat.le_of_ble_eq_true rfl⟩) hS (fun q _ h => h) (fun q h => h) (fun w22 tS H locs ht hvm hw hB hz1 hk1 hS => ?_)
  have hP : fw_P (dC, dI) cls_ (AA s0) w22 H := by rw [← ht]; exact hB
  obtain ⟨s1, s2, s3, sn1, sn2, sn3, sM, hfr0⟩ := hw
  have hfr : ∀ z, w18 z ≠ none → z ≠ q17 → w22 z = w18 z := fun z hz z1 => hfr0 z z1 (fun e9 => hz (e9 ▸ sn1)) (fun e9 => hz (e9 ▸ sn2)) (fun e9 => hz (e9 ▸ sn3))
  have hr2 := hfr
  have f0 : w22 h = some (.inr (4, [.ref q1, .ref q9, .null, .null])) := (hfr _ (ne_some f0) (fw_neN hf2b hn20)).trans f0
  have hx2 := f0
  refine fw_putF (D := (dC, dI)) (ci := 4) (v := .ref q17) (ty := (.object "TraceBuilder$Memory")) (C := R_B) (T := F_B) (N := 4) hx hb hg in_B ft_B ft_B_ok n_B hown hK hP hS f0 rfl 2 (by decide) (hg _ k_172) (fun _ h9 => h9) rfl (hin rfl) rfl (by decide +kernel) rfl rfl (Nat.le_of_ble_eq_true rfl) d_B_init_34 (fun w23 H locs ew24 hP hS => ?_)
  have f0 : w23 h = some (.inr (4, [.ref q1, .ref q9, .ref q17, .null])) := by rw [ew24]; exact va_up_self _ _ _
  have hkk2 : ∀ (z : Nat) (e : va_E), w15 z = some e → z ≠ h → w23 z = some e := ct_step hn20 hv2 hr2 ew24
  have hp2 := ew24
  refine lv_aload_n hx hb d_B_init_37 rfl (lv_at hl 0 rfl) ?_
  have hf3b := f0
  refine fw_new (D := (dC, dI)) (ci := 2) (fs := [.null, .null, .int 0, .null, .null, .null, .null, .int 0, .int 0]) (C := R_S) (T := F_S) (N := 9) hx hb hg in_S ft_S ft_S_ok hown (hg _ k_132) (hg _ k_133) (hg _ k_57) hK hP hS hA rfl (fun j hj => by rcases (show j = 0 ∨ j = 1 ∨ j = 2 ∨ j = 3 ∨ j = 4 ∨ j = 5 ∨ j = 6 ∨ j = 7 ∨ j = 8 by omega) with rfl | rfl | rfl | rfl | rfl | rfl | rfl | rfl | rfl <;> rfl) (Nat.le_of_ble_eq_true rfl) (Nat.le_of_ble_eq_true rfl) d_B_init_38 (fun q25 w26 H hn28 ew27 hP hS => ?_)
  have f0 : w26 h = some (.inr (4, [.ref q1, .ref q9, .ref q17, .null])) := by rw [ew27, va_up_ne _ _ (fw_neN f0 hn28)]; exact f0
  have f29 : w26 q25 = some (.inr (2, [.null, .null, .int 0, .null, .null, .null, .null, .int 0, .int 0])) := by rw [ew27]; exact va_up_self _ _ _
  refine lv_dup hx hb d_B_init_41 rfl ?_
  refine lv_aload_n hx hb d_B_init_42 rfl (lv_at hl 0 rfl) ?_
  refine va_get (D := (dC, dI)) (ci := 4) (v := .ref q1) (C := R_B) (T := F_B) (N := 4) hx hb hg in_B hown hK (hP.one f0) 0 rfl rfl 0 (by decide) (hg _ k_170) (fun _ h9 => h9) rfl d_B_init_43 ?_
  refine lv_aload_n hx hb d_B_init_46 rfl (lv_at hl 0 rfl) ?_
  refine va_get (D := (dC, dI)) (ci := 4) (v := .ref q9) (C := R_B) (T := F_B) (N := 4) hx hb hg in_B hown hK (hP.one f0) 0 rfl rfl 1 (by decide) (hg _ k_171) (fun _ h9 => h9) rfl d_B_init_47 ?_
  have hv3 := ew27
  have hf3 := f0
  refine va_callv (rn_IN (n := 2) (As := [.ref q1, .ref q9]) (rest := [.ref q25, .ref h]) X hP hS (c_S_init B0 w26 q25 q1 q9 f29) u_134 k_135 k_57 k_136 rfl (by decide +kernel) rfl rfl ⟨Nat.le_of_ble_eq_true rfl, Nat.le_of_ble_eq_true rfl⟩ rfl hl.1 rfl (Nat.le_of_ble_eq_true rfl) d_B_init_50 ⟨Nat.le_of_ble_eq_true rfl, Nat.le_of_ble_eq_true rfl⟩) hS (fun q _ h => h) (fun q h => h) (fun w30 tS H locs ht hvm hw hB hz1 hk1 hS => ?_)
  have hP : fw_P (dC, dI) cls_ (AA s0) w30 H := by rw [← ht]; exact hB
  obtain ⟨a1, a2, a3, a4, ⟨an1, an2, an3, an4⟩, ⟨a12, a13, a14, a23, a24, a34⟩, g0, g1, g2, g3, g4, hfr⟩ := hw
  have hr3 := hfr
  have f0 : w30 h = some (.inr (4, [.ref q1, .ref q9, .ref q17, .null])) := (hfr _ (ne_some f0) (fw_neN hf3b hn28)).trans f0
  have hx3 := f0
  refine fw_putF (D := (dC, dI)) (ci := 4) (v := .ref q25) (ty := (.object "TraceBuilder$Session")) (C := R_B) (T := F_B) (N := 4) hx hb hg in_B ft_B ft_B_ok n_B hown hK hP hS f0 rfl 3 (by decide) (hg _ k_173) (fun _ h9 => h9) rfl (hin rfl) rfl (by decide +kernel) rfl rfl (Nat.le_of_ble_eq_true rfl) d_B_init_53 (fun w31 H locs ew32 hP hS => ?_)
  have f0 : w31 h = some (.inr (4, [.ref q1, .ref q9, .ref q17, .ref q25])) := by rw [ew32]; exact va_up_self _ _ _
  have hkk3 : ∀ (z : Nat) (e : va_E), w23 z = some e → z ≠ h → w31 z = some e := ct_step hn28 hv3 hr3 ew32
  have hp3 := ew32
  have mA0 : ∀ z, w z ≠ none → w2 z ≠ none := fun z hz => by rw [hv0]; exact mu_ne z hz
  have hfo0 : w6 q1 ≠ none := ne_some hQ.1
  have mB0 : ∀ z, w2 z ≠ none → w7 z ≠ none := fun z hz => by rw [hp0]; exact mu_ne z (mu_call hr0 hfo0 z hz)
  have mA1 : ∀ z, w7 z ≠ none → w10 z ≠ none := fun z hz => by rw [hv1]; exact mu_ne z hz
  have hfo1 : w14 q9 ≠ none := ne_some tM.choose_spec.1
  have mB1 : ∀ z, w10 z ≠ none → w15 z ≠ none := fun z hz => by rw [hp1]; exact mu_ne z (mu_call hr1 hfo1 z hz)
  have mA2 : ∀ z, w15 z ≠ none → w18 z ≠ none := fun z hz => by rw [hv2]; exact mu_ne z hz
  have hfo2 : w22 q17 ≠ none := ne_some sM.choose_spec.1
  have mB2 : ∀ z, w18 z ≠ none → w23 z ≠ none := fun z hz => by rw [hp2]; exact mu_ne z (mu_call hr2 hfo2 z hz)
  have mA3 : ∀ z, w23 z ≠ none → w26 z ≠ none := fun z hz => by rw [hv3]; exact mu_ne z hz
  have hfo3 : w30 q25 ≠ none := ne_some g0
  have mB3 : ∀ z, w26 z ≠ none → w31 z ≠ none := fun z hz => by rw [hp3]; exact mu_ne z (mu_call hr3 hfo3 z hz)
  have hDe : ∃ D : Nat → fw_W, D 0 = (fun _ => none) ∧ D 1 = w ∧ D 2 = w2 ∧ D 3 = w7 ∧ D 4 = w10 ∧ D 5 = w15 ∧ D 6 = w18 ∧ D 7 = w23 ∧ D 8 = w26 ∧ ∀ n, D (9 + n) = w31 := ⟨fun s => match s with | 0 => (fun _ => none) | 1 => w | 2 => w2 | 3 => w7 | 4 => w10 | 5 => w15 | 6 => w18 | 7 => w23 | 8 => w26 | _ => w31, rfl, rfl, rfl, rfl, rfl, rfl, rfl, rfl, rfl, fun n => by rw [Nat.add_comm]; rfl⟩
  obtain ⟨D, d0, d1, d2, d3, d4, d5, d6, d7, d8, d9⟩ := hDe
  have mono : ∀ s z, D s z ≠ none → D (s + 1) z ≠ none := by
    intro s z hz
    match s with
    | 0 => rw [d0] at hz; exact absurd rfl hz
    | 1 => rw [d1] at hz; rw [d2]; exact mA0 z hz
    | 2 => rw [d2] at hz; rw [d3]; exact mB0 z hz
    | 3 => rw [d3] at hz; rw [d4]; exact mA1 z hz
    | 4 => rw [d4] at hz; rw [d5]; exact mB1 z hz
    | 5 => rw [d5] at hz; rw [d6]; exact mA2 z hz
    | 6 => rw [d6] at hz; rw [d7]; exact mB2 z hz
    | 7 => rw [d7] at hz; rw [d8]; exact mA3 z hz
    | 8 => rw [d8] at hz; have := d9 0; rw [this]; exact mB3 z hz
    | n + 9 => rw [Nat.add_comm n 9, d9 n] at hz; rw [show n + 9 + 1 = 9 + (n + 1) by omega, d9]; exact hz
  have hAn : ∀ i, i < 32 → D (ct_st i) ((AD0 h q1 q9 q17 q25 t1 t2 t3 s1 s2 s3 a1 a2 a3 a4 na) i) = none := by
    refine ad_split (fun i hi => ?_) ?_ ?_ ?_ ?_ ?_ ?_ ?_ ?_ ?_ ?_ ?_ ?_ ?_ ?_ ?_
    · rw [AD0_na hi, show ct_st (10 + i) = 2 by unfold ct_st; rw [if_pos (by omega)], d2]; exact zn i hi
    · show D 7 q25 = none; rw [d7]; exact hn28
    · show D 8 a1 = none; rw [d8]; exact an1
    · show D 8 a2 = none; rw [d8]; exact an2
    · show D 8 a3 = none; rw [d8]; exact an3
    · show D 8 a4 = none; rw [d8]; exact an4
    · show D 3 q9 = none; rw [d3]; exact hn12
    · show D 4 t1 = none; rw [d4]; exact tn1
    · show D 4 t2 = none; rw [d4]; exact tn2
    · show D 4 t3 = none; rw [d4]; exact tn3
    · show D 1 q1 = none; rw [d1]; exact hn4
    · show D 0 h = none; rw [d0]
    · show D 5 q17 = none; rw [d5]; exact hn20
    · show D 6 s1 = none; rw [d6]; exact sn1
    · show D 6 s2 = none; rw [d6]; exact sn2
    · show D 6 s3 = none; rw [d6]; exact sn3
  have hQna : ∀ i, i < 17 → w6 (na i) ≠ none := by
    obtain ⟨-, b1, b2, b3, ⟨rw9, b4, -⟩, b5, b6, -⟩ := hQ
    intro i hi
    match i, hi with
    | 0, _ => exact ne_some b1
    | 1, _ => exact ne_some b2
    | 2, _ => exact ne_some b3
    | 3, _ => exact ne_some b4
    | 4, _ => exact ne_some b6
    | n + 5, hn9 => have := b5 n (by omega); rw [show n + 5 = 5 + n by omega]; exact ne_some this
  have hAy : ∀ i, i < 32 → D (ct_st i + 1) ((AD0 h q1 q9 q17 q25 t1 t2 t3 s1 s2 s3 a1 a2 a3 a4 na) i) ≠ none := by
    refine ad_split (fun i hi => ?_) ?_ ?_ ?_ ?_ ?_ ?_ ?_ ?_ ?_ ?_ ?_ ?_ ?_ ?_ ?_
    · rw [AD0_na hi, show ct_st (10 + i) = 2 by unfold ct_st; rw [if_pos (by omega)], d3, hp0]; exact mu_ne _ (hQna i hi)
    · show D 8 q25 ≠ none; rw [d8, hv3, va_up_self]; exact fun h9 => by cases h9
    · show D 9 a1 ≠ none; have d9z := d9 0; rw [show 9 + 0 = 9 from rfl] at d9z; rw [d9z, hp3]; exact mu_ne _ (ne_some g1)
    · show D 9 a2 ≠ none; have d9z := d9 0; rw [show 9 + 0 = 9 from rfl] at d9z; rw [d9z, hp3]; exact mu_ne _ (ne_some g2)
    · show D 9 a3 ≠ none; have d9z := d9 0; rw [show 9 + 0 = 9 from rfl] at d9z; rw [d9z, hp3]; exact mu_ne _ (ne_some g3)
    · show D 9 a4 ≠ none; have d9z := d9 0; rw [show 9 + 0 = 9 from rfl] at d9z; rw [d9z, hp3]; exact mu_ne _ (ne_some g4)
    · show D 4 q9 ≠ none; rw [d4, hv1, va_up_self]; exact fun h9 => by cases h9
    · show D 5 t1 ≠ none; rw [d5, hp1]; exact mu_ne _ (ne_some tM.choose_spec.2.1)
    · show D 5 t2 ≠ none; rw [d5, hp1]; exact mu_ne _ (ne_some tM.choose_spec.2.2.1)
    · show D 5 t3 ≠ none; rw [d5, hp1]; exact mu_ne _ (ne_some tM.choose_spec.2.2.2.1)
    · show D 2 q1 ≠ none; rw [d2, hv0, va_up_self]; exact fun h9 => by cases h9
    · show D 1 h ≠ none; rw [d1]; exact ne_some hf0b
    · show D 6 q17 ≠ none; rw [d6, hv2, va_up_self]; exact fun h9 => by cases h9
    · show D 7 s1 ≠ none; rw [d7, hp2]; exact mu_ne _ (ne_some sM.choose_spec.2.1)
    · show D 7 s2 ≠ none; rw [d7, hp2]; exact mu_ne _ (ne_some sM.choose_spec.2.2.1)
    · show D 7 s3 ≠ none; rw [d7, hp2]; exact mu_ne _ (ne_some sM.choose_spec.2.2.2.1)
  have tn12 : t1 ≠ t2 := by obtain ⟨fc9, -, y1, y2, y3, -⟩ := tM; exact fw_ne y1 y2 (by simp)
  have tn13 : t1 ≠ t3 := by obtain ⟨fc9, -, y1, y2, y3, -⟩ := tM; exact fw_ne y1 y3 (by simp)
  have tn23 : t2 ≠ t3 := by obtain ⟨fc9, -, y1, y2, y3, -⟩ := tM; exact fw_ne y2 y3 (by simp)
  have sn12 : s1 ≠ s2 := by obtain ⟨fc9, -, y1, y2, y3, -⟩ := sM; exact fw_ne y1 y2 (by simp)
  have sn13 : s1 ≠ s3 := by obtain ⟨fc9, -, y1, y2, y3, -⟩ := sM; exact fw_ne y1 y3 (by simp)
  have sn23 : s2 ≠ s3 := by obtain ⟨fc9, -, y1, y2, y3, -⟩ := sM; exact fw_ne y2 y3 (by simp)
  have hinj : Inj2 (AD0 h q1 q9 q17 q25 t1 t2 t3 s1 s2 s3 a1 a2 a3 a4 na) := ct_inj mono hAn hAy (ct_hG zi tn12 tn13 tn23 sn12 sn13 sn23 a12 a13 a14 a23 a24 a34)
  have hE0 : ∀ (z : Nat) (e : va_E), w6 z = some e → z ≠ h → w31 z = some e := fun z e hz hh => by have e1 : w7 z = some e := (by rw [hp0, va_up_ne _ _ hh]; exact hz); have e2 := hkk1 z e e1 hh; have e3 := hkk2 z e e2 hh; have e4 := hkk3 z e e3 hh; exact e4
  have hE1 : ∀ (z : Nat) (e : va_E), w14 z = some e → z ≠ h → w31 z = some e := fun z e hz hh => by have e1 : w15 z = some e := (by rw [hp1, va_up_ne _ _ hh]; exact hz); have e3 := hkk2 z e e1 hh; have e4 := hkk3 z e e3 hh; exact e4
  have hE2 : ∀ (z : Nat) (e : va_E), w22 z = some e → z ≠ h → w31 z = some e := fun z e hz hh => by have e1 : w23 z = some e := (by rw [hp2, va_up_ne _ _ hh]; exact hz); have e4 := hkk3 z e e1 hh; exact e4
  have hE3 : ∀ (z : Nat) (e : va_E), w30 z = some e → z ≠ h → w31 z = some e := fun z e hz hh => by have e1 : w31 z = some e := (by rw [hp3, va_up_ne _ _ hh]; exact hz); exact e1
  have hSI : SI dA (AD0 h q1 q9 q17 q25 t1 t2 t3 s1 s2 s3 a1 a2 a3 a4 na) w31 := ⟨_, _, _, _, fun _ => false, fun _ => false, fun _ => 0, fun _ => none, hE3 _ _ g0 (hinj.ne (i := 0) (j := 27) (by omega) (by omega) (by omega)), hE3 _ _ g1 (hinj.ne (i := 1) (j := 27) (by omega) (by omega) (by omega)), hE3 _ _ g2 (hinj.ne (i := 2) (j := 27) (by omega) (by omega) (by omega)), hE3 _ _ g3 (hinj.ne (i := 3) (j := 27) (by omega) (by omega) (by omega)), hE3 _ _ g4 (hinj.ne (i := 4) (j := 27) (by omega) (by omega) (by omega))⟩
  have hM4 : M4 dA (AD0 h q1 q9 q17 q25 t1 t2 t3 s1 s2 s3 a1 a2 a3 a4 na) (fun _ => False) w31 (fun _ => none) [] (fun _ => 0) := by
    obtain ⟨fc9, y0, y1, y2, y3, y4⟩ := tM
    exact ⟨fun _ => none, [], ⟨fc9, hE1 _ _ y0 (hinj.ne (i := 5) (j := 27) (by omega) (by omega) (by omega)), hE1 _ _ y1 (hinj.ne (i := 6) (j := 27) (by omega) (by omega) (by omega)), hE1 _ _ y2 (hinj.ne (i := 7) (j := 27) (by omega) (by omega) (by omega)), hE1 _ _ y3 (hinj.ne (i := 8) (j := 27) (by omega) (by omega) (by omega)), y4⟩, fun _ _ => trivial, rfl, fun i t T h9 => by simp at h9⟩
  have hX4 : X4 dA (AD0 h q1 q9 q17 q25 t1 t2 t3 s1 s2 s3 a1 a2 a3 a4 na) w31 := by
    obtain ⟨fc9, y0, y1, y2, y3, y4⟩ := sM
    exact ⟨fun _ => none, [], _, ⟨fc9, hE2 _ _ y0 (hinj.ne (i := 28) (j := 27) (by omega) (by omega) (by omega)), hE2 _ _ y1 (hinj.ne (i := 29) (j := 27) (by omega) (by omega) (by omega)), hE2 _ _ y2 (hinj.ne (i := 30) (j := 27) (by omega) (by omega) (by omega)), hE2 _ _ y3 (hinj.ne (i := 31) (j := 27) (by omega) (by omega) (by omega)), y4⟩⟩
  have hP6 : P6 dA (AD0 h q1 q9 q17 q25 t1 t2 t3 s1 s2 s3 a1 a2 a3 a4 na) w31 P_0 := by
    obtain ⟨y0, y1, y2, y3, ⟨rows9, y4, y4r⟩, y5, y6, y7, y8, y9, y10⟩ := hQ
    have e9 : ∀ k, k < 12 → (AD0 h q1 q9 q17 q25 t1 t2 t3 s1 s2 s3 a1 a2 a3 a4 na) (15 + k) = na (5 + k) := fun k hk => by rw [show 15 + k = 10 + (5 + k) by omega]; exact AD0_na (by omega)
    exact ⟨hE0 _ _ y0 (hinj.ne (i := 9) (j := 27) (by omega) (by omega) (by omega)), hE0 _ _ y1 (hinj.ne (i := 10) (j := 27) (by omega) (by omega) (by omega)), hE0 _ _ y2 (hinj.ne (i := 11) (j := 27) (by omega) (by omega) (by omega)), hE0 _ _ y3 (hinj.ne (i := 12) (j := 27) (by omega) (by omega) (by omega)), ⟨rows9, hE0 _ _ y4 (hinj.ne (i := 13) (j := 27) (by omega) (by omega) (by omega)), fun k hk => by show rows9 k = some ((AD0 h q1 q9 q17 q25 t1 t2 t3 s1 s2 s3 a1 a2 a3 a4 na) (15 + k)); rw [e9 k hk]; exact y4r k hk⟩, fun k hk => by show w31 ((AD0 h q1 q9 q17 q25 t1 t2 t3 s1 s2 s3 a1 a2 a3 a4 na) (15 + k)) = _; rw [e9 k hk]; refine hE0 _ _ (y5 k hk) ?_; rw [← e9 k hk]; exact (hinj.ne (i := 15 + k) (j := 27) (by omega) (by omega) (by omega)), hE0 _ _ y6 (hinj.ne (i := 14) (j := 27) (by omega) (by omega) (by omega)), y7, y8, y9, fun i j hi hj e8 => by have := hinj (15 + i) (15 + j) (by omega) (by omega) e8; omega⟩
  have hnew : ∀ i, i < 32 → i ≠ 27 → w ((AD0 h q1 q9 q17 q25 t1 t2 t3 s1 s2 s3 a1 a2 a3 a4 na) i) = none := by
    intro i hi hi27
    have a9 := hAn i hi
    have b9 : 1 ≤ ct_st i := (by decide +kernel : ∀ i : Fin 32, i.1 ≠ 27 → 1 ≤ ct_st i.1) ⟨i, hi⟩ hi27
    have c9 : ∀ (d s : Nat) (z : Nat), D s z ≠ none → D (s + d) z ≠ none := by
      intro d; induction d with
      | zero => exact fun s z h => h
      | succ d ih => exact fun s z h => mono (s + d) z (ih s z h)
    refine Classical.byContradiction (fun hc => ?_)
    have hc2 : D 1 ((AD0 h q1 q9 q17 q25 t1 t2 t3 s1 s2 s3 a1 a2 a3 a4 na) i) ≠ none := by rw [d1]; exact hc
    have := c9 (ct_st i - 1) 1 _ hc2
    rw [show 1 + (ct_st i - 1) = ct_st i by omega] at this
    exact this a9
  have hall : ∀ (z : Nat) (e : va_E), w z = some e → z ≠ h → w31 z = some e := fun z e hz hh => hkk3 z e (hkk2 z e (hkk1 z e (hkk0 z e hz hh) hh) hh) hh
  exact W.vret hx hb hr (fun tS ht hW => ⟨⟨w31, rfl, ⟨AD0 h q1 q9 q17 q25 t1 t2 t3 s1 s2 s3 a1 a2 a3 a4 na, hinj, rfl, hnew, ⟨f0, hSI, hM4, hX4, hP6, ⟨fun _ _ h9 => h9, fun _ h9 => absurd h9 id⟩, fun k hk => ⟨by show 0 < 3; omega, fun h9 => absurd h9 (by show ¬ (0 = 2); omega)⟩, fun k => by show 0 < 10; omega⟩, hall⟩, mB_of ht hP⟩, hS.F ht⟩) hS.2.2 d_B_init_56
