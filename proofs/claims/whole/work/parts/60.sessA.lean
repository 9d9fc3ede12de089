set_option maxHeartbeats 4000000 in
set_option maxRecDepth 100000 in
theorem c_S_hasFailed {l : Launch} {s0 : State} {dC : Nat → ClassId} {dI : Nat → Nat → Nat} {dA : Nat → ClassId} (B0 : BB s0 dC dI dA) (w : fw_W) (ad : Nat → Nat) (Fz : Nat → Prop) (P : PD) (wk : Nat) (rows : Nat → Option Nat) (σ : SS) (hinj : Inj ad) (hR : RS dA ad Fz P wk rows w σ) : Met l y_S_hasFailed [.code y_S_hasFailed b_S_hasFailed 1 (some .boolean)] ({ frames := 0, cells := 0, slots := 0, locals := 0 }) (mP s0 dC dI w [.ref (ad 0)]) (mQi s0 dC dI (fun r w' => w' = w ∧ ∃ b : Bool, r = nI b.toNat ∧ (b = true ↔ ¬ s_fl σ = 0))) 0 0 (AA s0) := by
  have hR9 := hR
  obtain ⟨⟨g0, g1, g2, ⟨vf, g3, hvf⟩, g4⟩, hM4, hP6, hnF, hfl⟩ := hR
  refine mt_ofW B0 (by decide) (Nat.le_of_ble_eq_true rfl) (fun p e s m args below meth c ls hargs X hin hl hP => ?_)
  have X9 := X
  obtain ⟨hx, hb, hr, hml, hown, hg, hK, hn, hE, hlocks, hA⟩ := X9
  have hS : va_S (AA s0) s.heap s.heap [] := va_S.rf
  have hl : lv_has ls 1 [(0, .ref (ad 0))] := hl
  refine lv_aload_n hx hb d_S_hasFailed_0 rfl (lv_at hl 0 rfl) ?_
  refine va_get (D := (dC, dI)) (ci := 2) (v := .int (nI (s_fl σ))) (C := R_S) (T := F_S) (N := 9) hx hb hg in_S hown hK (hP.one g0) 0 rfl rfl 8 (by decide) (hg _ k_148) (fun _ h9 => h9) rfl d_S_hasFailed_1 ?_
  refine lv_if_eq (tgt := 11) hx hb d_S_hasFailed_4 (by decide) (fun c1 => ?_) (fun c1 => ?_)
  · refine lv_iconst (v := (nI 0)) hx hb d_S_hasFailed_11 (by decide) ?_
    exact W.zret (v := (nI 0)) hx hb hr (by decide) (fun tS ht hW => ⟨⟨(nI 0), w, rfl, ⟨rfl, false, rfl, ⟨fun h => (by cases h), fun h => absurd ((nI_eq (by omega) (by decide)).mp c1) h⟩⟩, mB_of ht hP⟩, hS.F ht⟩) hS.2.2 d_S_hasFailed_12
  · refine lv_iconst (v := (nI 1)) hx hb d_S_hasFailed_7 (by decide) ?_
    refine lv_goto (tgt := 12) hx hb d_S_hasFailed_8 (by decide) ?_
    exact W.zret (v := (nI 1)) hx hb hr (by decide) (fun tS ht hW => ⟨⟨(nI 1), w, rfl, ⟨rfl, true, rfl, ⟨fun _ h => c1 (by rw [h]; rfl), fun _ => rfl⟩⟩, mB_of ht hP⟩, hS.F ht⟩) hS.2.2 d_S_hasFailed_12
set_option maxHeartbeats 4000000 in
set_option maxRecDepth 100000 in
theorem c_S_fail {l : Launch} {s0 : State} {dC : Nat → ClassId} {dI : Nat → Nat → Nat} {dA : Nat → ClassId} (B0 : BB s0 dC dI dA) (w : fw_W) (ad : Nat → Nat) (Fz : Nat → Prop) (P : PD) (wk : Nat) (rows : Nat → Option Nat) (σ : SS) (n0 : Nat) (hinj : Inj ad) (hR : RS dA ad Fz P wk rows w σ) (hn0 : n0 < 4) : Met l y_S_fail [.code y_S_fail b_S_fail 2 (some .long)] ({ frames := 0, cells := 0, slots := 0, locals := 0 }) (mP s0 dC dI w [.ref (ad 0), .int (nI n0)]) (mQl s0 dC dI (fun r w' => r = 0 ∧ RS dA ad Fz P wk rows w' (sFail n0 σ) ∧ Out ad w w')) 0 0 (AA s0) := by
  have hR9 := hR
  obtain ⟨⟨g0, g1, g2, ⟨vf, g3, hvf⟩, g4⟩, hM4, hP6, hnF, hfl⟩ := hR
  refine mt_ofW B0 (by decide) (Nat.le_of_ble_eq_true rfl) (fun p e s m args below meth c ls hargs X hin hl hP => ?_)
  have X9 := X
  obtain ⟨hx, hb, hr, hml, hown, hg, hK, hn, hE, hlocks, hA⟩ := X9
  have hS : va_S (AA s0) s.heap s.heap [] := va_S.rf
  have hl : lv_has ls 2 [(0, .ref (ad 0)), (1, .int (nI n0))] := hl
  refine lv_aload_n hx hb d_S_fail_0 rfl (lv_at hl 0 rfl) ?_
  refine va_get (D := (dC, dI)) (ci := 2) (v := .int (nI (s_fl σ))) (C := R_S) (T := F_S) (N := 9) hx hb hg in_S hown hK (hP.one g0) 0 rfl rfl 8 (by decide) (hg _ k_148) (fun _ h9 => h9) rfl d_S_fail_1 ?_
  refine lv_if_ne (tgt := 12) hx hb d_S_fail_4 (by decide) (fun c1 => ?_) (fun c1 => ?_)
  · refine lv_lconst (v := 0) hx hb d_S_fail_12 (by decide) ?_
    have e9 : sFail n0 σ = σ := by unfold sFail; rw [if_neg (fun h => c1 (by rw [h]; rfl))]
    exact W.lret (v := 0) hx hb hr (fun tS ht hW => ⟨⟨0, w, rfl, ⟨rfl, by rw [e9]; exact hR9, fun _ _ => rfl⟩, mB_of ht hP⟩, hS.F ht⟩) hS.2.2 d_S_fail_13
  · refine lv_aload_n hx hb d_S_fail_7 rfl (lv_at hl 0 rfl) ?_
    refine lv_iload_n hx hb d_S_fail_8 rfl (lv_at hl 1 rfl) ?_
    refine fw_put (D := (dC, dI)) (ci := 2) (v := .int (nI n0)) (ty := .int) (C := R_S) (T := F_S) (N := 9) hx hb hg in_S ft_S ft_S_ok n_S hown hK hP hS g0 rfl 8 (by decide) (hg _ k_148) (fun _ h9 => h9) rfl (by decide +kernel) rfl rfl (Nat.le_of_ble_eq_true rfl) d_S_fail_9 (fun w1 H locs ew2 hP hS => ?_)
    have g1 : w1 (ad 1) = some (.inl (dA 2, 12, .inl (zf (s_fin σ)))) := by rw [ew2, va_up_ne _ _ (hinj.ne (i := 1) (j := 0) (by decide) (by decide) (by decide))]; exact g1
    have g2 : w1 (ad 2) = some (.inl (dA 2, 12, .inl (zf (s_opn σ)))) := by rw [ew2, va_up_ne _ _ (hinj.ne (i := 2) (j := 0) (by decide) (by decide) (by decide))]; exact g2
    have g3 : w1 (ad 3) = some (.inl (dA 1, 12, .inr (.inl vf))) := by rw [ew2, va_up_ne _ _ (hinj.ne (i := 3) (j := 0) (by decide) (by decide) (by decide))]; exact g3
    have g4 : w1 (ad 4) = some (.inl (dA 3, 192, .inr (.inr (.inr (.inr rows))))) := by rw [ew2, va_up_ne _ _ (hinj.ne (i := 4) (j := 0) (by decide) (by decide) (by decide))]; exact g4
    have g0 : w1 (ad 0) = some (.inr (2, [.ref (ad 9), .ref (ad 5), .int (nI wk), .ref (ad 1), .ref (ad 2), .ref (ad 3), .ref (ad 4), .int (nI (s_ran σ).toNat), .int (nI n0)])) := by rw [ew2]; exact va_up_self _ _ _
    refine lv_lconst (v := 0) hx hb d_S_fail_12 (by decide) ?_
    have c2 : s_fl σ = 0 := (nI_eq (by omega) (by decide)).mp c1
    have hfr : ∀ z, z ≠ ad 0 → w1 z = w z := (fun z z1 => by rw [ew2, va_up_ne _ _ z1])
    have ho : Out ad w w1 := fun q hq => hfr q (hq 0 (by decide))
    have hk : ∀ i, 0 < i → i < 27 → w1 (ad i) = w (ad i) := fun i h1 h2 => hfr _ (hinj.ne h2 (by decide) (by omega))
    exact W.lret (v := 0) hx hb hr (fun tS ht hW => ⟨⟨0, w1, rfl, ⟨rfl, ⟨⟨by unfold sFail; rw [if_pos c2]; exact g0, g1, g2, ⟨vf, g3, hvf⟩, g4⟩, hM4.kept (fun i h1 h2 => hk i (by omega) (by omega)) (hR9.fz ho) (fun _ h => h), hP6.kept (fun i h1 h2 => hk i (by omega) (by omega)), ⟨hnF.1, fd_kept (hR9.fz ho) hnF.2⟩, by unfold sFail; rw [if_pos c2]; exact hn0⟩, ho⟩, mB_of ht hP⟩, hS.F ht⟩) hS.2.2 d_S_fail_13
set_option maxHeartbeats 4000000 in
set_option maxRecDepth 100000 in
theorem c_S_finish {l : Launch} {s0 : State} {dC : Nat → ClassId} {dI : Nat → Nat → Nat} {dA : Nat → ClassId} (B0 : BB s0 dC dI dA) (w : fw_W) (ad : Nat → Nat) (Fz : Nat → Prop) (P : PD) (wk : Nat) (rows : Nat → Option Nat) (σ : SS) (k : Nat) (v : Int64) (hinj : Inj ad) (hR : RS dA ad Fz P wk rows w σ) (hk : k < 12) : Met l y_S_finish [.code y_S_finish b_S_finish 4 (some .long)] ({ frames := 0, cells := 0, slots := 0, locals := 0 }) (mP s0 dC dI w [.ref (ad 0), .int (nI k), .long v]) (mQl s0 dC dI (fun r w' => r = v ∧ RS dA ad Fz P wk rows w' (sFin k v σ) ∧ Out ad w w')) 0 0 (AA s0) := by
  have hR9 := hR
  obtain ⟨⟨g0, g1, g2, ⟨vf, g3, hvf⟩, g4⟩, hM4, hP6, hnF, hfl⟩ := hR
  refine mt_ofW B0 (by decide) (Nat.le_of_ble_eq_true rfl) (fun p e s m args below meth c ls hargs X hin hl hP => ?_)
  have X9 := X
  obtain ⟨hx, hb, hr, hml, hown, hg, hK, hn, hE, hlocks, hA⟩ := X9
  have hS : va_S (AA s0) s.heap s.heap [] := va_S.rf
  have hl : lv_has ls 4 [(0, .ref (ad 0)), (1, .int (nI k)), (2, .long v)] := hl
  refine lv_aload_n hx hb d_S_finish_0 rfl (lv_at hl 0 rfl) ?_
  refine va_get (D := (dC, dI)) (ci := 2) (v := .ref (ad 2)) (C := R_S) (T := F_S) (N := 9) hx hb hg in_S hown hK (hP.one g0) 0 rfl rfl 4 (by decide) (hg _ k_143) (fun _ h9 => h9) rfl d_S_finish_1 ?_
  refine lv_iload_n hx hb d_S_finish_4 rfl (lv_at hl 1 rfl) ?_
  refine lv_iconst (v := (nI 0)) hx hb d_S_finish_5 (by decide) ?_
  refine fw_zast (tys := tyl dA) hx hb hK hP hS g2 2 rfl (j := k) (x := (nI 0)) (by omega) (by decide) d_S_finish_6 (fun w3 H locs ew4 hP hS => ?_)
  rw [show (nI 0) = nI (false).toNat from rfl] at ew4
  rw [zf_up] at ew4
  have g0 : w3 (ad 0) = some (.inr (2, [.ref (ad 9), .ref (ad 5), .int (nI wk), .ref (ad 1), .ref (ad 2), .ref (ad 3), .ref (ad 4), .int (nI (s_ran σ).toNat), .int (nI (s_fl σ))])) := by rw [ew4, va_up_ne _ _ (hinj.ne (i := 0) (j := 2) (by decide) (by decide) (by decide))]; exact g0
  have g1 : w3 (ad 1) = some (.inl (dA 2, 12, .inl (zf (s_fin σ)))) := by rw [ew4, va_up_ne _ _ (hinj.ne (i := 1) (j := 2) (by decide) (by decide) (by decide))]; exact g1
  have g3 : w3 (ad 3) = some (.inl (dA 1, 12, .inr (.inl vf))) := by rw [ew4, va_up_ne _ _ (hinj.ne (i := 3) (j := 2) (by decide) (by decide) (by decide))]; exact g3
  have g4 : w3 (ad 4) = some (.inl (dA 3, 192, .inr (.inr (.inr (.inr rows))))) := by rw [ew4, va_up_ne _ _ (hinj.ne (i := 4) (j := 2) (by decide) (by decide) (by decide))]; exact g4
  have g2 : w3 (ad 2) = some (.inl (dA 2, 12, .inl (zf (va_up (s_opn σ) k false)))) := by rw [ew4]; exact va_up_self _ _ _
  refine lv_aload_n hx hb d_S_finish_7 rfl (lv_at hl 0 rfl) ?_
  refine va_get (D := (dC, dI)) (ci := 2) (v := .ref (ad 1)) (C := R_S) (T := F_S) (N := 9) hx hb hg in_S hown hK (hP.one g0) 0 rfl rfl 3 (by decide) (hg _ k_142) (fun _ h9 => h9) rfl d_S_finish_8 ?_
  refine lv_iload_n hx hb d_S_finish_11 rfl (lv_at hl 1 rfl) ?_
  refine lv_iconst (v := (nI 1)) hx hb d_S_finish_12 (by decide) ?_
  refine fw_zast (tys := tyl dA) hx hb hK hP hS g1 2 rfl (j := k) (x := (nI 1)) (by omega) (by decide) d_S_finish_13 (fun w5 H locs ew6 hP hS => ?_)
  rw [show (nI 1) = nI (true).toNat from rfl] at ew6
  rw [zf_up] at ew6
  have g0 : w5 (ad 0) = some (.inr (2, [.ref (ad 9), .ref (ad 5), .int (nI wk), .ref (ad 1), .ref (ad 2), .ref (ad 3), .ref (ad 4), .int (nI (s_ran σ).toNat), .int (nI (s_fl σ))])) := by rw [ew6, va_up_ne _ _ (hinj.ne (i := 0) (j := 1) (by decide) (by decide) (by decide))]; exact g0
  have g2 : w5 (ad 2) = some (.inl (dA 2, 12, .inl (zf (va_up (s_opn σ) k false)))) := by rw [ew6, va_up_ne _ _ (hinj.ne (i := 2) (j := 1) (by decide) (by decide) (by decide))]; exact g2
  have g3 : w5 (ad 3) = some (.inl (dA 1, 12, .inr (.inl vf))) := by rw [ew6, va_up_ne _ _ (hinj.ne (i := 3) (j := 1) (by decide) (by decide) (by decide))]; exact g3
  have g4 : w5 (ad 4) = some (.inl (dA 3, 192, .inr (.inr (.inr (.inr rows))))) := by rw [ew6, va_up_ne _ _ (hinj.ne (i := 4) (j := 1) (by decide) (by decide) (by decide))]; exact g4
  have g1 : w5 (ad 1) = some (.inl (dA 2, 12, .inl (zf (va_up (s_fin σ) k true)))) := by rw [ew6]; exact va_up_self _ _ _
  refine lv_aload_n hx hb d_S_finish_14 rfl (lv_at hl 0 rfl) ?_
  refine va_get (D := (dC, dI)) (ci := 2) (v := .ref (ad 3)) (C := R_S) (T := F_S) (N := 9) hx hb hg in_S hown hK (hP.one g0) 0 rfl rfl 5 (by decide) (hg _ k_144) (fun _ h9 => h9) rfl d_S_finish_15 ?_
  refine lv_iload_n hx hb d_S_finish_18 rfl (lv_at hl 1 rfl) ?_
  refine lv_lload_n hx hb d_S_finish_19 rfl (lv_at hl 2 rfl) ?_
  refine fw_last (tys := tyl dA) hx hb hK hP hS g3 1 rfl (j := k) (by omega) (by decide) d_S_finish_20 (fun w7 H locs ew8 hP hS => ?_)
  have g0 : w7 (ad 0) = some (.inr (2, [.ref (ad 9), .ref (ad 5), .int (nI wk), .ref (ad 1), .ref (ad 2), .ref (ad 3), .ref (ad 4), .int (nI (s_ran σ).toNat), .int (nI (s_fl σ))])) := by rw [ew8, va_up_ne _ _ (hinj.ne (i := 0) (j := 3) (by decide) (by decide) (by decide))]; exact g0
  have g1 : w7 (ad 1) = some (.inl (dA 2, 12, .inl (zf (va_up (s_fin σ) k true)))) := by rw [ew8, va_up_ne _ _ (hinj.ne (i := 1) (j := 3) (by decide) (by decide) (by decide))]; exact g1
  have g2 : w7 (ad 2) = some (.inl (dA 2, 12, .inl (zf (va_up (s_opn σ) k false)))) := by rw [ew8, va_up_ne _ _ (hinj.ne (i := 2) (j := 3) (by decide) (by decide) (by decide))]; exact g2
  have g4 : w7 (ad 4) = some (.inl (dA 3, 192, .inr (.inr (.inr (.inr rows))))) := by rw [ew8, va_up_ne _ _ (hinj.ne (i := 4) (j := 3) (by decide) (by decide) (by decide))]; exact g4
  have g3 : w7 (ad 3) = some (.inl (dA 1, 12, .inr (.inl (vp_updL vf k v)))) := by rw [ew8]; exact va_up_self _ _ _
  refine lv_lload_n hx hb d_S_finish_21 rfl (lv_at hl 2 rfl) ?_
  have hfr : ∀ z, z ≠ ad 1 → z ≠ ad 2 → z ≠ ad 3 → w7 z = w z := (fun z z1 z2 z3 => by rw [ew8, va_up_ne _ _ z3, ew6, va_up_ne _ _ z1, ew4, va_up_ne _ _ z2])
  have ho : Out ad w w7 := fun q hq => hfr q (hq 1 (by decide)) (hq 2 (by decide)) (hq 3 (by decide))
  have hkp : ∀ i, 3 < i → i < 27 → w7 (ad i) = w (ad i) := fun i h1 h2 => hfr _ (hinj.ne h2 (by decide) (by omega)) (hinj.ne h2 (by decide) (by omega)) (hinj.ne h2 (by decide) (by omega))
  exact W.lret (v := v) hx hb hr (fun tS ht hW => ⟨⟨v, w7, rfl, ⟨rfl, ⟨⟨g0, g1, g2, ⟨_, g3, fun j hj => by by_cases e9 : j = k; rw [e9, pk_uLs]; exact pk_uLs.symm; rw [pk_uLn e9]; exact (hvf j ((va_up_ne _ _ e9).symm.trans hj)).trans (pk_uLn e9).symm⟩, g4⟩, hM4.kept (fun i h1 h2 => hkp i (by omega) (by omega)) (hR9.fz ho) (fun _ h => h), hP6.kept (fun i h1 h2 => hkp i (by omega) (by omega)), ⟨hnF.1, fd_kept (hR9.fz ho) hnF.2⟩, hfl⟩, ho⟩, mB_of ht hP⟩, hS.F ht⟩) hS.2.2 d_S_finish_22
