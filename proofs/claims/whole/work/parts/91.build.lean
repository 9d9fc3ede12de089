set_option maxHeartbeats 4000000 in
set_option maxRecDepth 100000 in
theorem c_B_build {l : Launch} {s0 : State} {dC : Nat → ClassId} {dI : Nat → Nat → Nat} {dA : Nat → ClassId} (B0 : BB s0 dC dI dA) (w : fw_W) (AD : Nat → Nat) (Fz : Nat → Prop) (β : BS) (wk k : Nat) (hinj : Inj2 AD) (hR : RBb dA AD Fz w β) (hwk : wk < 2) (hk : k < 12) (hfl : bFl wk k β = 0) : Met l y_B_build [.code y_B_build b_B_build 5 (some .long)] ({ frames := 122, cells := 36, slots := 132, locals := 3040 }) (mP s0 dC dI w [.ref (AD 27), .int (nI wk), .int (nI k)]) (mQl s0 dC dI (fun r w' => r = (bSess wk k β).1 ∧ VB dA AD Fz w w' (bBuild wk k β))) 36 132 (AA s0) := by
  refine mt_ofW B0 (by decide) (Nat.le_of_ble_eq_true rfl) (fun p e s m args below meth c ls hargs X hin hl hP => ?_)
  have X9 := X
  obtain ⟨hx, hb, hr, hml, hown, hg, hK, hn, hE, hlocks, hA⟩ := X9
  have hS : va_S (AA s0) s.heap s.heap [] := va_S.rf
  have hl : lv_has ls 5 [(0, .ref (AD 27)), (1, .int (nI wk)), (2, .int (nI k))] := hl
  obtain ⟨h27, hSI, hM4, hX4, hP6, ⟨hnF, hdm⟩, hpo, hrl⟩ := (id hR)
  obtain ⟨ft, pl, hM, hft, hpl⟩ := (id hM4)
  have m1 := hM.choose_spec.1
  have p0 := hP6.1
  have s0o := hSI.choose_spec.choose_spec.choose_spec.choose_spec.choose_spec.choose_spec.choose_spec.choose_spec.1
  refine lv_iload_n hx hb d_B_build_0 rfl (lv_at hl 1 rfl) ?_
  refine va_callv (rn_S (n := 1) (As := [.int (nI wk)]) (rest := []) X hP hS (c_B_refuseBadWorker B0 w (nI wk) (⟨wk, hwk, rfl⟩)) k_349 k_350 k_54 k_351 (by decide +kernel) rfl rfl ⟨Nat.le_of_ble_eq_true rfl, Nat.le_of_ble_eq_true rfl⟩ rfl hl.1 rfl (Nat.le_of_ble_eq_true rfl) d_B_build_1 ⟨Nat.le_of_ble_eq_true rfl, Nat.le_of_ble_eq_true rfl⟩) hS (fun q _ h => h) (fun q h => h) (fun w32 tS H locs ht hvm hw hB hz1 hk1 hS => ?_)
  have hP : fw_P (dC, dI) cls_ (AA s0) w32 H := by rw [← ht]; exact hB
  rw [hw] at hP
  refine lv_iload_n hx hb d_B_build_4 rfl (lv_at hl 2 rfl) ?_
  refine va_callv (rn_S (n := 1) (As := [.int (nI k)]) (rest := []) X hP hS (c_B_refuseBadKey B0 w (nI k) (⟨k, hk, rfl⟩)) k_203 k_204 k_54 k_205 (by decide +kernel) rfl rfl ⟨Nat.le_of_ble_eq_true rfl, Nat.le_of_ble_eq_true rfl⟩ rfl hl.1 rfl (Nat.le_of_ble_eq_true rfl) d_B_build_5 ⟨Nat.le_of_ble_eq_true rfl, Nat.le_of_ble_eq_true rfl⟩) hS (fun q _ h => h) (fun q h => h) (fun w33 tS H locs ht hvm hw hB hz1 hk1 hS => ?_)
  have hP : fw_P (dC, dI) cls_ (AA s0) w33 H := by rw [← ht]; exact hB
  rw [hw] at hP
  refine lv_aload_n hx hb d_B_build_8 rfl (lv_at hl 0 rfl) ?_
  refine va_get (D := (dC, dI)) (ci := 4) (v := .ref (AD 0)) (C := R_B) (T := F_B) (N := 4) hx hb hg in_B hown hK (hP.one h27) 0 rfl rfl 3 (by decide) (hg _ k_173) (fun _ h9 => h9) rfl d_B_build_9 ?_
  refine lv_aload_n hx hb d_B_build_12 rfl (lv_at hl 0 rfl) ?_
  refine va_get (D := (dC, dI)) (ci := 4) (v := .ref (AD 5)) (C := R_B) (T := F_B) (N := 4) hx hb hg in_B hown hK (hP.one h27) 0 rfl rfl 1 (by decide) (hg _ k_171) (fun _ h9 => h9) rfl d_B_build_13 ?_
  refine lv_iload_n hx hb d_B_build_16 rfl (lv_at hl 1 rfl) ?_
  refine lv_iload_n hx hb d_B_build_17 rfl (lv_at hl 2 rfl) ?_
  have hd9 := dm_12 (b_P β) wk k (b_tr β) (b_cl β) (b_ta β)
  refine va_calll (rn_VN (n := 3) (As := [.ref (AD 5), .int (nI wk), .int (nI k)]) (rest := []) (C := R_S) (T := F_S) (N := 9) (ci := 2) X hP hS (c_S_result B0 w AD Fz (b_P β) wk k (b_tr β) (b_cl β) (b_ta β) hinj.one hSI hM4 hP6 ⟨fun i hi => hnF i (by omega), hdm⟩ hk hpo hwk) u_352 k_354 k_10 k_57 k_355 (by decide +kernel) rfl rfl ⟨Nat.le_of_ble_eq_true rfl, Nat.le_of_ble_eq_true rfl⟩ s0o rfl rfl hl.1 rfl (Nat.le_of_ble_eq_true rfl) d_B_build_18 ⟨by dsimp only; omega, by dsimp only; omega⟩) hS (fun q _ h => h) (fun q h => h) (fun r w34 tS H locs ht hvm hw hB hz1 hk1 hS => ?_)
  have hP : fw_P (dC, dI) cls_ (AA s0) w34 H := by rw [← ht]; exact hB
  refine W.widen (k := 36) (n := 132) (by omega) (by omega) ?_
  obtain ⟨hr9, Fz1, rows1, hRS, hsub1, hnew1, hkeep1⟩ := hw
  have hRS : RS dA AD Fz1 (b_P β) wk rows1 w34 (bSess wk k β).2 := hRS
  have hr9 : r = (bSess wk k β).1 := hr9
  have h27 : w34 (AD 27) = _ := hkeep1 _ _ h27 (fun i hi => hinj.ne (by omega) (by omega) (by omega))
  obtain ⟨ft1, pl1, ⟨fc1, m1, m2, m3, m4, -⟩, -⟩ := (id hRS.2.1)
  have so := hRS.1.1
  refine lv_lstore_n (lv' := [(3, .long r), (0, .ref (AD 27)), (1, .int (nI wk)), (2, .int (nI k))]) hx hb d_B_build_21 rfl hl (by decide) rfl (fun ls hl => ?_)
  refine lv_aload_n hx hb d_B_build_22 rfl (lv_at hl 1 rfl) ?_
  refine va_get (D := (dC, dI)) (ci := 4) (v := .ref (AD 5)) (C := R_B) (T := F_B) (N := 4) hx hb hg in_B hown hK (hP.one h27) 0 rfl rfl 1 (by decide) (hg _ k_171) (fun _ h9 => h9) rfl d_B_build_23 ?_
  refine va_getN (D := (dC, dI)) (ci := 0) (v := .ref (AD 8)) (C := R_M) (T := F_M) (N := 4) hx hb hg in_M hown hK (hP.one m1) 0 rfl rfl 3 (by decide) (hn _ u_121) (fun _ h9 => h9) rfl d_B_build_26 ?_
  refine lv_iconst (v := (nI 5)) hx hb d_B_build_29 (by decide) ?_
  refine lv_dup2_11 hx hb d_B_build_30 rfl rfl ?_
  refine fw_iald (tys := tyl dA) hx hb hK hP m4 0 rfl (j := 5) (by omega) (by decide) d_B_build_31 ?_
  refine lv_iconst (v := (nI 1)) hx hb d_B_build_32 (by decide) ?_
  refine lv_iadd hx hb d_B_build_33 ?_
  refine fw_iast (tys := tyl dA) hx hb hK hP hS m4 0 rfl (j := 5) (x := (((s_ta (bSess wk k β).2) 5) + (nI 1))) (by omega) (by decide) d_B_build_34 (fun w35 H locs ew36 hP hS => ?_)
  have h27 : w35 (AD 27) = some (.inr (4, [.ref (AD 9), .ref (AD 5), .ref (AD 28), .ref (AD 0)])) := by rw [ew36, va_up_ne _ _ (hinj.ne (i := 27) (j := 8) (by omega) (by omega) (by omega))]; exact h27
  have m1 : w35 (AD 5) = some (.inr (0, [.ref (AD 6), .ref (AD 7), .int (nI pl1.length), .ref (AD 8)])) := by rw [ew36, va_up_ne _ _ (hinj.ne (i := 5) (j := 8) (by omega) (by omega) (by omega))]; exact m1
  have so : w35 (AD 0) = some (.inr (2, [.ref (AD 9), .ref (AD 5), .int (nI wk), .ref (AD 1), .ref (AD 2), .ref (AD 3), .ref (AD 4), .int (nI (s_ran (bSess wk k β).2).toNat), .int (nI (s_fl (bSess wk k β).2))])) := by rw [ew36, va_up_ne _ _ (hinj.ne (i := 0) (j := 8) (by omega) (by omega) (by omega))]; exact so
  have m4 : w35 (AD 8) = some (.inl (dA 0, 11, .inl (upd (s_ta (bSess wk k β).2) 5 (((s_ta (bSess wk k β).2) 5) + (nI 1))))) := by rw [ew36]; exact va_up_self _ _ _
  obtain ⟨hRS2, ho2⟩ := RS.tal hRS hinj.one ew36
  refine lv_aload_n hx hb d_B_build_35 rfl (lv_at hl 1 rfl) ?_
  refine va_get (D := (dC, dI)) (ci := 4) (v := .ref (AD 0)) (C := R_B) (T := F_B) (N := 4) hx hb hg in_B hown hK (hP.one h27) 0 rfl rfl 3 (by decide) (hg _ k_173) (fun _ h9 => h9) rfl d_B_build_36 ?_
  refine va_calli (rn_VN (n := 0) (As := []) (rest := []) (C := R_S) (T := F_S) (N := 9) (ci := 2) X hP hS (c_S_hasFailed B0 w35 AD Fz1 (b_P β) wk rows1 (sTal 5 (bSess wk k β).2) hinj.one hRS2) u_493 k_379 k_16 k_57 k_380 (by decide +kernel) rfl rfl ⟨Nat.le_of_ble_eq_true rfl, Nat.le_of_ble_eq_true rfl⟩ so rfl rfl hl.1 rfl (Nat.le_of_ble_eq_true rfl) d_B_build_39 ⟨Nat.le_of_ble_eq_true rfl, Nat.le_of_ble_eq_true rfl⟩) hS (fun q _ h => h) (fun q h => h) (fun r w37 tS H locs ht hvm hw hB hz1 hk1 hS => ?_)
  have hP : fw_P (dC, dI) cls_ (AA s0) w37 H := by rw [← ht]; exact hB
  obtain ⟨e9, b1, rfl, hb1⟩ := hw
  rw [e9] at hP
  refine nu_ifeq (tgt := 59) hx hb d_B_build_42 (by decide) (fun c1 => ?_) (fun c1 => ?_)
  · refine lv_aload_n hx hb d_B_build_59 rfl (lv_at hl 1 rfl) ?_
    refine va_get (D := (dC, dI)) (ci := 4) (v := .ref (AD 0)) (C := R_B) (T := F_B) (N := 4) hx hb hg in_B hown hK (hP.one h27) 0 rfl rfl 3 (by decide) (hg _ k_173) (fun _ h9 => h9) rfl d_B_build_60 ?_
    refine va_getN (D := (dC, dI)) (ci := 2) (v := .int (nI (s_fl (bSess wk k β).2))) (C := R_S) (T := F_S) (N := 9) hx hb hg in_S hown hK (hP.one so) 0 rfl rfl 8 (by decide) (hn _ u_149) (fun _ h9 => h9) rfl d_B_build_63 ?_
    refine va_callv (rn_S (n := 1) (As := [.int (nI (s_fl (bSess wk k β).2))]) (rest := []) X hP hS (c_B_throwF B0 w35 (s_fl (bSess wk k β).2) hfl) k_494 k_495 k_54 k_496 (by decide +kernel) rfl rfl ⟨Nat.le_of_ble_eq_true rfl, Nat.le_of_ble_eq_true rfl⟩ rfl hl.1 rfl (Nat.le_of_ble_eq_true rfl) d_B_build_66 ⟨Nat.le_of_ble_eq_true rfl, Nat.le_of_ble_eq_true rfl⟩) hS (fun q _ h => h) (fun q h => h) (fun w38 tS H locs ht hvm hw hB hz1 hk1 hS => ?_)
    have hP : fw_P (dC, dI) cls_ (AA s0) w38 H := by rw [← ht]; exact hB
    rw [hw] at hP
    refine lv_lload_n hx hb d_B_build_69 rfl (lv_at hl 0 rfl) ?_
    obtain ⟨hB3, ho3⟩ := RB.ofRS hRS2 hinj hR hnew1 (fun q e9 hq hn9 => (ho2 q hn9).trans (hkeep1 q e9 hq hn9))
    have hta : taB (bFl wk k β) (s_ta (bSess wk k β).2) = upd (s_ta (bSess wk k β).2) 5 (s_ta (bSess wk k β).2 5 + nI 1) := if_pos hfl
    exact W.lret (v := r) hx hb hr (fun tS ht hW => ⟨⟨r, w35, rfl, ⟨hr9, Fz1, (by show RB dA AD Fz1 w35 (b_P β) (s_tr (bSess wk k β).2) (s_cl (bSess wk k β).2) (taB (bFl wk k β) (s_ta (bSess wk k β).2)); rw [hta]; exact hB3), hnew1, ho3⟩, mB_of ht hP⟩, hS.F ht⟩) hS.2.2 d_B_build_70
  · exact absurd hfl (hb1.mp c1)
set_option maxHeartbeats 4000000 in
set_option maxRecDepth 100000 in
theorem t_B_buildN {l : Launch} {s0 : State} {dC : Nat → ClassId} {dI : Nat → Nat → Nat} {dA : Nat → ClassId} (B0 : BB s0 dC dI dA) (X0 : XX s0) (hlt : l.stackTraces = false) (w : fw_W) (AD : Nat → Nat) (Fz : Nat → Prop) (β : BS) (wk k : Nat) (hinj : Inj2 AD) (hR : RBb dA AD Fz w β) (hwk : wk < 2) (hk : k < 12) (hfl : bFl wk k β ≠ 0) : vx_Met l y_B_build [.code y_B_build b_B_build 5 (some .long)] ({ frames := 130, cells := 37, slots := 138, locals := 3140 }) (mP s0 dC dI w [.ref (AD 27), .int (nI wk), .int (nI k)]) Qno (mX s0 dC dI (fun E w' => E = exN (bFl wk k β) ∧ VB dA AD Fz w w' (bBuild wk k β))) 37 138 (AA s0) := by
  refine mt_ofX B0 (by decide) (Nat.le_of_ble_eq_true rfl) (fun p e s m args below meth c ls hargs X hnt hl hP => ?_)
  have X9 := X
  obtain ⟨hx, hb, hr, hml, hown, hg, hK, hn, hE, hlocks, hA⟩ := X9
  have hS : va_S (AA s0) s.heap s.heap [] := va_S.rf
  have hl : lv_has ls 5 [(0, .ref (AD 27)), (1, .int (nI wk)), (2, .int (nI k))] := hl
  obtain ⟨h27, hSI, hM4, hX4, hP6, ⟨hnF, hdm⟩, hpo, hrl⟩ := (id hR)
  obtain ⟨ft, pl, hM, hft, hpl⟩ := (id hM4)
  have m1 := hM.choose_spec.1
  have p0 := hP6.1
  have s0o := hSI.choose_spec.choose_spec.choose_spec.choose_spec.choose_spec.choose_spec.choose_spec.choose_spec.1
  refine lv_iload_n hx hb d_B_build_0 rfl (lv_at hl 1 rfl) ?_
  refine va_callv (rn_S (n := 1) (As := [.int (nI wk)]) (rest := []) X hP hS (c_B_refuseBadWorker B0 w (nI wk) (⟨wk, hwk, rfl⟩)) k_349 k_350 k_54 k_351 (by decide +kernel) rfl rfl ⟨Nat.le_of_ble_eq_true rfl, Nat.le_of_ble_eq_true rfl⟩ rfl hl.1 rfl (Nat.le_of_ble_eq_true rfl) d_B_build_1 ⟨Nat.le_of_ble_eq_true rfl, Nat.le_of_ble_eq_true rfl⟩) hS (fun q _ h => h) (fun q h => h) (fun w39 tS H locs ht hvm hw hB hz1 hk1 hS => ?_)
  have hP : fw_P (dC, dI) cls_ (AA s0) w39 H := by rw [← ht]; exact hB
  rw [hw] at hP
  refine lv_iload_n hx hb d_B_build_4 rfl (lv_at hl 2 rfl) ?_
  refine va_callv (rn_S (n := 1) (As := [.int (nI k)]) (rest := []) X hP hS (c_B_refuseBadKey B0 w (nI k) (⟨k, hk, rfl⟩)) k_203 k_204 k_54 k_205 (by decide +kernel) rfl rfl ⟨Nat.le_of_ble_eq_true rfl, Nat.le_of_ble_eq_true rfl⟩ rfl hl.1 rfl (Nat.le_of_ble_eq_true rfl) d_B_build_5 ⟨Nat.le_of_ble_eq_true rfl, Nat.le_of_ble_eq_true rfl⟩) hS (fun q _ h => h) (fun q h => h) (fun w40 tS H locs ht hvm hw hB hz1 hk1 hS => ?_)
  have hP : fw_P (dC, dI) cls_ (AA s0) w40 H := by rw [← ht]; exact hB
  rw [hw] at hP
  refine lv_aload_n hx hb d_B_build_8 rfl (lv_at hl 0 rfl) ?_
  refine va_get (D := (dC, dI)) (ci := 4) (v := .ref (AD 0)) (C := R_B) (T := F_B) (N := 4) hx hb hg in_B hown hK (hP.one h27) 0 rfl rfl 3 (by decide) (hg _ k_173) (fun _ h9 => h9) rfl d_B_build_9 ?_
  refine lv_aload_n hx hb d_B_build_12 rfl (lv_at hl 0 rfl) ?_
  refine va_get (D := (dC, dI)) (ci := 4) (v := .ref (AD 5)) (C := R_B) (T := F_B) (N := 4) hx hb hg in_B hown hK (hP.one h27) 0 rfl rfl 1 (by decide) (hg _ k_171) (fun _ h9 => h9) rfl d_B_build_13 ?_
  refine lv_iload_n hx hb d_B_build_16 rfl (lv_at hl 1 rfl) ?_
  refine lv_iload_n hx hb d_B_build_17 rfl (lv_at hl 2 rfl) ?_
  have hd9 := dm_12 (b_P β) wk k (b_tr β) (b_cl β) (b_ta β)
  refine va_calll (rn_VN (n := 3) (As := [.ref (AD 5), .int (nI wk), .int (nI k)]) (rest := []) (C := R_S) (T := F_S) (N := 9) (ci := 2) X hP hS (c_S_result B0 w AD Fz (b_P β) wk k (b_tr β) (b_cl β) (b_ta β) hinj.one hSI hM4 hP6 ⟨fun i hi => hnF i (by omega), hdm⟩ hk hpo hwk) u_352 k_354 k_10 k_57 k_355 (by decide +kernel) rfl rfl ⟨Nat.le_of_ble_eq_true rfl, Nat.le_of_ble_eq_true rfl⟩ s0o rfl rfl hl.1 rfl (Nat.le_of_ble_eq_true rfl) d_B_build_18 ⟨by dsimp only; omega, by dsimp only; omega⟩) hS (fun q _ h => h) (fun q h => h) (fun r w41 tS H locs ht hvm hw hB hz1 hk1 hS => ?_)
  have hP : fw_P (dC, dI) cls_ (AA s0) w41 H := by rw [← ht]; exact hB
  refine W.widen (k := 36) (n := 132) (by omega) (by omega) ?_
  obtain ⟨hr9, Fz1, rows1, hRS, hsub1, hnew1, hkeep1⟩ := hw
  have hRS : RS dA AD Fz1 (b_P β) wk rows1 w41 (bSess wk k β).2 := hRS
  have hr9 : r = (bSess wk k β).1 := hr9
  have h27 : w41 (AD 27) = _ := hkeep1 _ _ h27 (fun i hi => hinj.ne (by omega) (by omega) (by omega))
  obtain ⟨ft1, pl1, ⟨fc1, m1, m2, m3, m4, -⟩, -⟩ := (id hRS.2.1)
  have so := hRS.1.1
  refine lv_lstore_n (lv' := [(3, .long r), (0, .ref (AD 27)), (1, .int (nI wk)), (2, .int (nI k))]) hx hb d_B_build_21 rfl hl (by decide) rfl (fun ls hl => ?_)
  refine lv_aload_n hx hb d_B_build_22 rfl (lv_at hl 1 rfl) ?_
  refine va_get (D := (dC, dI)) (ci := 4) (v := .ref (AD 5)) (C := R_B) (T := F_B) (N := 4) hx hb hg in_B hown hK (hP.one h27) 0 rfl rfl 1 (by decide) (hg _ k_171) (fun _ h9 => h9) rfl d_B_build_23 ?_
  refine va_getN (D := (dC, dI)) (ci := 0) (v := .ref (AD 8)) (C := R_M) (T := F_M) (N := 4) hx hb hg in_M hown hK (hP.one m1) 0 rfl rfl 3 (by decide) (hn _ u_121) (fun _ h9 => h9) rfl d_B_build_26 ?_
  refine lv_iconst (v := (nI 5)) hx hb d_B_build_29 (by decide) ?_
  refine lv_dup2_11 hx hb d_B_build_30 rfl rfl ?_
  refine fw_iald (tys := tyl dA) hx hb hK hP m4 0 rfl (j := 5) (by omega) (by decide) d_B_build_31 ?_
  refine lv_iconst (v := (nI 1)) hx hb d_B_build_32 (by decide) ?_
  refine lv_iadd hx hb d_B_build_33 ?_
  refine fw_iast (tys := tyl dA) hx hb hK hP hS m4 0 rfl (j := 5) (x := (((s_ta (bSess wk k β).2) 5) + (nI 1))) (by omega) (by decide) d_B_build_34 (fun w42 H locs ew43 hP hS => ?_)
  have h27 : w42 (AD 27) = some (.inr (4, [.ref (AD 9), .ref (AD 5), .ref (AD 28), .ref (AD 0)])) := by rw [ew43, va_up_ne _ _ (hinj.ne (i := 27) (j := 8) (by omega) (by omega) (by omega))]; exact h27
  have m1 : w42 (AD 5) = some (.inr (0, [.ref (AD 6), .ref (AD 7), .int (nI pl1.length), .ref (AD 8)])) := by rw [ew43, va_up_ne _ _ (hinj.ne (i := 5) (j := 8) (by omega) (by omega) (by omega))]; exact m1
  have so : w42 (AD 0) = some (.inr (2, [.ref (AD 9), .ref (AD 5), .int (nI wk), .ref (AD 1), .ref (AD 2), .ref (AD 3), .ref (AD 4), .int (nI (s_ran (bSess wk k β).2).toNat), .int (nI (s_fl (bSess wk k β).2))])) := by rw [ew43, va_up_ne _ _ (hinj.ne (i := 0) (j := 8) (by omega) (by omega) (by omega))]; exact so
  have m4 : w42 (AD 8) = some (.inl (dA 0, 11, .inl (upd (s_ta (bSess wk k β).2) 5 (((s_ta (bSess wk k β).2) 5) + (nI 1))))) := by rw [ew43]; exact va_up_self _ _ _
  obtain ⟨hRS2, ho2⟩ := RS.tal hRS hinj.one ew43
  refine lv_aload_n hx hb d_B_build_35 rfl (lv_at hl 1 rfl) ?_
  refine va_get (D := (dC, dI)) (ci := 4) (v := .ref (AD 0)) (C := R_B) (T := F_B) (N := 4) hx hb hg in_B hown hK (hP.one h27) 0 rfl rfl 3 (by decide) (hg _ k_173) (fun _ h9 => h9) rfl d_B_build_36 ?_
  refine va_calli (rn_VN (n := 0) (As := []) (rest := []) (C := R_S) (T := F_S) (N := 9) (ci := 2) X hP hS (c_S_hasFailed B0 w42 AD Fz1 (b_P β) wk rows1 (sTal 5 (bSess wk k β).2) hinj.one hRS2) u_493 k_379 k_16 k_57 k_380 (by decide +kernel) rfl rfl ⟨Nat.le_of_ble_eq_true rfl, Nat.le_of_ble_eq_true rfl⟩ so rfl rfl hl.1 rfl (Nat.le_of_ble_eq_true rfl) d_B_build_39 ⟨Nat.le_of_ble_eq_true rfl, Nat.le_of_ble_eq_true rfl⟩) hS (fun q _ h => h) (fun q h => h) (fun r w44 tS H locs ht hvm hw hB hz1 hk1 hS => ?_)
  have hP : fw_P (dC, dI) cls_ (AA s0) w44 H := by rw [← ht]; exact hB
  obtain ⟨e9, b1, rfl, hb1⟩ := hw
  rw [e9] at hP
  refine nu_ifeq (tgt := 59) hx hb d_B_build_42 (by decide) (fun c1 => ?_) (fun c1 => ?_)
  · exact absurd (hb1.mpr hfl) (by rw [c1]; simp)
  · refine lv_aload_n hx hb d_B_build_45 rfl (lv_at hl 1 rfl) ?_
    refine va_get (D := (dC, dI)) (ci := 4) (v := .ref (AD 5)) (C := R_B) (T := F_B) (N := 4) hx hb hg in_B hown hK (hP.one h27) 0 rfl rfl 1 (by decide) (hg _ k_171) (fun _ h9 => h9) rfl d_B_build_46 ?_
    refine va_getN (D := (dC, dI)) (ci := 0) (v := .ref (AD 8)) (C := R_M) (T := F_M) (N := 4) hx hb hg in_M hown hK (hP.one m1) 0 rfl rfl 3 (by decide) (hn _ u_121) (fun _ h9 => h9) rfl d_B_build_49 ?_
    refine lv_bipush (v := (nI 6)) hx hb d_B_build_52 (by decide) ?_
    refine lv_dup2_11 hx hb d_B_build_54 rfl rfl ?_
    refine fw_iald (tys := tyl dA) hx hb hK hP m4 0 rfl (j := 6) (by omega) (by decide) d_B_build_55 ?_
    refine lv_iconst (v := (nI 1)) hx hb d_B_build_56 (by decide) ?_
    refine lv_iadd hx hb d_B_build_57 ?_
    refine fw_iast (tys := tyl dA) hx hb hK hP hS m4 0 rfl (j := 6) (x := (((upd (s_ta (bSess wk k β).2) 5 (((s_ta (bSess wk k β).2) 5) + (nI 1))) 6) + (nI 1))) (by omega) (by decide) d_B_build_58 (fun w45 H locs ew46 hP hS => ?_)
    have h27 : w45 (AD 27) = some (.inr (4, [.ref (AD 9), .ref (AD 5), .ref (AD 28), .ref (AD 0)])) := by rw [ew46, va_up_ne _ _ (hinj.ne (i := 27) (j := 8) (by omega) (by omega) (by omega))]; exact h27
    have m1 : w45 (AD 5) = some (.inr (0, [.ref (AD 6), .ref (AD 7), .int (nI pl1.length), .ref (AD 8)])) := by rw [ew46, va_up_ne _ _ (hinj.ne (i := 5) (j := 8) (by omega) (by omega) (by omega))]; exact m1
    have so : w45 (AD 0) = some (.inr (2, [.ref (AD 9), .ref (AD 5), .int (nI wk), .ref (AD 1), .ref (AD 2), .ref (AD 3), .ref (AD 4), .int (nI (s_ran (bSess wk k β).2).toNat), .int (nI (s_fl (bSess wk k β).2))])) := by rw [ew46, va_up_ne _ _ (hinj.ne (i := 0) (j := 8) (by omega) (by omega) (by omega))]; exact so
    have m4 : w45 (AD 8) = some (.inl (dA 0, 11, .inl (upd (upd (s_ta (bSess wk k β).2) 5 (((s_ta (bSess wk k β).2) 5) + (nI 1))) 6 (((upd (s_ta (bSess wk k β).2) 5 (((s_ta (bSess wk k β).2) 5) + (nI 1))) 6) + (nI 1))))) := by rw [ew46]; exact va_up_self _ _ _
    obtain ⟨hRS3, ho3⟩ := RS.tal hRS2 hinj.one (i := 6) ew46
    obtain ⟨hB3, ho4⟩ := RB.ofRS hRS3 hinj hR hnew1 (fun q e9 hq hn9 => (ho3 q hn9).trans ((ho2 q hn9).trans (hkeep1 q e9 hq hn9)))
    have hta : taB (bFl wk k β) (s_ta (bSess wk k β).2) = upd (upd (s_ta (bSess wk k β).2) 5 (s_ta (bSess wk k β).2 5 + nI 1)) 6 (upd (s_ta (bSess wk k β).2) 5 (s_ta (bSess wk k β).2 5 + nI 1) 6 + nI 1) := if_neg hfl
    have hVB : VB dA AD Fz w w45 (bBuild wk k β) := ⟨Fz1, (by show RB dA AD Fz1 w45 (b_P β) (s_tr (bSess wk k β).2) (s_cl (bSess wk k β).2) (taB (bFl wk k β) (s_ta (bSess wk k β).2)); rw [hta]; exact hB3), hnew1, ho4⟩
    refine lv_aload_n hx hb d_B_build_59 rfl (lv_at hl 1 rfl) ?_
    refine va_get (D := (dC, dI)) (ci := 4) (v := .ref (AD 0)) (C := R_B) (T := F_B) (N := 4) hx hb hg in_B hown hK (hP.one h27) 0 rfl rfl 3 (by decide) (hg _ k_173) (fun _ h9 => h9) rfl d_B_build_60 ?_
    refine va_getN (D := (dC, dI)) (ci := 2) (v := .int (nI (s_fl (bSess wk k β).2))) (C := R_S) (T := F_S) (N := 9) hx hb hg in_S hown hK (hP.one so) 0 rfl rfl 8 (by decide) (hn _ u_149) (fun _ h9 => h9) rfl d_B_build_63 ?_
    exact th_pass X hnt (rx_S (n := 1) (As := [.int (nI (s_fl (bSess wk k β).2))]) (rest := []) X hP hS (t_B_throwFailure B0 X0 hlt w45 (s_fl (bSess wk k β).2) (Nat.pos_of_ne_zero hfl) hRS.2.2.2.2) k_494 k_495 k_54 k_496 (by decide +kernel) rfl rfl ⟨Nat.le_of_ble_eq_true rfl, Nat.le_of_ble_eq_true rfl⟩ rfl hl.1 rfl (Nat.le_of_ble_eq_true rfl) d_B_build_66 ⟨Nat.le_of_ble_eq_true rfl, Nat.le_of_ble_eq_true rfl⟩) hS (fun E w9 h9 => ⟨h9.1, h9.2 ▸ hVB⟩) (Nat.le_of_ble_eq_true rfl) (Nat.le_of_ble_eq_true rfl)
set_option maxHeartbeats 4000000 in
set_option maxRecDepth 100000 in
theorem t_B_build {l : Launch} {s0 : State} {dC : Nat → ClassId} {dI : Nat → Nat → Nat} {dA : Nat → ClassId} (B0 : BB s0 dC dI dA) (X0 : XX s0) (hlt : l.stackTraces = false) (w : fw_W) (h : Nat) (x1 x2 : Int32) (ho : ¬ (okW x1 ∧ okK x2)) : vx_Met l y_B_build [.code y_B_build b_B_build 5 (some .long)] ({ frames := 7, cells := 1, slots := 6, locals := 130 }) (mP s0 dC dI w [.ref h, .int x1, .int x2]) Qno (mX s0 dC dI (fun E w' => E = E_IA ∧ w' = w)) 1 6 (AA s0) := by
  refine mt_ofX B0 (by decide) (Nat.le_of_ble_eq_true rfl) (fun p e s m args below meth c ls hargs X hnt hl hP => ?_)
  have X9 := X
  obtain ⟨hx, hb, hr, hml, hown, hg, hK, hn, hE, hlocks, hA⟩ := X9
  have hS : va_S (AA s0) s.heap s.heap [] := va_S.rf
  have hl : lv_has ls 5 [(0, .ref h), (1, .int x1), (2, .int x2)] := hl
  refine lv_iload_n hx hb d_B_build_0 rfl (lv_at hl 1 rfl) ?_
  rcases Classical.em (okW x1) with hw1 | hw1
  · refine va_callv (rn_S (n := 1) (As := [.int x1]) (rest := []) X hP hS (c_B_refuseBadWorker B0 w x1 hw1) k_349 k_350 k_54 k_351 (by decide +kernel) rfl rfl ⟨Nat.le_of_ble_eq_true rfl, Nat.le_of_ble_eq_true rfl⟩ rfl hl.1 rfl (Nat.le_of_ble_eq_true rfl) d_B_build_1 ⟨Nat.le_of_ble_eq_true rfl, Nat.le_of_ble_eq_true rfl⟩) hS (fun q _ h => h) (fun q h => h) (fun w47 tS H locs ht hvm hw hB hz1 hk1 hS => ?_)
    have hP : fw_P (dC, dI) cls_ (AA s0) w47 H := by rw [← ht]; exact hB
    rw [hw] at hP
    refine lv_iload_n hx hb d_B_build_4 rfl (lv_at hl 2 rfl) ?_
    exact th_pass X hnt (rx_S (n := 1) (As := [.int x2]) (rest := []) X hP hS (t_B_refuseBadKey B0 X0 hlt w x2 (fun h9 => ho ⟨hw1, h9⟩)) k_203 k_204 k_54 k_205 (by decide +kernel) rfl rfl ⟨Nat.le_of_ble_eq_true rfl, Nat.le_of_ble_eq_true rfl⟩ rfl hl.1 rfl (Nat.le_of_ble_eq_true rfl) d_B_build_5 ⟨Nat.le_of_ble_eq_true rfl, Nat.le_of_ble_eq_true rfl⟩) hS (fun _ _ h => h) (Nat.le_of_ble_eq_true rfl) (Nat.le_of_ble_eq_true rfl)
  · exact th_pass X hnt (rx_S (n := 1) (As := [.int x1]) (rest := []) X hP hS (t_B_refuseBadWorker B0 X0 hlt w x1 hw1) k_349 k_350 k_54 k_351 (by decide +kernel) rfl rfl ⟨Nat.le_of_ble_eq_true rfl, Nat.le_of_ble_eq_true rfl⟩ rfl hl.1 rfl (Nat.le_of_ble_eq_true rfl) d_B_build_1 ⟨Nat.le_of_ble_eq_true rfl, Nat.le_of_ble_eq_true rfl⟩) hS (fun _ _ h => h) (Nat.le_of_ble_eq_true rfl) (Nat.le_of_ble_eq_true rfl)
