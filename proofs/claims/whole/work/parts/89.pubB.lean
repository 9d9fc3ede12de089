set_option maxHeartbeats 4000000 in
set_option maxRecDepth 100000 in
theorem c_B_forget {l : Launch} {s0 : State} {dC : Nat → ClassId} {dI : Nat → Nat → Nat} {dA : Nat → ClassId} (B0 : BB s0 dC dI dA) (w : fw_W) (AD : Nat → Nat) (Fz : Nat → Prop) (β : BS) (wk : Nat) (hinj : Inj2 AD) (hR : RBb dA AD Fz w β) (hwk : wk < 2) : Met l y_B_forget [.code y_B_forget b_B_forget 2 (some .int)] ({ frames := 4, cells := 0, slots := 0, locals := 150 }) (mP s0 dC dI w [.ref (AD 27), .int (nI wk)]) (mQi s0 dC dI (fun r w' => r = nI (cntT (b_tr β) wk 12) ∧ VB dA AD Fz w w' (bForget wk β))) 0 0 (AA s0) := by
  refine mt_ofW B0 (by decide) (Nat.le_of_ble_eq_true rfl) (fun p e s m args below meth c ls hargs X hin hl hP => ?_)
  have X9 := X
  obtain ⟨hx, hb, hr, hml, hown, hg, hK, hn, hE, hlocks, hA⟩ := X9
  have hS : va_S (AA s0) s.heap s.heap [] := va_S.rf
  have hl : lv_has ls 2 [(0, .ref (AD 27)), (1, .int (nI wk))] := hl
  obtain ⟨h27, hSI, hM4, hX4, hP6, ⟨hnF, hdm⟩, hpo, hrl⟩ := (id hR)
  obtain ⟨ft, pl, hM, hft, hpl⟩ := (id hM4)
  have m1 := hM.choose_spec.1
  have p0 := hP6.1
  have s0o := hSI.choose_spec.choose_spec.choose_spec.choose_spec.choose_spec.choose_spec.choose_spec.choose_spec.1
  refine lv_iload_n hx hb d_B_forget_0 rfl (lv_at hl 1 rfl) ?_
  refine va_callv (rn_S (n := 1) (As := [.int (nI wk)]) (rest := []) X hP hS (c_B_refuseBadWorker B0 w (nI wk) (⟨wk, hwk, rfl⟩)) k_349 k_350 k_54 k_351 (by decide +kernel) rfl rfl ⟨Nat.le_of_ble_eq_true rfl, Nat.le_of_ble_eq_true rfl⟩ rfl hl.1 rfl (Nat.le_of_ble_eq_true rfl) d_B_forget_1 ⟨Nat.le_of_ble_eq_true rfl, Nat.le_of_ble_eq_true rfl⟩) hS (fun q _ h => h) (fun q h => h) (fun w16 tS H locs ht hvm hw hB hz1 hk1 hS => ?_)
  have hP : fw_P (dC, dI) cls_ (AA s0) w16 H := by rw [← ht]; exact hB
  rw [hw] at hP
  refine lv_aload_n hx hb d_B_forget_4 rfl (lv_at hl 0 rfl) ?_
  refine va_get (D := (dC, dI)) (ci := 4) (v := .ref (AD 5)) (C := R_B) (T := F_B) (N := 4) hx hb hg in_B hown hK (hP.one h27) 0 rfl rfl 1 (by decide) (hg _ k_171) (fun _ h9 => h9) rfl d_B_forget_5 ?_
  refine lv_iload_n hx hb d_B_forget_8 rfl (lv_at hl 1 rfl) ?_
  refine va_calli (rn_VN (n := 1) (As := [.int (nI wk)]) (rest := []) (C := R_M) (T := F_M) (N := 4) (ci := 0) X hP hS (c_M_dropTracesOf B0 w _ _ _ _ ft pl _ wk hM hwk) u_534 k_536 k_35 k_56 k_537 (by decide +kernel) rfl rfl ⟨Nat.le_of_ble_eq_true rfl, Nat.le_of_ble_eq_true rfl⟩ m1 rfl rfl hl.1 rfl (Nat.le_of_ble_eq_true rfl) d_B_forget_9 ⟨Nat.le_of_ble_eq_true rfl, Nat.le_of_ble_eq_true rfl⟩) hS (fun q _ h => h) (fun q h => h) (fun r w17 tS H locs ht hvm hw hB hz1 hk1 hS => ?_)
  have hP : fw_P (dC, dI) cls_ (AA s0) w17 H := by rw [← ht]; exact hB
  obtain ⟨rfl, hM2, hfr2⟩ := hw
  have hR2 := RB.mem hinj hR (fun z hz => hfr2 z (hz 6 (by omega) (by omega))) (M4.forg hft hpl hM2 (RB.fz hR (fun z hz => hfr2 z (hz 6 (by omega)))))
  exact W.iret (v := (nI (cntS ft wk 12))) hx hb hr (fun tS ht hW => ⟨⟨(nI (cntS ft wk 12)), w17, rfl, ⟨congrArg nI (cnt_eq hwk hft 12 (by omega)), VB.one (β' := bForget wk β) hR2⟩, mB_of ht hP⟩, hS.F ht⟩) hS.2.2 d_B_forget_12
set_option maxHeartbeats 4000000 in
set_option maxRecDepth 100000 in
theorem t_B_forget {l : Launch} {s0 : State} {dC : Nat → ClassId} {dI : Nat → Nat → Nat} {dA : Nat → ClassId} (B0 : BB s0 dC dI dA) (X0 : XX s0) (hlt : l.stackTraces = false) (w : fw_W) (h : Nat) (a : Int32) (ho : ¬ okW a) : vx_Met l y_B_forget [.code y_B_forget b_B_forget 2 (some .int)] ({ frames := 7, cells := 1, slots := 6, locals := 130 }) (mP s0 dC dI w [.ref h, .int a]) Qno (mX s0 dC dI (fun E w' => E = E_IA ∧ w' = w)) 1 6 (AA s0) := by
  refine mt_ofX B0 (by decide) (Nat.le_of_ble_eq_true rfl) (fun p e s m args below meth c ls hargs X hnt hl hP => ?_)
  have X9 := X
  obtain ⟨hx, hb, hr, hml, hown, hg, hK, hn, hE, hlocks, hA⟩ := X9
  have hS : va_S (AA s0) s.heap s.heap [] := va_S.rf
  have hl : lv_has ls 2 [(0, .ref h), (1, .int a)] := hl
  refine lv_iload_n hx hb d_B_forget_0 rfl (lv_at hl 1 rfl) ?_
  exact th_pass X hnt (rx_S (n := 1) (As := [.int a]) (rest := []) X hP hS (t_B_refuseBadWorker B0 X0 hlt w a ho) k_349 k_350 k_54 k_351 (by decide +kernel) rfl rfl ⟨Nat.le_of_ble_eq_true rfl, Nat.le_of_ble_eq_true rfl⟩ rfl hl.1 rfl (Nat.le_of_ble_eq_true rfl) d_B_forget_1 ⟨Nat.le_of_ble_eq_true rfl, Nat.le_of_ble_eq_true rfl⟩) hS (fun _ _ h => h) (Nat.le_of_ble_eq_true rfl) (Nat.le_of_ble_eq_true rfl)
set_option maxHeartbeats 4000000 in
set_option maxRecDepth 100000 in
theorem c_B_shrink {l : Launch} {s0 : State} {dC : Nat → ClassId} {dI : Nat → Nat → Nat} {dA : Nat → ClassId} (B0 : BB s0 dC dI dA) (w : fw_W) (AD : Nat → Nat) (Fz : Nat → Prop) (β : BS) (n0 : Nat) (hinj : Inj2 AD) (hR : RBb dA AD Fz w β) (hn0 : n0 ≤ 16) : Met l y_B_shrink [.code y_B_shrink b_B_shrink 2 (some .int)] ({ frames := 3, cells := 0, slots := 0, locals := 150 }) (mP s0 dC dI w [.ref (AD 27), .int (nI n0)]) (mQi s0 dC dI (fun r w' => r = nI ((b_cl β).length - n0) ∧ VB dA AD Fz w w' (bShrink n0 β))) 0 0 (AA s0) := by
  refine mt_ofW B0 (by decide) (Nat.le_of_ble_eq_true rfl) (fun p e s m args below meth c ls hargs X hin hl hP => ?_)
  have X9 := X
  obtain ⟨hx, hb, hr, hml, hown, hg, hK, hn, hE, hlocks, hA⟩ := X9
  have hS : va_S (AA s0) s.heap s.heap [] := va_S.rf
  have hl : lv_has ls 2 [(0, .ref (AD 27)), (1, .int (nI n0))] := hl
  obtain ⟨h27, hSI, hM4, hX4, hP6, ⟨hnF, hdm⟩, hpo, hrl⟩ := (id hR)
  obtain ⟨ft, pl, hM, hft, hpl⟩ := (id hM4)
  have m1 := hM.choose_spec.1
  have p0 := hP6.1
  have s0o := hSI.choose_spec.choose_spec.choose_spec.choose_spec.choose_spec.choose_spec.choose_spec.choose_spec.1
  refine lv_iload_n hx hb d_B_shrink_0 rfl (lv_at hl 1 rfl) ?_
  refine lv_if_lt (tgt := 10) hx hb d_B_shrink_1 (by decide) (fun c1 => ?_) (fun c1 => ?_)
  · exact absurd c1 (nI_nn (by omega))
  · refine lv_iload_n hx hb d_B_shrink_4 rfl (lv_at hl 1 rfl) ?_
    refine lv_bipush (v := (nI 16)) hx hb d_B_shrink_5 (by decide) ?_
    refine nu_le (tgt := 18) hx hb (by omega) (by omega) d_B_shrink_7 (by decide) (fun c2 => ?_) (fun c2 => ?_)
    · refine lv_aload_n hx hb d_B_shrink_18 rfl (lv_at hl 0 rfl) ?_
      refine va_get (D := (dC, dI)) (ci := 4) (v := .ref (AD 5)) (C := R_B) (T := F_B) (N := 4) hx hb hg in_B hown hK (hP.one h27) 0 rfl rfl 1 (by decide) (hg _ k_171) (fun _ h9 => h9) rfl d_B_shrink_19 ?_
      refine lv_iload_n hx hb d_B_shrink_22 rfl (lv_at hl 1 rfl) ?_
      refine va_calli (rn_VN (n := 1) (As := [.int (nI n0)]) (rest := []) (C := R_M) (T := F_M) (N := 4) (ci := 0) X hP hS (c_M_cut B0 w _ _ _ _ ft pl _ (owF w) n0 hM hpl.o hn0) u_546 k_491 k_34 k_56 k_492 (by decide +kernel) rfl rfl ⟨Nat.le_of_ble_eq_true rfl, Nat.le_of_ble_eq_true rfl⟩ m1 rfl rfl hl.1 rfl (Nat.le_of_ble_eq_true rfl) d_B_shrink_23 ⟨Nat.le_of_ble_eq_true rfl, Nat.le_of_ble_eq_true rfl⟩) hS (fun q _ h => h) (fun q h => h) (fun r w18 tS H locs ht hvm hw hB hz1 hk1 hS => ?_)
      have hP : fw_P (dC, dI) cls_ (AA s0) w18 H := by rw [← ht]; exact hB
      obtain ⟨rfl, hM2, hfr2⟩ := hw
      have hz2 : ∀ q, Fz q → w18 q = w q := RB.fz hR (fun z hz => hfr2 z (hz 5 (by omega)) (hz 7 (by omega)))
      have hll := hpl.1
      have hR2 := RB.mem (cl' := (b_cl β).drop ((b_cl β).length - n0)) hinj hR (fun z hz => hfr2 z (hz 5 (by omega) (by omega)) (hz 7 (by omega) (by omega))) ⟨ft, _, hM2, fun i hi => (hft i hi).kept hz2 (fun _ h => h), by rw [hll]; exact (hpl.drop _).kept hz2 (fun _ h => h)⟩
      exact W.iret (v := (nI (pl.length - n0))) hx hb hr (fun tS ht hW => ⟨⟨(nI (pl.length - n0)), w18, rfl, ⟨by rw [hll], VB.one (β' := bShrink n0 β) hR2⟩, mB_of ht hP⟩, hS.F ht⟩) hS.2.2 d_B_shrink_26
    · exact absurd c2 (by omega)
set_option maxHeartbeats 4000000 in
set_option maxRecDepth 100000 in
theorem t_B_shrink {l : Launch} {s0 : State} {dC : Nat → ClassId} {dI : Nat → Nat → Nat} {dA : Nat → ClassId} (B0 : BB s0 dC dI dA) (X0 : XX s0) (hlt : l.stackTraces = false) (w : fw_W) (h : Nat) (a : Int32) (ho : ¬ ∃ j, j ≤ 16 ∧ a = nI j) : vx_Met l y_B_shrink [.code y_B_shrink b_B_shrink 2 (some .int)] ({ frames := 7, cells := 1, slots := 6, locals := 130 }) (mP s0 dC dI w [.ref h, .int a]) Qno (mX s0 dC dI (fun E w' => E = E_IA ∧ w' = w)) 1 6 (AA s0) := by
  refine mt_ofX B0 (by decide) (Nat.le_of_ble_eq_true rfl) (fun p e s m args below meth c ls hargs X hnt hl hP => ?_)
  have X9 := X
  obtain ⟨hx, hb, hr, hml, hown, hg, hK, hn, hE, hlocks, hA⟩ := X9
  have hS : va_S (AA s0) s.heap s.heap [] := va_S.rf
  have hl : lv_has ls 2 [(0, .ref h), (1, .int a)] := hl
  refine lv_iload_n hx hb d_B_shrink_0 rfl (lv_at hl 1 rfl) ?_
  refine lv_if_lt (tgt := 10) hx hb d_B_shrink_1 (by decide) (fun c1 => ?_) (fun c1 => ?_)
  · exact th_0 B0 X0 hlt X hnt hP hS ex_IA ⟨rfl, rfl⟩ hl.1 d_B_shrink_10 d_B_shrink_13 d_B_shrink_14 d_B_shrink_17 (Nat.le_of_ble_eq_true rfl) (Nat.le_of_ble_eq_true rfl) (Nat.le_of_ble_eq_true rfl) (Nat.le_of_ble_eq_true rfl) (Nat.le_of_ble_eq_true rfl) (Nat.le_of_ble_eq_true rfl)
  · refine lv_iload_n hx hb d_B_shrink_4 rfl (lv_at hl 1 rfl) ?_
    refine lv_bipush (v := (nI 16)) hx hb d_B_shrink_5 (by decide) ?_
    refine lv_icmp_le (tgt := 18) hx hb d_B_shrink_7 (by decide) (fun c2 => ?_) (fun c2 => ?_)
    · obtain ⟨j9, hj9, rfl⟩ := nI_of c1
      exact absurd ⟨j9, (nI_leI hj9 (by omega)).mp c2, rfl⟩ ho
    · exact th_0 B0 X0 hlt X hnt hP hS ex_IA ⟨rfl, rfl⟩ hl.1 d_B_shrink_10 d_B_shrink_13 d_B_shrink_14 d_B_shrink_17 (Nat.le_of_ble_eq_true rfl) (Nat.le_of_ble_eq_true rfl) (Nat.le_of_ble_eq_true rfl) (Nat.le_of_ble_eq_true rfl) (Nat.le_of_ble_eq_true rfl) (Nat.le_of_ble_eq_true rfl)
set_option maxHeartbeats 4000000 in
set_option maxRecDepth 100000 in
theorem c_B_traceWith {l : Launch} {s0 : State} {dC : Nat → ClassId} {dI : Nat → Nat → Nat} {dA : Nat → ClassId} (B0 : BB s0 dC dI dA) (w : fw_W) (AD : Nat → Nat) (Fz : Nat → Prop) (β : BS) (wk k : Nat) (a : Int32) (T : tv) (hinj : Inj2 AD) (hR : RBb dA AD Fz w β) (hwk : wk < 2) (hk : k < 12) (hT : b_tr β (wk * 12 + k) = some T) (hi : okI T.2.1.length a) : Met l y_B_traceWith [.code y_B_traceWith b_B_traceWith 5 (some (.object "TraceBuilder$Trace"))] ({ frames := 2, cells := 0, slots := 0, locals := 60 }) (mP s0 dC dI w [.ref (AD 27), .int (nI wk), .int (nI k), .int a]) (mQq s0 dC dI (fun r w' => w' = w ∧ ∃ t, r = some t ∧ isT dA Fz w t T)) 0 0 (AA s0) := by
  refine mt_ofW B0 (by decide) (Nat.le_of_ble_eq_true rfl) (fun p e s m args below meth c ls hargs X hin hl hP => ?_)
  have X9 := X
  obtain ⟨hx, hb, hr, hml, hown, hg, hK, hn, hE, hlocks, hA⟩ := X9
  have hS : va_S (AA s0) s.heap s.heap [] := va_S.rf
  have hl : lv_has ls 5 [(0, .ref (AD 27)), (1, .int (nI wk)), (2, .int (nI k)), (3, .int a)] := hl
  obtain ⟨h27, hSI, hM4, hX4, hP6, ⟨hnF, hdm⟩, hpo, hrl⟩ := (id hR)
  obtain ⟨ft, pl, hM, hft, hpl⟩ := (id hM4)
  have m1 := hM.choose_spec.1
  have p0 := hP6.1
  have s0o := hSI.choose_spec.choose_spec.choose_spec.choose_spec.choose_spec.choose_spec.choose_spec.choose_spec.1
  refine lv_iload_n hx hb d_B_traceWith_0 rfl (lv_at hl 1 rfl) ?_
  refine va_callv (rn_S (n := 1) (As := [.int (nI wk)]) (rest := []) X hP hS (c_B_refuseBadWorker B0 w (nI wk) (⟨wk, hwk, rfl⟩)) k_349 k_350 k_54 k_351 (by decide +kernel) rfl rfl ⟨Nat.le_of_ble_eq_true rfl, Nat.le_of_ble_eq_true rfl⟩ rfl hl.1 rfl (Nat.le_of_ble_eq_true rfl) d_B_traceWith_1 ⟨Nat.le_of_ble_eq_true rfl, Nat.le_of_ble_eq_true rfl⟩) hS (fun q _ h => h) (fun q h => h) (fun w19 tS H locs ht hvm hw hB hz1 hk1 hS => ?_)
  have hP : fw_P (dC, dI) cls_ (AA s0) w19 H := by rw [← ht]; exact hB
  rw [hw] at hP
  refine lv_iload_n hx hb d_B_traceWith_4 rfl (lv_at hl 2 rfl) ?_
  refine va_callv (rn_S (n := 1) (As := [.int (nI k)]) (rest := []) X hP hS (c_B_refuseBadKey B0 w (nI k) (⟨k, hk, rfl⟩)) k_203 k_204 k_54 k_205 (by decide +kernel) rfl rfl ⟨Nat.le_of_ble_eq_true rfl, Nat.le_of_ble_eq_true rfl⟩ rfl hl.1 rfl (Nat.le_of_ble_eq_true rfl) d_B_traceWith_5 ⟨Nat.le_of_ble_eq_true rfl, Nat.le_of_ble_eq_true rfl⟩) hS (fun q _ h => h) (fun q h => h) (fun w20 tS H locs ht hvm hw hB hz1 hk1 hS => ?_)
  have hP : fw_P (dC, dI) cls_ (AA s0) w20 H := by rw [← ht]; exact hB
  rw [hw] at hP
  refine lv_aload_n hx hb d_B_traceWith_8 rfl (lv_at hl 0 rfl) ?_
  refine va_get (D := (dC, dI)) (ci := 4) (v := .ref (AD 5)) (C := R_B) (T := F_B) (N := 4) hx hb hg in_B hown hK (hP.one h27) 0 rfl rfl 1 (by decide) (hg _ k_171) (fun _ h9 => h9) rfl d_B_traceWith_9 ?_
  refine lv_iload_n hx hb d_B_traceWith_12 rfl (lv_at hl 1 rfl) ?_
  refine lv_iload_n hx hb d_B_traceWith_13 rfl (lv_at hl 2 rfl) ?_
  refine va_callq (rn_VN (n := 2) (As := [.int (nI wk), .int (nI k)]) (rest := []) (C := R_M) (T := F_M) (N := 4) (ci := 0) X hP hS (c_M_traceOf B0 w _ _ _ _ ft pl _ wk k hM hwk hk) u_558 k_193 k_1 k_56 k_194 (by decide +kernel) rfl rfl ⟨Nat.le_of_ble_eq_true rfl, Nat.le_of_ble_eq_true rfl⟩ m1 rfl rfl hl.1 rfl (Nat.le_of_ble_eq_true rfl) d_B_traceWith_14 ⟨Nat.le_of_ble_eq_true rfl, Nat.le_of_ble_eq_true rfl⟩) hS (fun q _ h => h) (fun q h => h) (fun r w21 tS H locs ht hvm hw hB hz1 hk1 hS => ?_)
  have hP : fw_P (dC, dI) cls_ (AA s0) w21 H := by rw [← ht]; exact hB
  obtain ⟨e9, hr9⟩ := hw
  rw [e9] at hP
  have hq9 := hft (wk * 12 + k) (by omega)
  rw [hT] at hq9
  obtain ⟨t, ht9, hT9⟩ := rT_some hq9
  rw [ht9] at hr9
  subst hr9
  obtain ⟨⟨kt, vt, ⟨fk, fv, ta1, ta2, ta3, hL3, hLf⟩, -⟩, -⟩ := (id hT9)
  refine lv_astore (lv' := [(4, .ref t), (0, .ref (AD 27)), (1, .int (nI wk)), (2, .int (nI k)), (3, .int a)]) hx hb d_B_traceWith_17 hl (by decide) rfl (fun ls hl => ?_)
  refine lv_aload hx hb d_B_traceWith_19 (lv_at hl 0 rfl) ?_
  refine lv_ifnull hx hb d_B_traceWith_21 ?_
  refine lv_iload_n hx hb d_B_traceWith_24 rfl (lv_at hl 4 rfl) ?_
  refine lv_iconst (v := (-1)) hx hb d_B_traceWith_25 (by decide) ?_
  obtain ⟨hi1, hi2⟩ := okI_1 hi (by omega)
  refine lv_icmp_lt (tgt := 38) hx hb d_B_traceWith_26 (by decide) (fun c1 => ?_) (fun c1 => ?_)
  · exact absurd c1 hi1
  · refine lv_iload_n hx hb d_B_traceWith_29 rfl (lv_at hl 4 rfl) ?_
    refine lv_aload hx hb d_B_traceWith_30 (lv_at hl 0 rfl) ?_
    refine va_getN (D := (dC, dI)) (ci := 3) (v := .int (nI T.2.1.length)) (C := R_T) (T := F_T) (N := 5) hx hb hg in_T hown hK (hP.one ta1) 0 rfl rfl 3 (by decide) (hn _ u_414) (fun _ h9 => h9) rfl d_B_traceWith_32 ?_
    refine lv_icmp_lt (tgt := 46) hx hb d_B_traceWith_35 (by decide) (fun c2 => ?_) (fun c2 => ?_)
    · refine lv_aload hx hb d_B_traceWith_46 (lv_at hl 0 rfl) ?_
      exact W.aret (v := .ref t) hx hb hr (Or.inl ⟨_, rfl⟩) (Or.inr ⟨_, rfl⟩) (fun tS ht hW => ⟨⟨(some t), w, rfl, ⟨rfl, t, rfl, hT9⟩, mB_of ht hP⟩, hS.F ht⟩) hS.2.2 d_B_traceWith_48
    · exact absurd hi2 c2
set_option maxHeartbeats 4000000 in
set_option maxRecDepth 100000 in
theorem t_B_traceWith {l : Launch} {s0 : State} {dC : Nat → ClassId} {dI : Nat → Nat → Nat} {dA : Nat → ClassId} (B0 : BB s0 dC dI dA) (X0 : XX s0) (hlt : l.stackTraces = false) (w : fw_W) (h : Nat) (x1 x2 a : Int32) (ho : ¬ (okW x1 ∧ okK x2)) : vx_Met l y_B_traceWith [.code y_B_traceWith b_B_traceWith 5 (some (.object "TraceBuilder$Trace"))] ({ frames := 7, cells := 1, slots := 6, locals := 130 }) (mP s0 dC dI w [.ref h, .int x1, .int x2, .int a]) Qno (mX s0 dC dI (fun E w' => E = E_IA ∧ w' = w)) 1 6 (AA s0) := by
  refine mt_ofX B0 (by decide) (Nat.le_of_ble_eq_true rfl) (fun p e s m args below meth c ls hargs X hnt hl hP => ?_)
  have X9 := X
  obtain ⟨hx, hb, hr, hml, hown, hg, hK, hn, hE, hlocks, hA⟩ := X9
  have hS : va_S (AA s0) s.heap s.heap [] := va_S.rf
  have hl : lv_has ls 5 [(0, .ref h), (1, .int x1), (2, .int x2), (3, .int a)] := hl
  refine lv_iload_n hx hb d_B_traceWith_0 rfl (lv_at hl 1 rfl) ?_
  rcases Classical.em (okW x1) with hw1 | hw1
  · refine va_callv (rn_S (n := 1) (As := [.int x1]) (rest := []) X hP hS (c_B_refuseBadWorker B0 w x1 hw1) k_349 k_350 k_54 k_351 (by decide +kernel) rfl rfl ⟨Nat.le_of_ble_eq_true rfl, Nat.le_of_ble_eq_true rfl⟩ rfl hl.1 rfl (Nat.le_of_ble_eq_true rfl) d_B_traceWith_1 ⟨Nat.le_of_ble_eq_true rfl, Nat.le_of_ble_eq_true rfl⟩) hS (fun q _ h => h) (fun q h => h) (fun w22 tS H locs ht hvm hw hB hz1 hk1 hS => ?_)
    have hP : fw_P (dC, dI) cls_ (AA s0) w22 H := by rw [← ht]; exact hB
    rw [hw] at hP
    refine lv_iload_n hx hb d_B_traceWith_4 rfl (lv_at hl 2 rfl) ?_
    exact th_pass X hnt (rx_S (n := 1) (As := [.int x2]) (rest := []) X hP hS (t_B_refuseBadKey B0 X0 hlt w x2 (fun h9 => ho ⟨hw1, h9⟩)) k_203 k_204 k_54 k_205 (by decide +kernel) rfl rfl ⟨Nat.le_of_ble_eq_true rfl, Nat.le_of_ble_eq_true rfl⟩ rfl hl.1 rfl (Nat.le_of_ble_eq_true rfl) d_B_traceWith_5 ⟨Nat.le_of_ble_eq_true rfl, Nat.le_of_ble_eq_true rfl⟩) hS (fun _ _ h => h) (Nat.le_of_ble_eq_true rfl) (Nat.le_of_ble_eq_true rfl)
  · exact th_pass X hnt (rx_S (n := 1) (As := [.int x1]) (rest := []) X hP hS (t_B_refuseBadWorker B0 X0 hlt w x1 hw1) k_349 k_350 k_54 k_351 (by decide +kernel) rfl rfl ⟨Nat.le_of_ble_eq_true rfl, Nat.le_of_ble_eq_true rfl⟩ rfl hl.1 rfl (Nat.le_of_ble_eq_true rfl) d_B_traceWith_1 ⟨Nat.le_of_ble_eq_true rfl, Nat.le_of_ble_eq_true rfl⟩) hS (fun _ _ h => h) (Nat.le_of_ble_eq_true rfl) (Nat.le_of_ble_eq_true rfl)
set_option maxHeartbeats 4000000 in
set_option maxRecDepth 100000 in
theorem t_B_traceWithN {l : Launch} {s0 : State} {dC : Nat → ClassId} {dI : Nat → Nat → Nat} {dA : Nat → ClassId} (B0 : BB s0 dC dI dA) (X0 : XX s0) (hlt : l.stackTraces = false) (w : fw_W) (AD : Nat → Nat) (Fz : Nat → Prop) (β : BS) (wk k : Nat) (a : Int32) (hinj : Inj2 AD) (hR : RBb dA AD Fz w β) (hwk : wk < 2) (hk : k < 12) (hT : ∀ T, b_tr β (wk * 12 + k) = some T → ¬ okI T.2.1.length a) : vx_Met l y_B_traceWith [.code y_B_traceWith b_B_traceWith 5 (some (.object "TraceBuilder$Trace"))] ({ frames := 7, cells := 1, slots := 6, locals := 130 }) (mP s0 dC dI w [.ref (AD 27), .int (nI wk), .int (nI k), .int a]) Qno (mX s0 dC dI (fun E w' => E = E_NE ∧ w' = w)) 1 6 (AA s0) := by
  refine mt_ofX B0 (by decide) (Nat.le_of_ble_eq_true rfl) (fun p e s m args below meth c ls hargs X hnt hl hP => ?_)
  have X9 := X
  obtain ⟨hx, hb, hr, hml, hown, hg, hK, hn, hE, hlocks, hA⟩ := X9
  have hS : va_S (AA s0) s.heap s.heap [] := va_S.rf
  have hl : lv_has ls 5 [(0, .ref (AD 27)), (1, .int (nI wk)), (2, .int (nI k)), (3, .int a)] := hl
  obtain ⟨h27, hSI, hM4, hX4, hP6, ⟨hnF, hdm⟩, hpo, hrl⟩ := (id hR)
  obtain ⟨ft, pl, hM, hft, hpl⟩ := (id hM4)
  have m1 := hM.choose_spec.1
  have p0 := hP6.1
  have s0o := hSI.choose_spec.choose_spec.choose_spec.choose_spec.choose_spec.choose_spec.choose_spec.choose_spec.1
  refine lv_iload_n hx hb d_B_traceWith_0 rfl (lv_at hl 1 rfl) ?_
  refine va_callv (rn_S (n := 1) (As := [.int (nI wk)]) (rest := []) X hP hS (c_B_refuseBadWorker B0 w (nI wk) (⟨wk, hwk, rfl⟩)) k_349 k_350 k_54 k_351 (by decide +kernel) rfl rfl ⟨Nat.le_of_ble_eq_true rfl, Nat.le_of_ble_eq_true rfl⟩ rfl hl.1 rfl (Nat.le_of_ble_eq_true rfl) d_B_traceWith_1 ⟨Nat.le_of_ble_eq_true rfl, Nat.le_of_ble_eq_true rfl⟩) hS (fun q _ h => h) (fun q h => h) (fun w23 tS H locs ht hvm hw hB hz1 hk1 hS => ?_)
  have hP : fw_P (dC, dI) cls_ (AA s0) w23 H := by rw [← ht]; exact hB
  rw [hw] at hP
  refine lv_iload_n hx hb d_B_traceWith_4 rfl (lv_at hl 2 rfl) ?_
  refine va_callv (rn_S (n := 1) (As := [.int (nI k)]) (rest := []) X hP hS (c_B_refuseBadKey B0 w (nI k) (⟨k, hk, rfl⟩)) k_203 k_204 k_54 k_205 (by decide +kernel) rfl rfl ⟨Nat.le_of_ble_eq_true rfl, Nat.le_of_ble_eq_true rfl⟩ rfl hl.1 rfl (Nat.le_of_ble_eq_true rfl) d_B_traceWith_5 ⟨Nat.le_of_ble_eq_true rfl, Nat.le_of_ble_eq_true rfl⟩) hS (fun q _ h => h) (fun q h => h) (fun w24 tS H locs ht hvm hw hB hz1 hk1 hS => ?_)
  have hP : fw_P (dC, dI) cls_ (AA s0) w24 H := by rw [← ht]; exact hB
  rw [hw] at hP
  refine lv_aload_n hx hb d_B_traceWith_8 rfl (lv_at hl 0 rfl) ?_
  refine va_get (D := (dC, dI)) (ci := 4) (v := .ref (AD 5)) (C := R_B) (T := F_B) (N := 4) hx hb hg in_B hown hK (hP.one h27) 0 rfl rfl 1 (by decide) (hg _ k_171) (fun _ h9 => h9) rfl d_B_traceWith_9 ?_
  refine lv_iload_n hx hb d_B_traceWith_12 rfl (lv_at hl 1 rfl) ?_
  refine lv_iload_n hx hb d_B_traceWith_13 rfl (lv_at hl 2 rfl) ?_
  refine va_callq (rn_VN (n := 2) (As := [.int (nI wk), .int (nI k)]) (rest := []) (C := R_M) (T := F_M) (N := 4) (ci := 0) X hP hS (c_M_traceOf B0 w _ _ _ _ ft pl _ wk k hM hwk hk) u_558 k_193 k_1 k_56 k_194 (by decide +kernel) rfl rfl ⟨Nat.le_of_ble_eq_true rfl, Nat.le_of_ble_eq_true rfl⟩ m1 rfl rfl hl.1 rfl (Nat.le_of_ble_eq_true rfl) d_B_traceWith_14 ⟨Nat.le_of_ble_eq_true rfl, Nat.le_of_ble_eq_true rfl⟩) hS (fun q _ h => h) (fun q h => h) (fun r w25 tS H locs ht hvm hw hB hz1 hk1 hS => ?_)
  have hP : fw_P (dC, dI) cls_ (AA s0) w25 H := by rw [← ht]; exact hB
  obtain ⟨e9, rfl⟩ := hw
  rw [e9] at hP
  have hq9 := hft (wk * 12 + k) (by omega)
  rcases hq : ft (wk * 12 + k) with _ | t
  · refine lv_astoreN (lv' := [(4, .null), (0, .ref (AD 27)), (1, .int (nI wk)), (2, .int (nI k)), (3, .int a)]) hx hb d_B_traceWith_17 hl (by decide) rfl (fun ls hl => ?_)
    refine lv_aloadN hx hb d_B_traceWith_19 (lv_at hl 0 rfl) ?_
    refine lv_ifnullN (tgt := 38) hx hb d_B_traceWith_21 (by decide) ?_
    exact th_0 B0 X0 hlt X hnt hP hS ex_NE ⟨rfl, rfl⟩ hl.1 d_B_traceWith_38 d_B_traceWith_41 d_B_traceWith_42 d_B_traceWith_45 (Nat.le_of_ble_eq_true rfl) (Nat.le_of_ble_eq_true rfl) (Nat.le_of_ble_eq_true rfl) (Nat.le_of_ble_eq_true rfl) (Nat.le_of_ble_eq_true rfl) (Nat.le_of_ble_eq_true rfl)
  · rw [hq] at hq9
    obtain ⟨T, hT8, hT9⟩ := rT_some2 hq9
    obtain ⟨⟨kt, vt, ⟨fk, fv, ta1, ta2, ta3, hL3, hLf⟩, -⟩, -⟩ := (id hT9)
    refine lv_astore (lv' := [(4, .ref t), (0, .ref (AD 27)), (1, .int (nI wk)), (2, .int (nI k)), (3, .int a)]) hx hb d_B_traceWith_17 hl (by decide) rfl (fun ls hl => ?_)
    refine lv_aload hx hb d_B_traceWith_19 (lv_at hl 0 rfl) ?_
    refine lv_ifnull hx hb d_B_traceWith_21 ?_
    refine lv_iload_n hx hb d_B_traceWith_24 rfl (lv_at hl 4 rfl) ?_
    refine lv_iconst (v := (-1)) hx hb d_B_traceWith_25 (by decide) ?_
    refine lv_icmp_lt (tgt := 38) hx hb d_B_traceWith_26 (by decide) (fun c1 => ?_) (fun c1 => ?_)
    · exact th_0 B0 X0 hlt X hnt hP hS ex_NE ⟨rfl, rfl⟩ hl.1 d_B_traceWith_38 d_B_traceWith_41 d_B_traceWith_42 d_B_traceWith_45 (Nat.le_of_ble_eq_true rfl) (Nat.le_of_ble_eq_true rfl) (Nat.le_of_ble_eq_true rfl) (Nat.le_of_ble_eq_true rfl) (Nat.le_of_ble_eq_true rfl) (Nat.le_of_ble_eq_true rfl)
    · refine lv_iload_n hx hb d_B_traceWith_29 rfl (lv_at hl 4 rfl) ?_
      refine lv_aload hx hb d_B_traceWith_30 (lv_at hl 0 rfl) ?_
      refine va_getN (D := (dC, dI)) (ci := 3) (v := .int (nI T.2.1.length)) (C := R_T) (T := F_T) (N := 5) hx hb hg in_T hown hK (hP.one ta1) 0 rfl rfl 3 (by decide) (hn _ u_414) (fun _ h9 => h9) rfl d_B_traceWith_32 ?_
      refine lv_icmp_lt (tgt := 46) hx hb d_B_traceWith_35 (by decide) (fun c2 => ?_) (fun c2 => ?_)
      · exact absurd (okI_2 (by omega) c1 c2) (hT T hT8)
      · exact th_0 B0 X0 hlt X hnt hP hS ex_NE ⟨rfl, rfl⟩ hl.1 d_B_traceWith_38 d_B_traceWith_41 d_B_traceWith_42 d_B_traceWith_45 (Nat.le_of_ble_eq_true rfl) (Nat.le_of_ble_eq_true rfl) (Nat.le_of_ble_eq_true rfl) (Nat.le_of_ble_eq_true rfl) (Nat.le_of_ble_eq_true rfl) (Nat.le_of_ble_eq_true rfl)
set_option maxHeartbeats 4000000 in
set_option maxRecDepth 100000 in
theorem c_B_trace {l : Launch} {s0 : State} {dC : Nat → ClassId} {dI : Nat → Nat → Nat} {dA : Nat → ClassId} (B0 : BB s0 dC dI dA) (w : fw_W) (AD : Nat → Nat) (Fz : Nat → Prop) (β : BS) (wk k : Nat) (a : Int32) (T : tv) (hinj : Inj2 AD) (hR : RBb dA AD Fz w β) (hwk : wk < 2) (hk : k < 12) (hT : b_tr β (wk * 12 + k) = some T) (hi : okI T.2.1.length a) : Met l y_B_trace [.code y_B_trace b_B_trace 5 (some .int)] ({ frames := 3, cells := 0, slots := 0, locals := 100 }) (mP s0 dC dI w [.ref (AD 27), .int (nI wk), .int (nI k), .int a]) (mQi s0 dC dI (fun r w' => w' = w ∧ r = trI T a)) 0 0 (AA s0) := by
  refine mt_ofW B0 (by decide) (Nat.le_of_ble_eq_true rfl) (fun p e s m args below meth c ls hargs X hin hl hP => ?_)
  have X9 := X
  obtain ⟨hx, hb, hr, hml, hown, hg, hK, hn, hE, hlocks, hA⟩ := X9
  have hS : va_S (AA s0) s.heap s.heap [] := va_S.rf
  have hl : lv_has ls 5 [(0, .ref (AD 27)), (1, .int (nI wk)), (2, .int (nI k)), (3, .int a)] := hl
  obtain ⟨h27, hSI, hM4, hX4, hP6, ⟨hnF, hdm⟩, hpo, hrl⟩ := (id hR)
  obtain ⟨ft, pl, hM, hft, hpl⟩ := (id hM4)
  have m1 := hM.choose_spec.1
  have p0 := hP6.1
  have s0o := hSI.choose_spec.choose_spec.choose_spec.choose_spec.choose_spec.choose_spec.choose_spec.choose_spec.1
  refine lv_aload_n hx hb d_B_trace_0 rfl (lv_at hl 0 rfl) ?_
  refine lv_iload_n hx hb d_B_trace_1 rfl (lv_at hl 1 rfl) ?_
  refine lv_iload_n hx hb d_B_trace_2 rfl (lv_at hl 2 rfl) ?_
  refine lv_iload_n hx hb d_B_trace_3 rfl (lv_at hl 3 rfl) ?_
  refine va_callq (rn_V (n := 3) (As := [.int (nI wk), .int (nI k), .int a]) (rest := []) (C := R_B) (T := F_B) (N := 4) (ci := 4) X hP hS (c_B_traceWith B0 w AD Fz β wk k a T hinj hR hwk hk hT hi) k_554 k_556 k_36 k_54 k_557 (by decide +kernel) rfl rfl ⟨Nat.le_of_ble_eq_true rfl, Nat.le_of_ble_eq_true rfl⟩ h27 rfl rfl hl.1 rfl (Nat.le_of_ble_eq_true rfl) d_B_trace_4 ⟨Nat.le_of_ble_eq_true rfl, Nat.le_of_ble_eq_true rfl⟩) hS (fun q _ h => h) (fun q h => h) (fun r w26 tS H locs ht hvm hw hB hz1 hk1 hS => ?_)
  have hP : fw_P (dC, dI) cls_ (AA s0) w26 H := by rw [← ht]; exact hB
  obtain ⟨e9, t, rfl, hT9⟩ := hw
  rw [e9] at hP
  obtain ⟨⟨kt, vt, ⟨fk, fv, ta1, ta2, ta3, hL3, hLf⟩, -⟩, -⟩ := (id hT9)
  refine lv_astore (lv' := [(4, .ref t), (0, .ref (AD 27)), (1, .int (nI wk)), (2, .int (nI k)), (3, .int a)]) hx hb d_B_trace_7 hl (by decide) rfl (fun ls hl => ?_)
  refine lv_iload_n hx hb d_B_trace_9 rfl (lv_at hl 4 rfl) ?_
  refine lv_iconst (v := (-1)) hx hb d_B_trace_10 (by decide) ?_
  refine lv_icmp_ne (tgt := 22) hx hb d_B_trace_11 (by decide) (fun c1 => ?_) (fun c1 => ?_)
  · obtain ⟨j, hj, rfl⟩ := hi.resolve_left c1
    refine lv_aload hx hb d_B_trace_22 (lv_at hl 0 rfl) ?_
    refine va_getN (D := (dC, dI)) (ci := 3) (v := .ref kt) (C := R_T) (T := F_T) (N := 5) hx hb hg in_T hown hK (hP.one ta1) 0 rfl rfl 1 (by decide) (hn _ u_408) (fun _ h9 => h9) rfl d_B_trace_24 ?_
    refine lv_iload_n hx hb d_B_trace_27 rfl (lv_at hl 4 rfl) ?_
    refine fw_iald (tys := tyl dA) hx hb hK hP ta2 0 rfl (j := j) (by omega) (by decide) d_B_trace_28 ?_
    exact W.iret (v := (fk j)) hx hb hr (fun tS ht hW => ⟨⟨(fk j), w, rfl, ⟨rfl, by have h9 := hLf j _ (getD_at hj); unfold trI; rw [if_neg c1, nI_clamp (by omega)]; exact h9.1⟩, mB_of ht hP⟩, hS.F ht⟩) hS.2.2 d_B_trace_29
  · refine lv_aload hx hb d_B_trace_14 (lv_at hl 0 rfl) ?_
    refine va_getN (D := (dC, dI)) (ci := 3) (v := .int (nI T.2.1.length)) (C := R_T) (T := F_T) (N := 5) hx hb hg in_T hown hK (hP.one ta1) 0 rfl rfl 3 (by decide) (hn _ u_414) (fun _ h9 => h9) rfl d_B_trace_16 ?_
    refine lv_goto (tgt := 29) hx hb d_B_trace_19 (by decide) ?_
    exact W.iret (v := (nI T.2.1.length)) hx hb hr (fun tS ht hW => ⟨⟨(nI T.2.1.length), w, rfl, ⟨rfl, by unfold trI; rw [if_pos c1]⟩, mB_of ht hP⟩, hS.F ht⟩) hS.2.2 d_B_trace_29
set_option maxHeartbeats 4000000 in
set_option maxRecDepth 100000 in
theorem t_B_trace {l : Launch} {s0 : State} {dC : Nat → ClassId} {dI : Nat → Nat → Nat} {dA : Nat → ClassId} (B0 : BB s0 dC dI dA) (X0 : XX s0) (hlt : l.stackTraces = false) (w : fw_W) (h : Nat) (x1 x2 a : Int32) (fs : List Value) (hh : w h = some (.inr (4, fs))) (ho : ¬ (okW x1 ∧ okK x2)) : vx_Met l y_B_trace [.code y_B_trace b_B_trace 5 (some .int)] ({ frames := 8, cells := 1, slots := 6, locals := 170 }) (mP s0 dC dI w [.ref h, .int x1, .int x2, .int a]) Qno (mX s0 dC dI (fun E w' => E = E_IA ∧ w' = w)) 1 6 (AA s0) := by
  refine mt_ofX B0 (by decide) (Nat.le_of_ble_eq_true rfl) (fun p e s m args below meth c ls hargs X hnt hl hP => ?_)
  have X9 := X
  obtain ⟨hx, hb, hr, hml, hown, hg, hK, hn, hE, hlocks, hA⟩ := X9
  have hS : va_S (AA s0) s.heap s.heap [] := va_S.rf
  have hl : lv_has ls 5 [(0, .ref h), (1, .int x1), (2, .int x2), (3, .int a)] := hl
  refine lv_aload_n hx hb d_B_trace_0 rfl (lv_at hl 0 rfl) ?_
  refine lv_iload_n hx hb d_B_trace_1 rfl (lv_at hl 1 rfl) ?_
  refine lv_iload_n hx hb d_B_trace_2 rfl (lv_at hl 2 rfl) ?_
  refine lv_iload_n hx hb d_B_trace_3 rfl (lv_at hl 3 rfl) ?_
  exact th_pass X hnt (rx_V (n := 3) (As := [.int x1, .int x2, .int a]) (rest := []) (C := R_B) (T := F_B) (N := 4) (ci := 4) X hP hS (t_B_traceWith B0 X0 hlt w h x1 x2 a ho) k_554 k_556 k_36 k_54 k_557 (by decide +kernel) rfl rfl ⟨Nat.le_of_ble_eq_true rfl, Nat.le_of_ble_eq_true rfl⟩ hh rfl rfl hl.1 rfl (Nat.le_of_ble_eq_true rfl) d_B_trace_4 ⟨Nat.le_of_ble_eq_true rfl, Nat.le_of_ble_eq_true rfl⟩) hS (fun _ _ h => h) (Nat.le_of_ble_eq_true rfl) (Nat.le_of_ble_eq_true rfl)
set_option maxHeartbeats 4000000 in
set_option maxRecDepth 100000 in
theorem t_B_traceN {l : Launch} {s0 : State} {dC : Nat → ClassId} {dI : Nat → Nat → Nat} {dA : Nat → ClassId} (B0 : BB s0 dC dI dA) (X0 : XX s0) (hlt : l.stackTraces = false) (w : fw_W) (AD : Nat → Nat) (Fz : Nat → Prop) (β : BS) (wk k : Nat) (a : Int32) (hinj : Inj2 AD) (hR : RBb dA AD Fz w β) (hwk : wk < 2) (hk : k < 12) (hT : ∀ T, b_tr β (wk * 12 + k) = some T → ¬ okI T.2.1.length a) : vx_Met l y_B_trace [.code y_B_trace b_B_trace 5 (some .int)] ({ frames := 8, cells := 1, slots := 6, locals := 170 }) (mP s0 dC dI w [.ref (AD 27), .int (nI wk), .int (nI k), .int a]) Qno (mX s0 dC dI (fun E w' => E = E_NE ∧ w' = w)) 1 6 (AA s0) := by
  refine mt_ofX B0 (by decide) (Nat.le_of_ble_eq_true rfl) (fun p e s m args below meth c ls hargs X hnt hl hP => ?_)
  have X9 := X
  obtain ⟨hx, hb, hr, hml, hown, hg, hK, hn, hE, hlocks, hA⟩ := X9
  have hS : va_S (AA s0) s.heap s.heap [] := va_S.rf
  have hl : lv_has ls 5 [(0, .ref (AD 27)), (1, .int (nI wk)), (2, .int (nI k)), (3, .int a)] := hl
  obtain ⟨h27, hSI, hM4, hX4, hP6, ⟨hnF, hdm⟩, hpo, hrl⟩ := (id hR)
  obtain ⟨ft, pl, hM, hft, hpl⟩ := (id hM4)
  have m1 := hM.choose_spec.1
  have p0 := hP6.1
  have s0o := hSI.choose_spec.choose_spec.choose_spec.choose_spec.choose_spec.choose_spec.choose_spec.choose_spec.1
  refine lv_aload_n hx hb d_B_trace_0 rfl (lv_at hl 0 rfl) ?_
  refine lv_iload_n hx hb d_B_trace_1 rfl (lv_at hl 1 rfl) ?_
  refine lv_iload_n hx hb d_B_trace_2 rfl (lv_at hl 2 rfl) ?_
  refine lv_iload_n hx hb d_B_trace_3 rfl (lv_at hl 3 rfl) ?_
  exact th_pass X hnt (rx_V (n := 3) (As := [.int (nI wk), .int (nI k), .int a]) (rest := []) (C := R_B) (T := F_B) (N := 4) (ci := 4) X hP hS (t_B_traceWithN B0 X0 hlt w AD Fz β wk k a hinj hR hwk hk hT) k_554 k_556 k_36 k_54 k_557 (by decide +kernel) rfl rfl ⟨Nat.le_of_ble_eq_true rfl, Nat.le_of_ble_eq_true rfl⟩ h27 rfl rfl hl.1 rfl (Nat.le_of_ble_eq_true rfl) d_B_trace_4 ⟨Nat.le_of_ble_eq_true rfl, Nat.le_of_ble_eq_true rfl⟩) hS (fun _ _ h => h) (Nat.le_of_ble_eq_true rfl) (Nat.le_of_ble_eq_true rfl)
set_option maxHeartbeats 4000000 in
set_option maxRecDepth 100000 in
theorem c_B_traced {l : Launch} {s0 : State} {dC : Nat → ClassId} {dI : Nat → Nat → Nat} {dA : Nat → ClassId} (B0 : BB s0 dC dI dA) (w : fw_W) (AD : Nat → Nat) (Fz : Nat → Prop) (β : BS) (wk k : Nat) (a : Int32) (T : tv) (hinj : Inj2 AD) (hR : RBb dA AD Fz w β) (hwk : wk < 2) (hk : k < 12) (hT : b_tr β (wk * 12 + k) = some T) (hi : okI T.2.1.length a) : Met l y_B_traced [.code y_B_traced b_B_traced 5 (some .long)] ({ frames := 3, cells := 0, slots := 0, locals := 100 }) (mP s0 dC dI w [.ref (AD 27), .int (nI wk), .int (nI k), .int a]) (mQl s0 dC dI (fun r w' => w' = w ∧ r = trL T a)) 0 0 (AA s0) := by
  refine mt_ofW B0 (by decide) (Nat.le_of_ble_eq_true rfl) (fun p e s m args below meth c ls hargs X hin hl hP => ?_)
  have X9 := X
  obtain ⟨hx, hb, hr, hml, hown, hg, hK, hn, hE, hlocks, hA⟩ := X9
  have hS : va_S (AA s0) s.heap s.heap [] := va_S.rf
  have hl : lv_has ls 5 [(0, .ref (AD 27)), (1, .int (nI wk)), (2, .int (nI k)), (3, .int a)] := hl
  obtain ⟨h27, hSI, hM4, hX4, hP6, ⟨hnF, hdm⟩, hpo, hrl⟩ := (id hR)
  obtain ⟨ft, pl, hM, hft, hpl⟩ := (id hM4)
  have m1 := hM.choose_spec.1
  have p0 := hP6.1
  have s0o := hSI.choose_spec.choose_spec.choose_spec.choose_spec.choose_spec.choose_spec.choose_spec.choose_spec.1
  refine lv_aload_n hx hb d_B_traced_0 rfl (lv_at hl 0 rfl) ?_
  refine lv_iload_n hx hb d_B_traced_1 rfl (lv_at hl 1 rfl) ?_
  refine lv_iload_n hx hb d_B_traced_2 rfl (lv_at hl 2 rfl) ?_
  refine lv_iload_n hx hb d_B_traced_3 rfl (lv_at hl 3 rfl) ?_
  refine va_callq (rn_V (n := 3) (As := [.int (nI wk), .int (nI k), .int a]) (rest := []) (C := R_B) (T := F_B) (N := 4) (ci := 4) X hP hS (c_B_traceWith B0 w AD Fz β wk k a T hinj hR hwk hk hT hi) k_554 k_556 k_36 k_54 k_557 (by decide +kernel) rfl rfl ⟨Nat.le_of_ble_eq_true rfl, Nat.le_of_ble_eq_true rfl⟩ h27 rfl rfl hl.1 rfl (Nat.le_of_ble_eq_true rfl) d_B_traced_4 ⟨Nat.le_of_ble_eq_true rfl, Nat.le_of_ble_eq_true rfl⟩) hS (fun q _ h => h) (fun q h => h) (fun r w27 tS H locs ht hvm hw hB hz1 hk1 hS => ?_)
  have hP : fw_P (dC, dI) cls_ (AA s0) w27 H := by rw [← ht]; exact hB
  obtain ⟨e9, t, rfl, hT9⟩ := hw
  rw [e9] at hP
  obtain ⟨⟨kt, vt, ⟨fk, fv, ta1, ta2, ta3, hL3, hLf⟩, -⟩, -⟩ := (id hT9)
  refine lv_astore (lv' := [(4, .ref t), (0, .ref (AD 27)), (1, .int (nI wk)), (2, .int (nI k)), (3, .int a)]) hx hb d_B_traced_7 hl (by decide) rfl (fun ls hl => ?_)
  refine lv_iload_n hx hb d_B_traced_9 rfl (lv_at hl 4 rfl) ?_
  refine lv_iconst (v := (-1)) hx hb d_B_traced_10 (by decide) ?_
  refine lv_icmp_ne (tgt := 22) hx hb d_B_traced_11 (by decide) (fun c1 => ?_) (fun c1 => ?_)
  · obtain ⟨j, hj, rfl⟩ := hi.resolve_left c1
    refine lv_aload hx hb d_B_traced_22 (lv_at hl 0 rfl) ?_
    refine va_getN (D := (dC, dI)) (ci := 3) (v := .ref vt) (C := R_T) (T := F_T) (N := 5) hx hb hg in_T hown hK (hP.one ta1) 0 rfl rfl 2 (by decide) (hn _ u_411) (fun _ h9 => h9) rfl d_B_traced_24 ?_
    refine lv_iload_n hx hb d_B_traced_27 rfl (lv_at hl 4 rfl) ?_
    refine fw_lald (tys := tyl dA) hx hb hK hP ta3 1 rfl (j := j) (by omega) (by decide) d_B_traced_28 ?_
    exact W.lret (v := fv j) hx hb hr (fun tS ht hW => ⟨⟨fv j, w, rfl, ⟨rfl, by have h9 := hLf j _ (getD_at hj); unfold trL; rw [if_neg c1, nI_clamp (by omega)]; exact h9.2.1⟩, mB_of ht hP⟩, hS.F ht⟩) hS.2.2 d_B_traced_29
  · refine lv_aload hx hb d_B_traced_14 (lv_at hl 0 rfl) ?_
    refine va_getN (D := (dC, dI)) (ci := 3) (v := .long T.2.2) (C := R_T) (T := F_T) (N := 5) hx hb hg in_T hown hK (hP.one ta1) 0 rfl rfl 4 (by decide) (hn _ u_416) (fun _ h9 => h9) rfl d_B_traced_16 ?_
    refine lv_goto (tgt := 29) hx hb d_B_traced_19 (by decide) ?_
    exact W.lret (v := T.2.2) hx hb hr (fun tS ht hW => ⟨⟨T.2.2, w, rfl, ⟨rfl, by unfold trL; rw [if_pos c1]⟩, mB_of ht hP⟩, hS.F ht⟩) hS.2.2 d_B_traced_29
set_option maxHeartbeats 4000000 in
set_option maxRecDepth 100000 in
theorem t_B_traced {l : Launch} {s0 : State} {dC : Nat → ClassId} {dI : Nat → Nat → Nat} {dA : Nat → ClassId} (B0 : BB s0 dC dI dA) (X0 : XX s0) (hlt : l.stackTraces = false) (w : fw_W) (h : Nat) (x1 x2 a : Int32) (fs : List Value) (hh : w h = some (.inr (4, fs))) (ho : ¬ (okW x1 ∧ okK x2)) : vx_Met l y_B_traced [.code y_B_traced b_B_traced 5 (some .long)] ({ frames := 8, cells := 1, slots := 6, locals := 170 }) (mP s0 dC dI w [.ref h, .int x1, .int x2, .int a]) Qno (mX s0 dC dI (fun E w' => E = E_IA ∧ w' = w)) 1 6 (AA s0) := by
  refine mt_ofX B0 (by decide) (Nat.le_of_ble_eq_true rfl) (fun p e s m args below meth c ls hargs X hnt hl hP => ?_)
  have X9 := X
  obtain ⟨hx, hb, hr, hml, hown, hg, hK, hn, hE, hlocks, hA⟩ := X9
  have hS : va_S (AA s0) s.heap s.heap [] := va_S.rf
  have hl : lv_has ls 5 [(0, .ref h), (1, .int x1), (2, .int x2), (3, .int a)] := hl
  refine lv_aload_n hx hb d_B_traced_0 rfl (lv_at hl 0 rfl) ?_
  refine lv_iload_n hx hb d_B_traced_1 rfl (lv_at hl 1 rfl) ?_
  refine lv_iload_n hx hb d_B_traced_2 rfl (lv_at hl 2 rfl) ?_
  refine lv_iload_n hx hb d_B_traced_3 rfl (lv_at hl 3 rfl) ?_
  exact th_pass X hnt (rx_V (n := 3) (As := [.int x1, .int x2, .int a]) (rest := []) (C := R_B) (T := F_B) (N := 4) (ci := 4) X hP hS (t_B_traceWith B0 X0 hlt w h x1 x2 a ho) k_554 k_556 k_36 k_54 k_557 (by decide +kernel) rfl rfl ⟨Nat.le_of_ble_eq_true rfl, Nat.le_of_ble_eq_true rfl⟩ hh rfl rfl hl.1 rfl (Nat.le_of_ble_eq_true rfl) d_B_traced_4 ⟨Nat.le_of_ble_eq_true rfl, Nat.le_of_ble_eq_true rfl⟩) hS (fun _ _ h => h) (Nat.le_of_ble_eq_true rfl) (Nat.le_of_ble_eq_true rfl)
set_option maxHeartbeats 4000000 in
set_option maxRecDepth 100000 in
theorem t_B_tracedN {l : Launch} {s0 : State} {dC : Nat → ClassId} {dI : Nat → Nat → Nat} {dA : Nat → ClassId} (B0 : BB s0 dC dI dA) (X0 : XX s0) (hlt : l.stackTraces = false) (w : fw_W) (AD : Nat → Nat) (Fz : Nat → Prop) (β : BS) (wk k : Nat) (a : Int32) (hinj : Inj2 AD) (hR : RBb dA AD Fz w β) (hwk : wk < 2) (hk : k < 12) (hT : ∀ T, b_tr β (wk * 12 + k) = some T → ¬ okI T.2.1.length a) : vx_Met l y_B_traced [.code y_B_traced b_B_traced 5 (some .long)] ({ frames := 8, cells := 1, slots := 6, locals := 170 }) (mP s0 dC dI w [.ref (AD 27), .int (nI wk), .int (nI k), .int a]) Qno (mX s0 dC dI (fun E w' => E = E_NE ∧ w' = w)) 1 6 (AA s0) := by
  refine mt_ofX B0 (by decide) (Nat.le_of_ble_eq_true rfl) (fun p e s m args below meth c ls hargs X hnt hl hP => ?_)
  have X9 := X
  obtain ⟨hx, hb, hr, hml, hown, hg, hK, hn, hE, hlocks, hA⟩ := X9
  have hS : va_S (AA s0) s.heap s.heap [] := va_S.rf
  have hl : lv_has ls 5 [(0, .ref (AD 27)), (1, .int (nI wk)), (2, .int (nI k)), (3, .int a)] := hl
  obtain ⟨h27, hSI, hM4, hX4, hP6, ⟨hnF, hdm⟩, hpo, hrl⟩ := (id hR)
  obtain ⟨ft, pl, hM, hft, hpl⟩ := (id hM4)
  have m1 := hM.choose_spec.1
  have p0 := hP6.1
  have s0o := hSI.choose_spec.choose_spec.choose_spec.choose_spec.choose_spec.choose_spec.choose_spec.choose_spec.1
  refine lv_aload_n hx hb d_B_traced_0 rfl (lv_at hl 0 rfl) ?_
  refine lv_iload_n hx hb d_B_traced_1 rfl (lv_at hl 1 rfl) ?_
  refine lv_iload_n hx hb d_B_traced_2 rfl (lv_at hl 2 rfl) ?_
  refine lv_iload_n hx hb d_B_traced_3 rfl (lv_at hl 3 rfl) ?_
  exact th_pass X hnt (rx_V (n := 3) (As := [.int (nI wk), .int (nI k), .int a]) (rest := []) (C := R_B) (T := F_B) (N := 4) (ci := 4) X hP hS (t_B_traceWithN B0 X0 hlt w AD Fz β wk k a hinj hR hwk hk hT) k_554 k_556 k_36 k_54 k_557 (by decide +kernel) rfl rfl ⟨Nat.le_of_ble_eq_true rfl, Nat.le_of_ble_eq_true rfl⟩ h27 rfl rfl hl.1 rfl (Nat.le_of_ble_eq_true rfl) d_B_traced_4 ⟨Nat.le_of_ble_eq_true rfl, Nat.le_of_ble_eq_true rfl⟩) hS (fun _ _ h => h) (Nat.le_of_ble_eq_true rfl) (Nat.le_of_ble_eq_true rfl)
set_option maxHeartbeats 4000000 in
set_option maxRecDepth 100000 in
theorem c_B_cached {l : Launch} {s0 : State} {dC : Nat → ClassId} {dI : Nat → Nat → Nat} {dA : Nat → ClassId} (B0 : BB s0 dC dI dA) (w : fw_W) (AD : Nat → Nat) (Fz : Nat → Prop) (β : BS) (j : Nat) (T : tv) (hinj : Inj2 AD) (hR : RBb dA AD Fz w β) (hj : (b_cl β)[j]? = some T) : Met l y_B_cached [.code y_B_cached b_B_cached 3 (some .int)] ({ frames := 2, cells := 0, slots := 0, locals := 60 }) (mP s0 dC dI w [.ref (AD 27), .int (nI j)]) (mQi s0 dC dI (fun r w' => w' = w ∧ r = nI T.1)) 0 0 (AA s0) := by
  refine mt_ofW B0 (by decide) (Nat.le_of_ble_eq_true rfl) (fun p e s m args below meth c ls hargs X hin hl hP => ?_)
  have X9 := X
  obtain ⟨hx, hb, hr, hml, hown, hg, hK, hn, hE, hlocks, hA⟩ := X9
  have hS : va_S (AA s0) s.heap s.heap [] := va_S.rf
  have hl : lv_has ls 3 [(0, .ref (AD 27)), (1, .int (nI j))] := hl
  obtain ⟨h27, hSI, hM4, hX4, hP6, ⟨hnF, hdm⟩, hpo, hrl⟩ := (id hR)
  obtain ⟨ft, pl, hM, hft, hpl⟩ := (id hM4)
  have m1 := hM.choose_spec.1
  have p0 := hP6.1
  have s0o := hSI.choose_spec.choose_spec.choose_spec.choose_spec.choose_spec.choose_spec.choose_spec.choose_spec.1
  refine lv_aload_n hx hb d_B_cached_0 rfl (lv_at hl 0 rfl) ?_
  refine va_get (D := (dC, dI)) (ci := 4) (v := .ref (AD 5)) (C := R_B) (T := F_B) (N := 4) hx hb hg in_B hown hK (hP.one h27) 0 rfl rfl 1 (by decide) (hg _ k_171) (fun _ h9 => h9) rfl d_B_cached_1 ?_
  refine lv_iload_n hx hb d_B_cached_4 rfl (lv_at hl 1 rfl) ?_
  obtain ⟨fc, y1, y2, y3, y4, h16, hcP, hcN⟩ := (id hM)
  have hjl : j < pl.length := by rw [hpl.1]; exact (List.getElem?_eq_some_iff.mp hj).1
  have hT9 := hpl.2 j _ T (List.getElem?_eq_getElem hjl) hj
  have hfc := hcP j _ (List.getElem?_eq_getElem hjl)
  generalize pl[j] = t at hT9 hfc
  refine va_callq (rn_VN (n := 1) (As := [.int (nI j)]) (rest := []) (C := R_M) (T := F_M) (N := 4) (ci := 0) X hP hS (c_M_entryIn B0 w _ _ _ _ fc pl.length j y1 y3 h16 hjl) u_584 k_284 k_6 k_56 k_285 (by decide +kernel) rfl rfl ⟨Nat.le_of_ble_eq_true rfl, Nat.le_of_ble_eq_true rfl⟩ m1 rfl rfl hl.1 rfl (Nat.le_of_ble_eq_true rfl) d_B_cached_5 ⟨Nat.le_of_ble_eq_true rfl, Nat.le_of_ble_eq_true rfl⟩) hS (fun q _ h => h) (fun q h => h) (fun r w28 tS H locs ht hvm hw hB hz1 hk1 hS => ?_)
  have hP : fw_P (dC, dI) cls_ (AA s0) w28 H := by rw [← ht]; exact hB
  obtain ⟨e9, hr9⟩ := hw
  rw [e9] at hP
  rw [hfc] at hr9
  subst hr9
  obtain ⟨⟨kt, vt, ⟨fk, fv, ta1, ta2, ta3, hL3, hLf⟩, -⟩, -⟩ := (id hT9)
  refine lv_astore_n (lv' := [(2, .ref t), (0, .ref (AD 27)), (1, .int (nI j))]) hx hb d_B_cached_8 rfl hl (by decide) rfl (fun ls hl => ?_)
  refine lv_aload_n hx hb d_B_cached_9 rfl (lv_at hl 0 rfl) ?_
  refine lv_ifnonnull (tgt := 21) hx hb d_B_cached_10 (by decide) ?_
  refine lv_aload_n hx hb d_B_cached_21 rfl (lv_at hl 0 rfl) ?_
  refine va_getN (D := (dC, dI)) (ci := 3) (v := .int (nI T.1)) (C := R_T) (T := F_T) (N := 5) hx hb hg in_T hown hK (hP.one ta1) 0 rfl rfl 0 (by decide) (hn _ u_405) (fun _ h9 => h9) rfl d_B_cached_22 ?_
  exact W.iret (v := (nI T.1)) hx hb hr (fun tS ht hW => ⟨⟨(nI T.1), w, rfl, ⟨rfl, rfl⟩, mB_of ht hP⟩, hS.F ht⟩) hS.2.2 d_B_cached_25
set_option maxHeartbeats 4000000 in
set_option maxRecDepth 100000 in
theorem t_B_cached {l : Launch} {s0 : State} {dC : Nat → ClassId} {dI : Nat → Nat → Nat} {dA : Nat → ClassId} (B0 : BB s0 dC dI dA) (X0 : XX s0) (hlt : l.stackTraces = false) (w : fw_W) (AD : Nat → Nat) (Fz : Nat → Prop) (β : BS) (a : Int32) (hinj : Inj2 AD) (hR : RBb dA AD Fz w β) (ho : ¬ ∃ j, j < (b_cl β).length ∧ a = nI j) : vx_Met l y_B_cached [.code y_B_cached b_B_cached 3 (some .int)] ({ frames := 6, cells := 1, slots := 6, locals := 130 }) (mP s0 dC dI w [.ref (AD 27), .int a]) Qno (mX s0 dC dI (fun E w' => E = E_NE ∧ w' = w)) 1 6 (AA s0) := by
  refine mt_ofX B0 (by decide) (Nat.le_of_ble_eq_true rfl) (fun p e s m args below meth c ls hargs X hnt hl hP => ?_)
  have X9 := X
  obtain ⟨hx, hb, hr, hml, hown, hg, hK, hn, hE, hlocks, hA⟩ := X9
  have hS : va_S (AA s0) s.heap s.heap [] := va_S.rf
  have hl : lv_has ls 3 [(0, .ref (AD 27)), (1, .int a)] := hl
  obtain ⟨h27, hSI, hM4, hX4, hP6, ⟨hnF, hdm⟩, hpo, hrl⟩ := (id hR)
  obtain ⟨ft, pl, hM, hft, hpl⟩ := (id hM4)
  have m1 := hM.choose_spec.1
  have p0 := hP6.1
  have s0o := hSI.choose_spec.choose_spec.choose_spec.choose_spec.choose_spec.choose_spec.choose_spec.choose_spec.1
  refine lv_aload_n hx hb d_B_cached_0 rfl (lv_at hl 0 rfl) ?_
  refine va_get (D := (dC, dI)) (ci := 4) (v := .ref (AD 5)) (C := R_B) (T := F_B) (N := 4) hx hb hg in_B hown hK (hP.one h27) 0 rfl rfl 1 (by decide) (hg _ k_171) (fun _ h9 => h9) rfl d_B_cached_1 ?_
  refine lv_iload_n hx hb d_B_cached_4 rfl (lv_at hl 1 rfl) ?_
  obtain ⟨fc, y1, y2, y3, y4, h16, hcP, hcN⟩ := (id hM)
  refine va_callq (rn_VN (n := 1) (As := [.int a]) (rest := []) (C := R_M) (T := F_M) (N := 4) (ci := 0) X hP hS (c_M_entryAt B0 w _ _ _ _ fc pl.length a y1 y3 h16) u_584 k_284 k_6 k_56 k_285 (by decide +kernel) rfl rfl ⟨Nat.le_of_ble_eq_true rfl, Nat.le_of_ble_eq_true rfl⟩ m1 rfl rfl hl.1 rfl (Nat.le_of_ble_eq_true rfl) d_B_cached_5 ⟨Nat.le_of_ble_eq_true rfl, Nat.le_of_ble_eq_true rfl⟩) hS (fun q _ h => h) (fun q h => h) (fun r w29 tS H locs ht hvm hw hB hz1 hk1 hS => ?_)
  have hP : fw_P (dC, dI) cls_ (AA s0) w29 H := by rw [← ht]; exact hB
  obtain ⟨e9, hr9⟩ := hw
  rw [e9] at hP
  have hr8 : r = none := by
    rcases hr9 with ⟨j, hj, e8, -⟩ | ⟨-, h⟩
    · exact absurd ⟨j, by rw [← hpl.1]; exact hj, e8⟩ ho
    · exact h
  subst hr8
  refine lv_astore_nN (lv' := [(2, .null), (0, .ref (AD 27)), (1, .int a)]) hx hb d_B_cached_8 rfl hl (by decide) rfl (fun ls hl => ?_)
  refine lv_aload_nN hx hb d_B_cached_9 rfl (lv_at hl 0 rfl) ?_
  refine lv_ifnonnullN hx hb d_B_cached_10 ?_
  exact th_0 B0 X0 hlt X hnt hP hS ex_NE ⟨rfl, rfl⟩ hl.1 d_B_cached_13 d_B_cached_16 d_B_cached_17 d_B_cached_20 (Nat.le_of_ble_eq_true rfl) (Nat.le_of_ble_eq_true rfl) (Nat.le_of_ble_eq_true rfl) (Nat.le_of_ble_eq_true rfl) (Nat.le_of_ble_eq_true rfl) (Nat.le_of_ble_eq_true rfl)
set_option maxHeartbeats 4000000 in
set_option maxRecDepth 100000 in
theorem c_B_countNo {l : Launch} {s0 : State} {dC : Nat → ClassId} {dI : Nat → Nat → Nat} {dA : Nat → ClassId} (B0 : BB s0 dC dI dA) (w : fw_W) (h : Nat) (a : Int32) (ho : ¬ ∃ j, j < 11 ∧ a = nI j) : Met l y_B_count [.code y_B_count b_B_count 2 (some .int)] ({ frames := 0, cells := 0, slots := 0, locals := 0 }) (mP s0 dC dI w [.ref h, .int a]) (mQi s0 dC dI (fun r w' => w' = w ∧ r = -1)) 0 0 (AA s0) := by
  refine mt_ofW B0 (by decide) (Nat.le_of_ble_eq_true rfl) (fun p e s m args below meth c ls hargs X hin hl hP => ?_)
  have X9 := X
  obtain ⟨hx, hb, hr, hml, hown, hg, hK, hn, hE, hlocks, hA⟩ := X9
  have hS : va_S (AA s0) s.heap s.heap [] := va_S.rf
  have hl : lv_has ls 2 [(0, .ref h), (1, .int a)] := hl
  refine lv_iload_n hx hb d_B_count_0 rfl (lv_at hl 1 rfl) ?_
  refine lv_if_lt (tgt := 10) hx hb d_B_count_1 (by decide) (fun c1 => ?_) (fun c1 => ?_)
  · refine lv_iconst (v := (-1)) hx hb d_B_count_10 (by decide) ?_
    exact W.iret (v := (-1)) hx hb hr (fun tS ht hW => ⟨⟨(-1), w, rfl, ⟨rfl, rfl⟩, mB_of ht hP⟩, hS.F ht⟩) hS.2.2 d_B_count_11
  · refine lv_iload_n hx hb d_B_count_4 rfl (lv_at hl 1 rfl) ?_
    refine lv_bipush (v := (nI 11)) hx hb d_B_count_5 (by decide) ?_
    refine lv_icmp_lt (tgt := 12) hx hb d_B_count_7 (by decide) (fun c2 => ?_) (fun c2 => ?_)
    · obtain ⟨j9, hj9, rfl⟩ := nI_of c1
      exact absurd ⟨j9, (nI_ltI hj9 (by omega)).mp c2, rfl⟩ ho
    · refine lv_iconst (v := (-1)) hx hb d_B_count_10 (by decide) ?_
      exact W.iret (v := (-1)) hx hb hr (fun tS ht hW => ⟨⟨(-1), w, rfl, ⟨rfl, rfl⟩, mB_of ht hP⟩, hS.F ht⟩) hS.2.2 d_B_count_11
set_option maxHeartbeats 4000000 in
set_option maxRecDepth 100000 in
theorem c_B_count {l : Launch} {s0 : State} {dC : Nat → ClassId} {dI : Nat → Nat → Nat} {dA : Nat → ClassId} (B0 : BB s0 dC dI dA) (w : fw_W) (AD : Nat → Nat) (Fz : Nat → Prop) (β : BS) (j : Nat) (hinj : Inj2 AD) (hR : RBb dA AD Fz w β) (hj : j < 11) : Met l y_B_count [.code y_B_count b_B_count 2 (some .int)] ({ frames := 3, cells := 0, slots := 0, locals := 100 }) (mP s0 dC dI w [.ref (AD 27), .int (nI j)]) (mQi s0 dC dI (fun r w' => w' = w ∧ r = bCount j β)) 0 0 (AA s0) := by
  refine mt_ofW B0 (by decide) (Nat.le_of_ble_eq_true rfl) (fun p e s m args below meth c ls hargs X hin hl hP => ?_)
  have X9 := X
  obtain ⟨hx, hb, hr, hml, hown, hg, hK, hn, hE, hlocks, hA⟩ := X9
  have hS : va_S (AA s0) s.heap s.heap [] := va_S.rf
  have hl : lv_has ls 2 [(0, .ref (AD 27)), (1, .int (nI j))] := hl
  obtain ⟨h27, hSI, hM4, hX4, hP6, ⟨hnF, hdm⟩, hpo, hrl⟩ := (id hR)
  obtain ⟨ft, pl, hM, hft, hpl⟩ := (id hM4)
  have m1 := hM.choose_spec.1
  have p0 := hP6.1
  have s0o := hSI.choose_spec.choose_spec.choose_spec.choose_spec.choose_spec.choose_spec.choose_spec.choose_spec.1
  refine lv_iload_n hx hb d_B_count_0 rfl (lv_at hl 1 rfl) ?_
  refine lv_if_lt (tgt := 10) hx hb d_B_count_1 (by decide) (fun c1 => ?_) (fun c1 => ?_)
  · exact absurd c1 (nI_nn (by omega))
  · refine lv_iload_n hx hb d_B_count_4 rfl (lv_at hl 1 rfl) ?_
    refine lv_bipush (v := (nI 11)) hx hb d_B_count_5 (by decide) ?_
    refine nu_lt (tgt := 12) hx hb (by omega) (by omega) d_B_count_7 (by decide) (fun c2 => ?_) (fun c2 => ?_)
    · refine lv_iload_n hx hb d_B_count_12 rfl (lv_at hl 1 rfl) ?_
      rcases (show j = 7 ∨ j = 8 ∨ j = 9 ∨ (j < 7 ∨ 9 < j) by omega) with rfl | rfl | rfl | hj9
      · refine lv_tableIn (off := 27) (tgt := 40) hx hb d_B_count_13 (by decide) (by decide) (by decide) (by decide) ?_
        refine lv_aload_n hx hb d_B_count_40 rfl (lv_at hl 0 rfl) ?_
        refine va_get (D := (dC, dI)) (ci := 4) (v := .ref (AD 5)) (C := R_B) (T := F_B) (N := 4) hx hb hg in_B hown hK (hP.one h27) 0 rfl rfl 1 (by decide) (hg _ k_171) (fun _ h9 => h9) rfl d_B_count_41 ?_
        refine va_getN (D := (dC, dI)) (ci := 0) (v := .int (nI pl.length)) (C := R_M) (T := F_M) (N := 4) hx hb hg in_M hown hK (hP.one m1) 0 rfl rfl 2 (by decide) (hn _ u_119) (fun _ h9 => h9) rfl d_B_count_44 ?_
        exact W.iret (v := (nI pl.length)) hx hb hr (fun tS ht hW => ⟨⟨(nI pl.length), w, rfl, ⟨rfl, congrArg nI hpl.1⟩, mB_of ht hP⟩, hS.F ht⟩) hS.2.2 d_B_count_47
      · refine lv_tableIn (off := 35) (tgt := 48) hx hb d_B_count_13 (by decide) (by decide) (by decide) (by decide) ?_
        refine lv_aload_n hx hb d_B_count_48 rfl (lv_at hl 0 rfl) ?_
        refine va_get (D := (dC, dI)) (ci := 4) (v := .ref (AD 5)) (C := R_B) (T := F_B) (N := 4) hx hb hg in_B hown hK (hP.one h27) 0 rfl rfl 1 (by decide) (hg _ k_171) (fun _ h9 => h9) rfl d_B_count_49 ?_
        refine lv_iconst (v := (nI 0)) hx hb d_B_count_52 (by decide) ?_
        refine va_calli (rn_VN (n := 1) (As := [.int (nI 0)]) (rest := []) (C := R_M) (T := F_M) (N := 4) (ci := 0) X hP hS (c_M_tracesOf B0 w _ _ _ _ ft pl _ 0 hM (by omega)) u_187 k_189 k_0 k_56 k_190 (by decide +kernel) rfl rfl ⟨Nat.le_of_ble_eq_true rfl, Nat.le_of_ble_eq_true rfl⟩ m1 rfl rfl hl.1 rfl (Nat.le_of_ble_eq_true rfl) d_B_count_53 ⟨Nat.le_of_ble_eq_true rfl, Nat.le_of_ble_eq_true rfl⟩) hS (fun q _ h => h) (fun q h => h) (fun r w30 tS H locs ht hvm hw hB hz1 hk1 hS => ?_)
        have hP : fw_P (dC, dI) cls_ (AA s0) w30 H := by rw [← ht]; exact hB
        obtain ⟨e9, rfl⟩ := hw
        rw [e9] at hP
        exact W.iret (v := (nI (cntS ft 0 12))) hx hb hr (fun tS ht hW => ⟨⟨(nI (cntS ft 0 12)), w, rfl, ⟨rfl, congrArg nI (cnt_eq (by omega) hft 12 (by omega))⟩, mB_of ht hP⟩, hS.F ht⟩) hS.2.2 d_B_count_56
      · refine lv_tableIn (off := 44) (tgt := 57) hx hb d_B_count_13 (by decide) (by decide) (by decide) (by decide) ?_
        refine lv_aload_n hx hb d_B_count_57 rfl (lv_at hl 0 rfl) ?_
        refine va_get (D := (dC, dI)) (ci := 4) (v := .ref (AD 5)) (C := R_B) (T := F_B) (N := 4) hx hb hg in_B hown hK (hP.one h27) 0 rfl rfl 1 (by decide) (hg _ k_171) (fun _ h9 => h9) rfl d_B_count_58 ?_
        refine lv_iconst (v := (nI 1)) hx hb d_B_count_61 (by decide) ?_
        refine va_calli (rn_VN (n := 1) (As := [.int (nI 1)]) (rest := []) (C := R_M) (T := F_M) (N := 4) (ci := 0) X hP hS (c_M_tracesOf B0 w _ _ _ _ ft pl _ 1 hM (by omega)) u_187 k_189 k_0 k_56 k_190 (by decide +kernel) rfl rfl ⟨Nat.le_of_ble_eq_true rfl, Nat.le_of_ble_eq_true rfl⟩ m1 rfl rfl hl.1 rfl (Nat.le_of_ble_eq_true rfl) d_B_count_62 ⟨Nat.le_of_ble_eq_true rfl, Nat.le_of_ble_eq_true rfl⟩) hS (fun q _ h => h) (fun q h => h) (fun r w31 tS H locs ht hvm hw hB hz1 hk1 hS => ?_)
        have hP : fw_P (dC, dI) cls_ (AA s0) w31 H := by rw [← ht]; exact hB
        obtain ⟨e9, rfl⟩ := hw
        rw [e9] at hP
        exact W.iret (v := (nI (cntS ft 1 12))) hx hb hr (fun tS ht hW => ⟨⟨(nI (cntS ft 1 12)), w, rfl, ⟨rfl, congrArg nI (cnt_eq (by omega) hft 12 (by omega))⟩, mB_of ht hP⟩, hS.F ht⟩) hS.2.2 d_B_count_65
      · refine lv_tableOut (tgt := 66) hx hb d_B_count_13 (by rw [nI_toInt (by omega)]; omega) (by decide) ?_
        have m4 := hM.choose_spec.2.2.2.1
        refine lv_aload_n hx hb d_B_count_66 rfl (lv_at hl 0 rfl) ?_
        refine va_get (D := (dC, dI)) (ci := 4) (v := .ref (AD 5)) (C := R_B) (T := F_B) (N := 4) hx hb hg in_B hown hK (hP.one h27) 0 rfl rfl 1 (by decide) (hg _ k_171) (fun _ h9 => h9) rfl d_B_count_67 ?_
        refine va_getN (D := (dC, dI)) (ci := 0) (v := .ref (AD 8)) (C := R_M) (T := F_M) (N := 4) hx hb hg in_M hown hK (hP.one m1) 0 rfl rfl 3 (by decide) (hn _ u_121) (fun _ h9 => h9) rfl d_B_count_70 ?_
        refine lv_iload_n hx hb d_B_count_73 rfl (lv_at hl 1 rfl) ?_
        refine fw_iald (tys := tyl dA) hx hb hK hP m4 0 rfl (j := j) hj (by decide) d_B_count_74 ?_
        exact W.iret (v := ((b_ta β) j)) hx hb hr (fun tS ht hW => ⟨⟨((b_ta β) j), w, rfl, ⟨rfl, by unfold bCount; rw [if_neg (by omega), if_neg (by omega), if_neg (by omega)]⟩, mB_of ht hP⟩, hS.F ht⟩) hS.2.2 d_B_count_75
    · exact absurd c2 (by omega)
