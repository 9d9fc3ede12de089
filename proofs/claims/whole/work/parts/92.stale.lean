set_option maxHeartbeats 4000000 in
set_option maxRecDepth 100000 in
theorem c_B_stale {l : Launch} {s0 : State} {dC : Nat → ClassId} {dI : Nat → Nat → Nat} {dA : Nat → ClassId} (B0 : BB s0 dC dI dA) (w : fw_W) (AD : Nat → Nat) (Fz : Nat → Prop) (β : BS) (wk k : Nat) (hinj : Inj2 AD) (hR : RBb dA AD Fz w β) (hwk : wk < 2) (hk : k < 12) (hfl : bFl wk k β = 0) : Met l y_B_stale [.code y_B_stale b_B_stale 3 (some .boolean)] ({ frames := 122, cells := 36, slots := 132, locals := 3040 }) (mP s0 dC dI w [.ref (AD 27), .int (nI wk), .int (nI k)]) (mQi s0 dC dI (fun r w' => r = nI (s_ran (bSess wk k β).2).toNat ∧ VB dA AD Fz w w' β)) 36 132 (AA s0) := by
  refine mt_ofW B0 (by decide) (Nat.le_of_ble_eq_true rfl) (fun p e s m args below meth c ls hargs X hin hl hP => ?_)
  have X9 := X
  obtain ⟨hx, hb, hr, hml, hown, hg, hK, hn, hE, hlocks, hA⟩ := X9
  have hS : va_S (AA s0) s.heap s.heap [] := va_S.rf
  have hl : lv_has ls 3 [(0, .ref (AD 27)), (1, .int (nI wk)), (2, .int (nI k))] := hl
  obtain ⟨h27, hSI, hM4, hX4, hP6, ⟨hnF, hdm⟩, hpo, hrl⟩ := (id hR)
  obtain ⟨ft, pl, hM, hft, hpl⟩ := (id hM4)
  have m1 := hM.choose_spec.1
  have p0 := hP6.1
  have s0o := hSI.choose_spec.choose_spec.choose_spec.choose_spec.choose_spec.choose_spec.choose_spec.choose_spec.1
  refine lv_iload_n hx hb d_B_stale_0 rfl (lv_at hl 1 rfl) ?_
  refine va_callv (rn_S (n := 1) (As := [.int (nI wk)]) (rest := []) X hP hS (c_B_refuseBadWorker B0 w (nI wk) (⟨wk, hwk, rfl⟩)) k_349 k_350 k_54 k_351 (by decide +kernel) rfl rfl ⟨Nat.le_of_ble_eq_true rfl, Nat.le_of_ble_eq_true rfl⟩ rfl hl.1 rfl (Nat.le_of_ble_eq_true rfl) d_B_stale_1 ⟨Nat.le_of_ble_eq_true rfl, Nat.le_of_ble_eq_true rfl⟩) hS (fun q _ h => h) (fun q h => h) (fun w48 tS H locs ht hvm hw hB hz1 hk1 hS => ?_)
  have hP : fw_P (dC, dI) cls_ (AA s0) w48 H := by rw [← ht]; exact hB
  rw [hw] at hP
  refine lv_iload_n hx hb d_B_stale_4 rfl (lv_at hl 2 rfl) ?_
  refine va_callv (rn_S (n := 1) (As := [.int (nI k)]) (rest := []) X hP hS (c_B_refuseBadKey B0 w (nI k) (⟨k, hk, rfl⟩)) k_203 k_204 k_54 k_205 (by decide +kernel) rfl rfl ⟨Nat.le_of_ble_eq_true rfl, Nat.le_of_ble_eq_true rfl⟩ rfl hl.1 rfl (Nat.le_of_ble_eq_true rfl) d_B_stale_5 ⟨Nat.le_of_ble_eq_true rfl, Nat.le_of_ble_eq_true rfl⟩) hS (fun q _ h => h) (fun q h => h) (fun w49 tS H locs ht hvm hw hB hz1 hk1 hS => ?_)
  have hP : fw_P (dC, dI) cls_ (AA s0) w49 H := by rw [← ht]; exact hB
  rw [hw] at hP
  obtain ⟨ft2, pl2, fa2, hM2⟩ := (id hX4)
  have n1 := hM2.choose_spec.1
  refine lv_aload_n hx hb d_B_stale_8 rfl (lv_at hl 0 rfl) ?_
  refine va_get (D := (dC, dI)) (ci := 4) (v := .ref (AD 28)) (C := R_B) (T := F_B) (N := 4) hx hb hg in_B hown hK (hP.one h27) 0 rfl rfl 2 (by decide) (hg _ k_172) (fun _ h9 => h9) rfl d_B_stale_9 ?_
  refine lv_aload_n hx hb d_B_stale_12 rfl (lv_at hl 0 rfl) ?_
  refine va_get (D := (dC, dI)) (ci := 4) (v := .ref (AD 5)) (C := R_B) (T := F_B) (N := 4) hx hb hg in_B hown hK (hP.one h27) 0 rfl rfl 1 (by decide) (hg _ k_171) (fun _ h9 => h9) rfl d_B_stale_13 ?_
  refine va_callv (rn_VN (n := 1) (As := [.ref (AD 5)]) (rest := []) (C := R_M) (T := F_M) (N := 4) (ci := 0) X hP hS (c_M_copyOf B0 w (AD 28) (AD 29) (AD 30) (AD 31) ft2 pl2 fa2 (AD 5) (AD 6) (AD 7) (AD 8) ft pl (b_ta β) (owF w) hM2 hM hpl.o (fun i hi t ht => by have h9 := hft i hi; rw [ht] at h9; obtain ⟨T, -, hT⟩ := rT_some2 h9; exact ⟨_, hT.o⟩) (hinj.ne (i := 28) (j := 5) (by omega) (by omega) (by omega)) (hinj.ne (i := 29) (j := 6) (by omega) (by omega) (by omega)) (hinj.ne (i := 30) (j := 7) (by omega) (by omega) (by omega))) u_573 k_575 k_37 k_56 k_576 (by decide +kernel) rfl rfl ⟨Nat.le_of_ble_eq_true rfl, Nat.le_of_ble_eq_true rfl⟩ n1 rfl rfl hl.1 rfl (Nat.le_of_ble_eq_true rfl) d_B_stale_16 ⟨Nat.le_of_ble_eq_true rfl, Nat.le_of_ble_eq_true rfl⟩) hS (fun q _ h => h) (fun q h => h) (fun w50 tS H locs ht hvm hw hB hz1 hk1 hS => ?_)
  have hP : fw_P (dC, dI) cls_ (AA s0) w50 H := by rw [← ht]; exact hB
  obtain ⟨⟨ft9, hM9, he9⟩, hfr1⟩ := hw
  have hkk : ∀ i, i < 28 ∨ i = 31 → i < 32 → w50 (AD i) = w (AD i) := fun i h1 h2 => hfr1 _ (hinj.ne h2 (by omega) (by omega)) (hinj.ne h2 (by omega) (by omega)) (hinj.ne h2 (by omega) (by omega))
  have hzz1 : ∀ q, Fz q → w50 q = w q := RB.fz hR (fun z hz => hfr1 z (hz 28 (by omega)) (hz 29 (by omega)) (hz 30 (by omega)))
  have hM4x : M4 dA (adX AD) Fz w50 (b_tr β) (b_cl β) fa2 := ⟨ft9, pl, hM9, fun i hi => by rw [he9 i hi]; exact (hft i hi).kept hzz1 (fun _ h => h), hpl.kept hzz1 (fun _ h => h)⟩
  have hSIx : SI dA (adX AD) w50 := SI.x (hSI.kept (fun i hi => hkk i (by omega) (by omega)))
  have hP6x : P6 dA (adX AD) w50 (b_P β) := P6.x (hP6.kept (fun i h1 h2 => hkk i (by omega) (by omega)))
  have hnFx : (∀ i, i < 27 → ¬ Fz (adX AD i)) ∧ ∀ q, Fz q → w50 q ≠ none := ⟨fun i hi h9 => by obtain ⟨j, hj, e9⟩ := adX_is (AD := AD) (i := i); rw [e9 hi] at h9; exact hnF j hj h9, fd_kept hzz1 hdm⟩
  have h27 : w50 (AD 27) = _ := (hkk 27 (by omega) (by omega)).trans h27
  have s0o : w50 (AD 0) = _ := (hkk 0 (by omega) (by omega)).trans s0o
  refine lv_aload_n hx hb d_B_stale_19 rfl (lv_at hl 0 rfl) ?_
  refine va_get (D := (dC, dI)) (ci := 4) (v := .ref (AD 0)) (C := R_B) (T := F_B) (N := 4) hx hb hg in_B hown hK (hP.one h27) 0 rfl rfl 3 (by decide) (hg _ k_173) (fun _ h9 => h9) rfl d_B_stale_20 ?_
  refine lv_aload_n hx hb d_B_stale_23 rfl (lv_at hl 0 rfl) ?_
  refine va_get (D := (dC, dI)) (ci := 4) (v := .ref (AD 28)) (C := R_B) (T := F_B) (N := 4) hx hb hg in_B hown hK (hP.one h27) 0 rfl rfl 2 (by decide) (hg _ k_172) (fun _ h9 => h9) rfl d_B_stale_24 ?_
  refine lv_iload_n hx hb d_B_stale_27 rfl (lv_at hl 1 rfl) ?_
  refine lv_iload_n hx hb d_B_stale_28 rfl (lv_at hl 2 rfl) ?_
  have hd9 := dm_12 (b_P β) wk k (b_tr β) (b_cl β) fa2
  obtain ⟨-, hta1, hta2⟩ := sess_ta (b_P β) wk k (b_tr β) (b_cl β) (b_ta β) fa2
  have hfl2 : s_fl (sv (b_P β) wk 13 k (s_0 (b_tr β) (b_cl β) fa2)).2 = bFl wk k β := hta1
  refine va_calll (rn_VN (n := 3) (As := [.ref (AD 28), .int (nI wk), .int (nI k)]) (rest := []) (C := R_S) (T := F_S) (N := 9) (ci := 2) X hP hS (c_S_result B0 w50 (adX AD) Fz (b_P β) wk k (b_tr β) (b_cl β) fa2 (adX_inj hinj) hSIx hM4x hP6x hnFx hk hpo hwk) u_352 k_354 k_10 k_57 k_355 (by decide +kernel) rfl rfl ⟨Nat.le_of_ble_eq_true rfl, Nat.le_of_ble_eq_true rfl⟩ s0o rfl rfl hl.1 rfl (Nat.le_of_ble_eq_true rfl) d_B_stale_29 ⟨by dsimp only; omega, by dsimp only; omega⟩) hS (fun q _ h => h) (fun q h => h) (fun r w51 tS H locs ht hvm hw hB hz1 hk1 hS => ?_)
  have hP : fw_P (dC, dI) cls_ (AA s0) w51 H := by rw [← ht]; exact hB
  refine W.widen (k := 36) (n := 132) (by omega) (by omega) ?_
  obtain ⟨hr9, Fz1, rows1, hRS, hsub1, hnew1, hkeep1⟩ := hw
  have h27 : w51 (AD 27) = _ := hkeep1 _ _ h27 (adX_out hinj (Or.inl rfl))
  have so : w51 (AD 0) = some (.inr (2, [.ref (AD 9), .ref (AD 28), .int (nI wk), .ref (AD 1), .ref (AD 2), .ref (AD 3), .ref (AD 4), .int (nI (s_ran (sv (b_P β) wk 13 k (s_0 (b_tr β) (b_cl β) fa2)).2).toNat), .int (nI (s_fl (sv (b_P β) wk 13 k (s_0 (b_tr β) (b_cl β) fa2)).2))])) := hRS.1.1
  have hz2 : ∀ q, Fz q → w51 q = w q := fun q hq => by obtain ⟨e8, he8⟩ := some_ne (hdm q hq); rw [he8]; refine hkeep1 q e8 ((hzz1 q hq).trans he8) (fun i hi e7 => ?_); exact hnFx.1 i hi (e7 ▸ hq)
  have hk5 : ∀ i, 5 ≤ i → i < 9 → w51 (AD i) = w (AD i) := fun i h1 h2 => by obtain ⟨e8, he8⟩ := some_ne (hR.blk i (by omega)); rw [he8]; exact hkeep1 _ e8 ((hkk i (by omega) (by omega)).trans he8) (adX_out hinj (Or.inr ⟨h1, h2⟩))
  have hX2 : X4 dA AD w51 := by obtain ⟨ft8, pl8, hM8, -, -⟩ := hRS.2.1; exact ⟨ft8, pl8, _, hM8⟩
  have hVB : VB dA AD Fz w w51 β := ⟨Fz, ⟨h27, SI.unx (SI.of hRS.1), hM4.kept hk5 hz2 (fun _ h => h), hX2, P6.unx hRS.2.2.1, ⟨hnF, fd_kept hz2 hdm⟩, hpo, hrl⟩, fun _ h => Or.inl h, fun q e8 hq hn8 => hkeep1 q e8 ((hfr1 q (hn8 28 (by omega)) (hn8 29 (by omega)) (hn8 30 (by omega))).trans hq) (fun i hi => by obtain ⟨j, hj, e9⟩ := adX_is (AD := AD) (i := i); rw [e9 hi]; exact hn8 j hj)⟩
  refine lv_pop2_2 hx hb d_B_stale_32 rfl ?_
  refine lv_aload_n hx hb d_B_stale_33 rfl (lv_at hl 0 rfl) ?_
  refine va_get (D := (dC, dI)) (ci := 4) (v := .ref (AD 0)) (C := R_B) (T := F_B) (N := 4) hx hb hg in_B hown hK (hP.one h27) 0 rfl rfl 3 (by decide) (hg _ k_173) (fun _ h9 => h9) rfl d_B_stale_34 ?_
  refine va_getN (D := (dC, dI)) (ci := 2) (v := .int (nI (s_fl (sv (b_P β) wk 13 k (s_0 (b_tr β) (b_cl β) fa2)).2))) (C := R_S) (T := F_S) (N := 9) hx hb hg in_S hown hK (hP.one so) 0 rfl rfl 8 (by decide) (hn _ u_149) (fun _ h9 => h9) rfl d_B_stale_37 ?_
  refine va_callv (rn_S (n := 1) (As := [.int (nI (s_fl (sv (b_P β) wk 13 k (s_0 (b_tr β) (b_cl β) fa2)).2))]) (rest := []) X hP hS (c_B_throwF B0 w51 (s_fl (sv (b_P β) wk 13 k (s_0 (b_tr β) (b_cl β) fa2)).2) (hfl2.trans hfl)) k_494 k_495 k_54 k_496 (by decide +kernel) rfl rfl ⟨Nat.le_of_ble_eq_true rfl, Nat.le_of_ble_eq_true rfl⟩ rfl hl.1 rfl (Nat.le_of_ble_eq_true rfl) d_B_stale_40 ⟨Nat.le_of_ble_eq_true rfl, Nat.le_of_ble_eq_true rfl⟩) hS (fun q _ h => h) (fun q h => h) (fun w52 tS H locs ht hvm hw hB hz1 hk1 hS => ?_)
  have hP : fw_P (dC, dI) cls_ (AA s0) w52 H := by rw [← ht]; exact hB
  rw [hw] at hP
  refine lv_aload_n hx hb d_B_stale_43 rfl (lv_at hl 0 rfl) ?_
  refine va_get (D := (dC, dI)) (ci := 4) (v := .ref (AD 0)) (C := R_B) (T := F_B) (N := 4) hx hb hg in_B hown hK (hP.one h27) 0 rfl rfl 3 (by decide) (hg _ k_173) (fun _ h9 => h9) rfl d_B_stale_44 ?_
  refine va_getN (D := (dC, dI)) (ci := 2) (v := .int (nI (s_ran (sv (b_P β) wk 13 k (s_0 (b_tr β) (b_cl β) fa2)).2).toNat)) (C := R_S) (T := F_S) (N := 9) hx hb hg in_S hown hK (hP.one so) 0 rfl rfl 7 (by decide) (hn _ u_147) (fun _ h9 => h9) rfl d_B_stale_47 ?_
  exact W.zret (v := (nI (s_ran (sv (b_P β) wk 13 k (s_0 (b_tr β) (b_cl β) fa2)).2).toNat)) hx hb hr (nar_b _) (fun tS ht hW => ⟨⟨(nI (s_ran (sv (b_P β) wk 13 k (s_0 (b_tr β) (b_cl β) fa2)).2).toNat), w51, rfl, ⟨by rw [hta2]; rfl, hVB⟩, mB_of ht hP⟩, hS.F ht⟩) hS.2.2 d_B_stale_50
set_option maxHeartbeats 4000000 in
set_option maxRecDepth 100000 in
theorem t_B_staleN {l : Launch} {s0 : State} {dC : Nat → ClassId} {dI : Nat → Nat → Nat} {dA : Nat → ClassId} (B0 : BB s0 dC dI dA) (X0 : XX s0) (hlt : l.stackTraces = false) (w : fw_W) (AD : Nat → Nat) (Fz : Nat → Prop) (β : BS) (wk k : Nat) (hinj : Inj2 AD) (hR : RBb dA AD Fz w β) (hwk : wk < 2) (hk : k < 12) (hfl : bFl wk k β ≠ 0) : vx_Met l y_B_stale [.code y_B_stale b_B_stale 3 (some .boolean)] ({ frames := 130, cells := 37, slots := 138, locals := 3140 }) (mP s0 dC dI w [.ref (AD 27), .int (nI wk), .int (nI k)]) Qno (mX s0 dC dI (fun E w' => E = exN (bFl wk k β) ∧ VB dA AD Fz w w' β)) 37 138 (AA s0) := by
  refine mt_ofX B0 (by decide) (Nat.le_of_ble_eq_true rfl) (fun p e s m args below meth c ls hargs X hnt hl hP => ?_)
  have X9 := X
  obtain ⟨hx, hb, hr, hml, hown, hg, hK, hn, hE, hlocks, hA⟩ := X9
  have hS : va_S (AA s0) s.heap s.heap [] := va_S.rf
  have hl : lv_has ls 3 [(0, .ref (AD 27)), (1, .int (nI wk)), (2, .int (nI k))] := hl
  obtain ⟨h27, hSI, hM4, hX4, hP6, ⟨hnF, hdm⟩, hpo, hrl⟩ := (id hR)
  obtain ⟨ft, pl, hM, hft, hpl⟩ := (id hM4)
  have m1 := hM.choose_spec.1
  have p0 := hP6.1
  have s0o := hSI.choose_spec.choose_spec.choose_spec.choose_spec.choose_spec.choose_spec.choose_spec.choose_spec.1
  refine lv_iload_n hx hb d_B_stale_0 rfl (lv_at hl 1 rfl) ?_
  refine va_callv (rn_S (n := 1) (As := [.int (nI wk)]) (rest := []) X hP hS (c_B_refuseBadWorker B0 w (nI wk) (⟨wk, hwk, rfl⟩)) k_349 k_350 k_54 k_351 (by decide +kernel) rfl rfl ⟨Nat.le_of_ble_eq_true rfl, Nat.le_of_ble_eq_true rfl⟩ rfl hl.1 rfl (Nat.le_of_ble_eq_true rfl) d_B_stale_1 ⟨Nat.le_of_ble_eq_true rfl, Nat.le_of_ble_eq_true rfl⟩) hS (fun q _ h => h) (fun q h => h) (fun w53 tS H locs ht hvm hw hB hz1 hk1 hS => ?_)
  have hP : fw_P (dC, dI) cls_ (AA s0) w53 H := by rw [← ht]; exact hB
  rw [hw] at hP
  refine lv_iload_n hx hb d_B_stale_4 rfl (lv_at hl 2 rfl) ?_
  refine va_callv (rn_S (n := 1) (As := [.int (nI k)]) (rest := []) X hP hS (c_B_refuseBadKey B0 w (nI k) (⟨k, hk, rfl⟩)) k_203 k_204 k_54 k_205 (by decide +kernel) rfl rfl ⟨Nat.le_of_ble_eq_true rfl, Nat.le_of_ble_eq_true rfl⟩ rfl hl.1 rfl (Nat.le_of_ble_eq_true rfl) d_B_stale_5 ⟨Nat.le_of_ble_eq_true rfl, Nat.le_of_ble_eq_true rfl⟩) hS (fun q _ h => h) (fun q h => h) (fun w54 tS H locs ht hvm hw hB hz1 hk1 hS => ?_)
  have hP : fw_P (dC, dI) cls_ (AA s0) w54 H := by rw [← ht]; exact hB
  rw [hw] at hP
  obtain ⟨ft2, pl2, fa2, hM2⟩ := (id hX4)
  have n1 := hM2.choose_spec.1
  refine lv_aload_n hx hb d_B_stale_8 rfl (lv_at hl 0 rfl) ?_
  refine va_get (D := (dC, dI)) (ci := 4) (v := .ref (AD 28)) (C := R_B) (T := F_B) (N := 4) hx hb hg in_B hown hK (hP.one h27) 0 rfl rfl 2 (by decide) (hg _ k_172) (fun _ h9 => h9) rfl d_B_stale_9 ?_
  refine lv_aload_n hx hb d_B_stale_12 rfl (lv_at hl 0 rfl) ?_
  refine va_get (D := (dC, dI)) (ci := 4) (v := .ref (AD 5)) (C := R_B) (T := F_B) (N := 4) hx hb hg in_B hown hK (hP.one h27) 0 rfl rfl 1 (by decide) (hg _ k_171) (fun _ h9 => h9) rfl d_B_stale_13 ?_
  refine va_callv (rn_VN (n := 1) (As := [.ref (AD 5)]) (rest := []) (C := R_M) (T := F_M) (N := 4) (ci := 0) X hP hS (c_M_copyOf B0 w (AD 28) (AD 29) (AD 30) (AD 31) ft2 pl2 fa2 (AD 5) (AD 6) (AD 7) (AD 8) ft pl (b_ta β) (owF w) hM2 hM hpl.o (fun i hi t ht => by have h9 := hft i hi; rw [ht] at h9; obtain ⟨T, -, hT⟩ := rT_some2 h9; exact ⟨_, hT.o⟩) (hinj.ne (i := 28) (j := 5) (by omega) (by omega) (by omega)) (hinj.ne (i := 29) (j := 6) (by omega) (by omega) (by omega)) (hinj.ne (i := 30) (j := 7) (by omega) (by omega) (by omega))) u_573 k_575 k_37 k_56 k_576 (by decide +kernel) rfl rfl ⟨Nat.le_of_ble_eq_true rfl, Nat.le_of_ble_eq_true rfl⟩ n1 rfl rfl hl.1 rfl (Nat.le_of_ble_eq_true rfl) d_B_stale_16 ⟨Nat.le_of_ble_eq_true rfl, Nat.le_of_ble_eq_true rfl⟩) hS (fun q _ h => h) (fun q h => h) (fun w55 tS H locs ht hvm hw hB hz1 hk1 hS => ?_)
  have hP : fw_P (dC, dI) cls_ (AA s0) w55 H := by rw [← ht]; exact hB
  obtain ⟨⟨ft9, hM9, he9⟩, hfr1⟩ := hw
  have hkk : ∀ i, i < 28 ∨ i = 31 → i < 32 → w55 (AD i) = w (AD i) := fun i h1 h2 => hfr1 _ (hinj.ne h2 (by omega) (by omega)) (hinj.ne h2 (by omega) (by omega)) (hinj.ne h2 (by omega) (by omega))
  have hzz1 : ∀ q, Fz q → w55 q = w q := RB.fz hR (fun z hz => hfr1 z (hz 28 (by omega)) (hz 29 (by omega)) (hz 30 (by omega)))
  have hM4x : M4 dA (adX AD) Fz w55 (b_tr β) (b_cl β) fa2 := ⟨ft9, pl, hM9, fun i hi => by rw [he9 i hi]; exact (hft i hi).kept hzz1 (fun _ h => h), hpl.kept hzz1 (fun _ h => h)⟩
  have hSIx : SI dA (adX AD) w55 := SI.x (hSI.kept (fun i hi => hkk i (by omega) (by omega)))
  have hP6x : P6 dA (adX AD) w55 (b_P β) := P6.x (hP6.kept (fun i h1 h2 => hkk i (by omega) (by omega)))
  have hnFx : (∀ i, i < 27 → ¬ Fz (adX AD i)) ∧ ∀ q, Fz q → w55 q ≠ none := ⟨fun i hi h9 => by obtain ⟨j, hj, e9⟩ := adX_is (AD := AD) (i := i); rw [e9 hi] at h9; exact hnF j hj h9, fd_kept hzz1 hdm⟩
  have h27 : w55 (AD 27) = _ := (hkk 27 (by omega) (by omega)).trans h27
  have s0o : w55 (AD 0) = _ := (hkk 0 (by omega) (by omega)).trans s0o
  refine lv_aload_n hx hb d_B_stale_19 rfl (lv_at hl 0 rfl) ?_
  refine va_get (D := (dC, dI)) (ci := 4) (v := .ref (AD 0)) (C := R_B) (T := F_B) (N := 4) hx hb hg in_B hown hK (hP.one h27) 0 rfl rfl 3 (by decide) (hg _ k_173) (fun _ h9 => h9) rfl d_B_stale_20 ?_
  refine lv_aload_n hx hb d_B_stale_23 rfl (lv_at hl 0 rfl) ?_
  refine va_get (D := (dC, dI)) (ci := 4) (v := .ref (AD 28)) (C := R_B) (T := F_B) (N := 4) hx hb hg in_B hown hK (hP.one h27) 0 rfl rfl 2 (by decide) (hg _ k_172) (fun _ h9 => h9) rfl d_B_stale_24 ?_
  refine lv_iload_n hx hb d_B_stale_27 rfl (lv_at hl 1 rfl) ?_
  refine lv_iload_n hx hb d_B_stale_28 rfl (lv_at hl 2 rfl) ?_
  have hd9 := dm_12 (b_P β) wk k (b_tr β) (b_cl β) fa2
  obtain ⟨-, hta1, hta2⟩ := sess_ta (b_P β) wk k (b_tr β) (b_cl β) (b_ta β) fa2
  have hfl2 : s_fl (sv (b_P β) wk 13 k (s_0 (b_tr β) (b_cl β) fa2)).2 = bFl wk k β := hta1
  refine va_calll (rn_VN (n := 3) (As := [.ref (AD 28), .int (nI wk), .int (nI k)]) (rest := []) (C := R_S) (T := F_S) (N := 9) (ci := 2) X hP hS (c_S_result B0 w55 (adX AD) Fz (b_P β) wk k (b_tr β) (b_cl β) fa2 (adX_inj hinj) hSIx hM4x hP6x hnFx hk hpo hwk) u_352 k_354 k_10 k_57 k_355 (by decide +kernel) rfl rfl ⟨Nat.le_of_ble_eq_true rfl, Nat.le_of_ble_eq_true rfl⟩ s0o rfl rfl hl.1 rfl (Nat.le_of_ble_eq_true rfl) d_B_stale_29 ⟨by dsimp only; omega, by dsimp only; omega⟩) hS (fun q _ h => h) (fun q h => h) (fun r w56 tS H locs ht hvm hw hB hz1 hk1 hS => ?_)
  have hP : fw_P (dC, dI) cls_ (AA s0) w56 H := by rw [← ht]; exact hB
  refine W.widen (k := 36) (n := 132) (by omega) (by omega) ?_
  obtain ⟨hr9, Fz1, rows1, hRS, hsub1, hnew1, hkeep1⟩ := hw
  have h27 : w56 (AD 27) = _ := hkeep1 _ _ h27 (adX_out hinj (Or.inl rfl))
  have so : w56 (AD 0) = some (.inr (2, [.ref (AD 9), .ref (AD 28), .int (nI wk), .ref (AD 1), .ref (AD 2), .ref (AD 3), .ref (AD 4), .int (nI (s_ran (sv (b_P β) wk 13 k (s_0 (b_tr β) (b_cl β) fa2)).2).toNat), .int (nI (s_fl (sv (b_P β) wk 13 k (s_0 (b_tr β) (b_cl β) fa2)).2))])) := hRS.1.1
  have hz2 : ∀ q, Fz q → w56 q = w q := fun q hq => by obtain ⟨e8, he8⟩ := some_ne (hdm q hq); rw [he8]; refine hkeep1 q e8 ((hzz1 q hq).trans he8) (fun i hi e7 => ?_); exact hnFx.1 i hi (e7 ▸ hq)
  have hk5 : ∀ i, 5 ≤ i → i < 9 → w56 (AD i) = w (AD i) := fun i h1 h2 => by obtain ⟨e8, he8⟩ := some_ne (hR.blk i (by omega)); rw [he8]; exact hkeep1 _ e8 ((hkk i (by omega) (by omega)).trans he8) (adX_out hinj (Or.inr ⟨h1, h2⟩))
  have hX2 : X4 dA AD w56 := by obtain ⟨ft8, pl8, hM8, -, -⟩ := hRS.2.1; exact ⟨ft8, pl8, _, hM8⟩
  have hVB : VB dA AD Fz w w56 β := ⟨Fz, ⟨h27, SI.unx (SI.of hRS.1), hM4.kept hk5 hz2 (fun _ h => h), hX2, P6.unx hRS.2.2.1, ⟨hnF, fd_kept hz2 hdm⟩, hpo, hrl⟩, fun _ h => Or.inl h, fun q e8 hq hn8 => hkeep1 q e8 ((hfr1 q (hn8 28 (by omega)) (hn8 29 (by omega)) (hn8 30 (by omega))).trans hq) (fun i hi => by obtain ⟨j, hj, e9⟩ := adX_is (AD := AD) (i := i); rw [e9 hi]; exact hn8 j hj)⟩
  refine lv_pop2_2 hx hb d_B_stale_32 rfl ?_
  refine lv_aload_n hx hb d_B_stale_33 rfl (lv_at hl 0 rfl) ?_
  refine va_get (D := (dC, dI)) (ci := 4) (v := .ref (AD 0)) (C := R_B) (T := F_B) (N := 4) hx hb hg in_B hown hK (hP.one h27) 0 rfl rfl 3 (by decide) (hg _ k_173) (fun _ h9 => h9) rfl d_B_stale_34 ?_
  refine va_getN (D := (dC, dI)) (ci := 2) (v := .int (nI (s_fl (sv (b_P β) wk 13 k (s_0 (b_tr β) (b_cl β) fa2)).2))) (C := R_S) (T := F_S) (N := 9) hx hb hg in_S hown hK (hP.one so) 0 rfl rfl 8 (by decide) (hn _ u_149) (fun _ h9 => h9) rfl d_B_stale_37 ?_
  exact th_pass X hnt (rx_S (n := 1) (As := [.int (nI (s_fl (sv (b_P β) wk 13 k (s_0 (b_tr β) (b_cl β) fa2)).2))]) (rest := []) X hP hS (t_B_throwFailure B0 X0 hlt w56 (s_fl (sv (b_P β) wk 13 k (s_0 (b_tr β) (b_cl β) fa2)).2) (by rw [hfl2]; exact Nat.pos_of_ne_zero hfl) hRS.2.2.2.2) k_494 k_495 k_54 k_496 (by decide +kernel) rfl rfl ⟨Nat.le_of_ble_eq_true rfl, Nat.le_of_ble_eq_true rfl⟩ rfl hl.1 rfl (Nat.le_of_ble_eq_true rfl) d_B_stale_40 ⟨Nat.le_of_ble_eq_true rfl, Nat.le_of_ble_eq_true rfl⟩) hS (fun E w9 h9 => ⟨by rw [← hfl2]; exact h9.1, h9.2 ▸ hVB⟩) (Nat.le_of_ble_eq_true rfl) (Nat.le_of_ble_eq_true rfl)
set_option maxHeartbeats 4000000 in
set_option maxRecDepth 100000 in
theorem t_B_stale {l : Launch} {s0 : State} {dC : Nat → ClassId} {dI : Nat → Nat → Nat} {dA : Nat → ClassId} (B0 : BB s0 dC dI dA) (X0 : XX s0) (hlt : l.stackTraces = false) (w : fw_W) (h : Nat) (x1 x2 : Int32) (ho : ¬ (okW x1 ∧ okK x2)) : vx_Met l y_B_stale [.code y_B_stale b_B_stale 3 (some .boolean)] ({ frames := 7, cells := 1, slots := 6, locals := 130 }) (mP s0 dC dI w [.ref h, .int x1, .int x2]) Qno (mX s0 dC dI (fun E w' => E = E_IA ∧ w' = w)) 1 6 (AA s0) := by
  refine mt_ofX B0 (by decide) (Nat.le_of_ble_eq_true rfl) (fun p e s m args below meth c ls hargs X hnt hl hP => ?_)
  have X9 := X
  obtain ⟨hx, hb, hr, hml, hown, hg, hK, hn, hE, hlocks, hA⟩ := X9
  have hS : va_S (AA s0) s.heap s.heap [] := va_S.rf
  have hl : lv_has ls 3 [(0, .ref h), (1, .int x1), (2, .int x2)] := hl
  refine lv_iload_n hx hb d_B_stale_0 rfl (lv_at hl 1 rfl) ?_
  rcases Classical.em (okW x1) with hw1 | hw1
  · refine va_callv (rn_S (n := 1) (As := [.int x1]) (rest := []) X hP hS (c_B_refuseBadWorker B0 w x1 hw1) k_349 k_350 k_54 k_351 (by decide +kernel) rfl rfl ⟨Nat.le_of_ble_eq_true rfl, Nat.le_of_ble_eq_true rfl⟩ rfl hl.1 rfl (Nat.le_of_ble_eq_true rfl) d_B_stale_1 ⟨Nat.le_of_ble_eq_true rfl, Nat.le_of_ble_eq_true rfl⟩) hS (fun q _ h => h) (fun q h => h) (fun w57 tS H locs ht hvm hw hB hz1 hk1 hS => ?_)
    have hP : fw_P (dC, dI) cls_ (AA s0) w57 H := by rw [← ht]; exact hB
    rw [hw] at hP
    refine lv_iload_n hx hb d_B_stale_4 rfl (lv_at hl 2 rfl) ?_
    exact th_pass X hnt (rx_S (n := 1) (As := [.int x2]) (rest := []) X hP hS (t_B_refuseBadKey B0 X0 hlt w x2 (fun h9 => ho ⟨hw1, h9⟩)) k_203 k_204 k_54 k_205 (by decide +kernel) rfl rfl ⟨Nat.le_of_ble_eq_true rfl, Nat.le_of_ble_eq_true rfl⟩ rfl hl.1 rfl (Nat.le_of_ble_eq_true rfl) d_B_stale_5 ⟨Nat.le_of_ble_eq_true rfl, Nat.le_of_ble_eq_true rfl⟩) hS (fun _ _ h => h) (Nat.le_of_ble_eq_true rfl) (Nat.le_of_ble_eq_true rfl)
  · exact th_pass X hnt (rx_S (n := 1) (As := [.int x1]) (rest := []) X hP hS (t_B_refuseBadWorker B0 X0 hlt w x1 hw1) k_349 k_350 k_54 k_351 (by decide +kernel) rfl rfl ⟨Nat.le_of_ble_eq_true rfl, Nat.le_of_ble_eq_true rfl⟩ rfl hl.1 rfl (Nat.le_of_ble_eq_true rfl) d_B_stale_1 ⟨Nat.le_of_ble_eq_true rfl, Nat.le_of_ble_eq_true rfl⟩) hS (fun _ _ h => h) (Nat.le_of_ble_eq_true rfl) (Nat.le_of_ble_eq_true rfl)
