def dHit (f t : Nat) (μ : MS) : MS := dFin f (m_came μ t) (u_mm μ (upd (m_trc μ) (12 * m_wkr μ + m_key μ f) (nI t), m_cch μ, m_cached μ, upd (m_cnt μ) (m_ph μ f) (m_cnt μ (m_ph μ f) + nI 1), m_circ μ))
def dAt (f n : Nat) (μ : MS) : MS := u_fr μ (m_key μ, m_ph μ, m_chk μ, va_up (m_at μ) f n, m_cand μ, m_cc μ, m_mk μ, m_asked μ, m_first μ, m_sum μ, m_hgt μ)
def dCnt (j : Nat) (μ : MS) : MS := u_mm μ (m_trc μ, m_cch μ, m_cached μ, upd (m_cnt μ) j (m_cnt μ j + nI 1), m_circ μ)
def dGo1 (f : Nat) (μ : MS) : MS := dAt f 1 (if m_at μ f = 0 then dCnt 0 μ else μ)
def kn (μ : MS) (t k n : Nat) : Prop := ∃ j, j < n ∧ m_keys μ (12 * t + j) = k
def dNote (t k : Nat) (v : Int64) (μ : MS) : MS := u_sl μ (va_up (m_size μ) t (m_size μ t + 1), va_up (m_keys μ) (12 * t + m_size μ t) k, m_own μ, vp_updL (m_got μ) (12 * t + m_size μ t) v, m_came μ)
theorem ask_t {k : Nat} {μ : MS} (h : dAskB k μ = true) : ∃ (st9 : Nat → Nat) (vl9 : Nat → Int64), dAsk k μ = u_se μ (m_thr μ, m_wkr μ, m_ran μ, st9, vl9) := by
  unfold dAskB at h
  unfold dAsk
  by_cases h1 : m_st μ k = 2
  · rw [if_pos h1]; exact ⟨m_st μ, m_val μ, rfl⟩
  · rw [if_neg h1] at h ⊢
    by_cases h2 : m_st μ k = 1
    · rw [if_pos h2] at h; cases h
    · rw [if_neg h2] at h ⊢
      by_cases h3 : m_sort μ k = 0
      · rw [if_pos h3] at h; cases h
      · rw [if_neg h3] at h ⊢
        by_cases h4 : m_sort μ k = 1
        · rw [if_pos h4]; exact ⟨_, _, rfl⟩
        · rw [if_neg h4] at h; cases h
set_option maxHeartbeats 4000000 in
set_option maxRecDepth 100000 in
theorem c_D_checkN {l : Launch} {s0 : State} {dC : Nat → ClassId} {dI : Nat → Nat → Nat} {dA : Nat → ClassId} (B0 : BB s0 dC dI dA) (w : fw_W) (md : Nat → Nat) (μ : MS) (f : Nat) (hj : Inj37 md) (hD : RD dA md w μ) (hok : nOK μ f) (hc : m_chk μ f = -1) : Met l y_D_check [.code y_D_check b_D_check 4 none] ({ frames := 2, cells := 0, slots := 0, locals := 80 }) (mP s0 dC dI w [.ref (md 36), .int (nI f)]) (mQv s0 dC dI (fun w' => NxR dA md w' μ f ∧ OutD md w w')) 0 0 (AA s0) := by
  have n1 := hok.2.1
  have o6 := hok.1.2.2.2.2.2.1
  refine mt_ofW B0 (by decide) (Nat.le_of_ble_eq_true rfl) (fun p e s m args below meth c ls hargs X hin hl hP => ?_)
  have X9 := X
  obtain ⟨hx, hb, hr, hml, hown, hg, hK, hn, hE, hlocks, hA⟩ := X9
  have hS : va_S (AA s0) s.heap s.heap [] := va_S.rf
  have hl : lv_has ls 4 [(0, .ref (md 36)), (1, .int (nI f))] := hl
  obtain ⟨r36, r0, r1, r2, r3, r4, r5, r6, r7, r8, ⟨u, r9⟩, r10, r11, r12, r13, r14, r15, r23, r24, r25, r26, r27, r28, r29, r30, r31, r32, r33, r34⟩ := (id hD)
  refine lv_aload_n hx hb d_D_check_0 rfl (lv_at hl 0 rfl) ?_
  refine va_get (D := (dC, dI)) (ci := 5) (v := .ref (md 27)) (C := R_D) (T := F_D) (N := 36) hx hb hg in_D hown hK (hP.one r36) 0 rfl rfl 27 (by decide) (hg _ k_618) (fun _ h9 => h9) rfl d_D_check_1 ?_
  refine lv_iload_n hx hb d_D_check_4 rfl (lv_at hl 1 rfl) ?_
  refine fw_iald (tys := tyl dA) hx hb hK hP r27 0 rfl (j := f) (by omega) (by decide) d_D_check_5 ?_
  rw [hc]
  refine lv_istore_n (lv' := [(2, .int (-1)), (0, .ref (md 36)), (1, .int (nI f))]) hx hb d_D_check_6 rfl hl (by decide) rfl (fun ls hl => ?_)
  refine lv_iload_n hx hb d_D_check_7 rfl (lv_at hl 0 rfl) ?_
  refine lv_if_ge (tgt := 17) hx hb d_D_check_8 (by decide) (fun c1 => ?_) (fun c1 => ?_)
  · exact absurd c1 (by decide)
  · refine lv_aload_n hx hb d_D_check_11 rfl (lv_at hl 1 rfl) ?_
    refine lv_iload_n hx hb d_D_check_12 rfl (lv_at hl 2 rfl) ?_
    refine va_callv (rn_V (n := 1) (As := [.int (nI f)]) (rest := []) (C := R_D) (T := F_D) (N := 36) (ci := 5) X hP hS (c_D_nextCandidate B0 w md μ f hj hD hok) k_771 k_773 k_49 k_58 k_774 (by decide +kernel) rfl rfl ⟨Nat.le_of_ble_eq_true rfl, Nat.le_of_ble_eq_true rfl⟩ r36 rfl rfl hl.1 rfl (Nat.le_of_ble_eq_true rfl) d_D_check_13 ⟨Nat.le_of_ble_eq_true rfl, Nat.le_of_ble_eq_true rfl⟩) hS (fun q _ h => h) (fun q h => h) (fun w1 tS H locs ht hvm hw hB hz1 hk1 hS => ?_)
    have hP : fw_P (dC, dI) cls_ (AA s0) w1 H := by rw [← ht]; exact hB
    exact W.vret hx hb hr (fun tS ht hW => ⟨⟨w1, rfl, hw, mB_of ht hP⟩, hS.F ht⟩) hS.2.2 d_D_check_16
set_option maxHeartbeats 4000000 in
set_option maxRecDepth 100000 in
theorem c_D_checkH {l : Launch} {s0 : State} {dC : Nat → ClassId} {dI : Nat → Nat → Nat} {dA : Nat → ClassId} (B0 : BB s0 dC dI dA) (w : fw_W) (md : Nat → Nat) (μ : MS) (f t : Nat) (hj : Inj37 md) (hD : RD dA md w μ) (hf : f < 12) (ht : t < 320) (hc : m_chk μ f = nI t) (hk : m_key μ f < 12) (hp : m_ph μ f < 4) (hwk : m_wkr μ < 2) (hsz : m_size μ t < 100) (ha : m_at μ f = m_size μ t) (hh : 0 < m_hgt μ) : Met l y_D_check [.code y_D_check b_D_check 4 none] ({ frames := 1, cells := 0, slots := 0, locals := 40 }) (mP s0 dC dI w [.ref (md 36), .int (nI f)]) (mQv s0 dC dI (fun w' => RD dA md w' (dHit f t μ) ∧ OutD md w w')) 0 0 (AA s0) := by
  have ht9 := ht
  refine mt_ofW B0 (by decide) (Nat.le_of_ble_eq_true rfl) (fun p e s m args below meth c ls hargs X hin hl hP => ?_)
  have X9 := X
  obtain ⟨hx, hb, hr, hml, hown, hg, hK, hn, hE, hlocks, hA⟩ := X9
  have hS : va_S (AA s0) s.heap s.heap [] := va_S.rf
  have hl : lv_has ls 4 [(0, .ref (md 36)), (1, .int (nI f))] := hl
  obtain ⟨r36, r0, r1, r2, r3, r4, r5, r6, r7, r8, ⟨u, r9⟩, r10, r11, r12, r13, r14, r15, r23, r24, r25, r26, r27, r28, r29, r30, r31, r32, r33, r34⟩ := (id hD)
  refine lv_aload_n hx hb d_D_check_0 rfl (lv_at hl 0 rfl) ?_
  refine va_get (D := (dC, dI)) (ci := 5) (v := .ref (md 27)) (C := R_D) (T := F_D) (N := 36) hx hb hg in_D hown hK (hP.one r36) 0 rfl rfl 27 (by decide) (hg _ k_618) (fun _ h9 => h9) rfl d_D_check_1 ?_
  refine lv_iload_n hx hb d_D_check_4 rfl (lv_at hl 1 rfl) ?_
  refine fw_iald (tys := tyl dA) hx hb hK hP r27 0 rfl (j := f) (by omega) (by decide) d_D_check_5 ?_
  rw [hc]
  refine lv_istore_n (lv' := [(2, .int (nI t)), (0, .ref (md 36)), (1, .int (nI f))]) hx hb d_D_check_6 rfl hl (by decide) rfl (fun ls hl => ?_)
  refine lv_iload_n hx hb d_D_check_7 rfl (lv_at hl 0 rfl) ?_
  refine lv_if_ge (tgt := 17) hx hb d_D_check_8 (by decide) (fun c1 => ?_) (fun c1 => absurd (show (0 : Int32) ≤ nI t from Int32.not_lt.mp (nI_nn (by omega))) c1)
  refine lv_aload_n hx hb d_D_check_17 rfl (lv_at hl 1 rfl) ?_
  refine va_get (D := (dC, dI)) (ci := 5) (v := .ref (md 28)) (C := R_D) (T := F_D) (N := 36) hx hb hg in_D hown hK (hP.one r36) 0 rfl rfl 28 (by decide) (hg _ k_619) (fun _ h9 => h9) rfl d_D_check_18 ?_
  refine lv_iload_n hx hb d_D_check_21 rfl (lv_at hl 2 rfl) ?_
  refine fw_iald (tys := tyl dA) hx hb hK hP r28 0 rfl (j := f) (by omega) (by decide) d_D_check_22 ?_
  refine lv_aload_n hx hb d_D_check_23 rfl (lv_at hl 1 rfl) ?_
  refine va_get (D := (dC, dI)) (ci := 5) (v := .ref (md 4)) (C := R_D) (T := F_D) (N := 36) hx hb hg in_D hown hK (hP.one r36) 0 rfl rfl 4 (by decide) (hg _ k_595) (fun _ h9 => h9) rfl d_D_check_24 ?_
  refine lv_iload_n hx hb d_D_check_27 rfl (lv_at hl 0 rfl) ?_
  refine fw_iald (tys := tyl dA) hx hb hK hP r4 0 rfl (j := t) ht9 (by decide) d_D_check_28 ?_
  refine nu_ne (tgt := 79) hx hb (by omega) (by omega) d_D_check_29 (by decide) (fun c2 => ?_) (fun c2 => ?_)
  · exact absurd ha c2
  · refine lv_aload_n hx hb d_D_check_32 rfl (lv_at hl 1 rfl) ?_
    refine va_get (D := (dC, dI)) (ci := 5) (v := .ref (md 14)) (C := R_D) (T := F_D) (N := 36) hx hb hg in_D hown hK (hP.one r36) 0 rfl rfl 14 (by decide) (hg _ k_605) (fun _ h9 => h9) rfl d_D_check_33 ?_
    refine lv_aload_n hx hb d_D_check_36 rfl (lv_at hl 1 rfl) ?_
    refine va_get (D := (dC, dI)) (ci := 5) (v := .ref (md 26)) (C := R_D) (T := F_D) (N := 36) hx hb hg in_D hown hK (hP.one r36) 0 rfl rfl 26 (by decide) (hg _ k_617) (fun _ h9 => h9) rfl d_D_check_37 ?_
    refine lv_iload_n hx hb d_D_check_40 rfl (lv_at hl 2 rfl) ?_
    refine fw_iald (tys := tyl dA) hx hb hK hP r26 0 rfl (j := f) (by omega) (by decide) d_D_check_41 ?_
    refine lv_dup2_11 hx hb d_D_check_42 rfl rfl ?_
    refine fw_iald (tys := tyl dA) hx hb hK hP r14 0 rfl (j := (m_ph μ) f) (by omega) (by decide) d_D_check_43 ?_
    refine lv_iconst (v := (nI 1)) hx hb d_D_check_44 (by decide) ?_
    refine lv_iadd hx hb d_D_check_45 ?_
    refine fw_iast (tys := tyl dA) hx hb hK hP hS r14 0 rfl (j := (m_ph μ) f) (x := (((m_cnt μ) ((m_ph μ) f)) + (nI 1))) (by omega) (by decide) d_D_check_46 (fun w2 H locs ew3 hP hS => ?_)
    have r14 : w2 (md 14) = some (.inl (dA 0, 7, .inl (upd (m_cnt μ) ((m_ph μ) f) (((m_cnt μ) ((m_ph μ) f)) + (nI 1))))) := by rw [ew3]; exact va_up_self _ _ _
    have ho4 : OutD md w w2 := OutD.up OutD.rf ew3 (by decide)
    refine lv_aload_n hx hb d_D_check_47 rfl (lv_at hl 1 rfl) ?_
    have r36 : w2 (md 36) = some (.inr (5, [.ref (md 0), .ref (md 1), .ref (md 2), .ref (md 3), .ref (md 4), .ref (md 5), .ref (md 6), .ref (md 7), .ref (md 8), .ref (md 9), .ref (md 10), .ref (md 11), .ref (md 12), .ref (md 13), .ref (md 14), .ref (md 15), .int (nI (m_cached μ)), .int (nI (m_ocached μ)), .int (m_circ μ), .int (m_ocirc μ), .int (nI (m_thr μ)), .int (nI (m_wkr μ)), .int (nI (m_ran μ).toNat), .ref (md 23), .ref (md 24), .ref (md 25), .ref (md 26), .ref (md 27), .ref (md 28), .ref (md 29), .ref (md 30), .ref (md 31), .ref (md 32), .ref (md 33), .ref (md 34), .int (nI (m_hgt μ))])) := by rw [ew3, va_up_ne _ _ (hj.ne (i := 36) (j := 14) (by decide) (by decide) (by decide))]; exact r36
    refine va_get (D := (dC, dI)) (ci := 5) (v := .ref (md 10)) (C := R_D) (T := F_D) (N := 36) hx hb hg in_D hown hK (hP.one r36) 0 rfl rfl 10 (by decide) (hg _ k_601) (fun _ h9 => h9) rfl d_D_check_48 ?_
    refine lv_aload_n hx hb d_D_check_51 rfl (lv_at hl 1 rfl) ?_
    refine va_get (D := (dC, dI)) (ci := 5) (v := .int (nI (m_wkr μ))) (C := R_D) (T := F_D) (N := 36) hx hb hg in_D hown hK (hP.one r36) 0 rfl rfl 21 (by decide) (hg _ k_612) (fun _ h9 => h9) rfl d_D_check_52 ?_
    refine lv_bipush (v := (nI 12)) hx hb d_D_check_55 (by decide) ?_
    refine nu_imul (r := 12 * (m_wkr μ)) hx hb d_D_check_57 (by omega) ?_
    refine lv_aload_n hx hb d_D_check_58 rfl (lv_at hl 1 rfl) ?_
    refine va_get (D := (dC, dI)) (ci := 5) (v := .ref (md 25)) (C := R_D) (T := F_D) (N := 36) hx hb hg in_D hown hK (hP.one r36) 0 rfl rfl 25 (by decide) (hg _ k_616) (fun _ h9 => h9) rfl d_D_check_59 ?_
    refine lv_iload_n hx hb d_D_check_62 rfl (lv_at hl 2 rfl) ?_
    have r25 : w2 (md 25) = some (.inl (dA 0, 13, .inl (nf (m_key μ)))) := by rw [ew3, va_up_ne _ _ (hj.ne (i := 25) (j := 14) (by decide) (by decide) (by decide))]; exact r25
    refine fw_iald (tys := tyl dA) hx hb hK hP r25 0 rfl (j := f) (by omega) (by decide) d_D_check_63 ?_
    refine nu_iadd (r := 12 * (m_wkr μ) + ((m_key μ) f)) hx hb d_D_check_64 (by omega) ?_
    refine lv_iload_n hx hb d_D_check_65 rfl (lv_at hl 0 rfl) ?_
    have r10 : w2 (md 10) = some (.inl (dA 0, 24, .inl (m_trc μ))) := by rw [ew3, va_up_ne _ _ (hj.ne (i := 10) (j := 14) (by decide) (by decide) (by decide))]; exact r10
    refine fw_iast (tys := tyl dA) hx hb hK hP hS r10 0 rfl (j := 12 * (m_wkr μ) + ((m_key μ) f)) (x := (nI t)) (by omega) (by decide) d_D_check_66 (fun w5 H locs ew6 hP hS => ?_)
    have r10 : w5 (md 10) = some (.inl (dA 0, 24, .inl (upd (m_trc μ) (12 * (m_wkr μ) + ((m_key μ) f)) (nI t)))) := by rw [ew6]; exact va_up_self _ _ _
    have ho7 : OutD md w w5 := OutD.up ho4 ew6 (by decide)
    refine lv_aload_n hx hb d_D_check_67 rfl (lv_at hl 1 rfl) ?_
    refine lv_iload_n hx hb d_D_check_68 rfl (lv_at hl 2 rfl) ?_
    refine lv_aload_n hx hb d_D_check_69 rfl (lv_at hl 1 rfl) ?_
    have r36 : w5 (md 36) = some (.inr (5, [.ref (md 0), .ref (md 1), .ref (md 2), .ref (md 3), .ref (md 4), .ref (md 5), .ref (md 6), .ref (md 7), .ref (md 8), .ref (md 9), .ref (md 10), .ref (md 11), .ref (md 12), .ref (md 13), .ref (md 14), .ref (md 15), .int (nI (m_cached μ)), .int (nI (m_ocached μ)), .int (m_circ μ), .int (m_ocirc μ), .int (nI (m_thr μ)), .int (nI (m_wkr μ)), .int (nI (m_ran μ).toNat), .ref (md 23), .ref (md 24), .ref (md 25), .ref (md 26), .ref (md 27), .ref (md 28), .ref (md 29), .ref (md 30), .ref (md 31), .ref (md 32), .ref (md 33), .ref (md 34), .int (nI (m_hgt μ))])) := by rw [ew6, va_up_ne _ _ (hj.ne (i := 36) (j := 10) (by decide) (by decide) (by decide))]; exact r36
    refine va_get (D := (dC, dI)) (ci := 5) (v := .ref (md 8)) (C := R_D) (T := F_D) (N := 36) hx hb hg in_D hown hK (hP.one r36) 0 rfl rfl 8 (by decide) (hg _ k_599) (fun _ h9 => h9) rfl d_D_check_70 ?_
    refine lv_iload_n hx hb d_D_check_73 rfl (lv_at hl 0 rfl) ?_
    have r8 : w5 (md 8) = some (.inl (dA 1, 320, .inr (.inl (m_came μ)))) := by rw [ew6, va_up_ne _ _ (hj.ne (i := 8) (j := 10) (by decide) (by decide) (by decide)), ew3, va_up_ne _ _ (hj.ne (i := 8) (j := 14) (by decide) (by decide) (by decide))]; exact r8
    refine fw_lald (tys := tyl dA) hx hb hK hP r8 1 rfl (j := t) ht9 (by decide) d_D_check_74 ?_
    have hk8 : ∀ i, U37 i → i ∉ [10, 14] → w5 (md i) = w (md i) := fun i hi hn => by rw [ew6, va_up_ne _ _ (hj.ne hi (j := 10) (by decide) (fun e9 => hn (by rw [e9]; decide))), ew3, va_up_ne _ _ (hj.ne hi (j := 14) (by decide) (fun e9 => hn (by rw [e9]; decide)))]
    have hk9 : ∀ i, U37 i → i ∉ [10] → w5 (md i) = w2 (md i) := fun i hi hn => by rw [ew6, va_up_ne _ _ (hj.ne hi (j := 10) (by decide) (fun e9 => hn (by rw [e9]; decide)))]
    have hRq : RD dA md w5 (((m_sort μ), (m_rule μ), m_parts μ, m_inp μ), ((m_size μ), (m_keys μ), (m_own μ), m_got μ, m_came μ), (upd (m_trc μ) (12 * (m_wkr μ) + ((m_key μ) f)) (nI t), (m_cch μ), m_cached μ, upd (m_cnt μ) ((m_ph μ) f) (((m_cnt μ) ((m_ph μ) f)) + (nI 1)), (m_circ μ)), (m_otrc μ, (m_occh μ), m_ocached μ, m_ocnt μ, (m_ocirc μ)), (m_thr μ, m_wkr μ, (m_ran μ), (m_st μ), m_val μ), ((m_key μ), (m_ph μ), m_chk μ, (m_at μ), (m_cand μ), (m_cc μ), (m_mk μ), (m_asked μ), m_first μ, m_sum μ, m_hgt μ)) := ⟨r36, (hk8 0 (by decide) (by decide)).trans r0, (hk8 1 (by decide) (by decide)).trans r1, (hk8 2 (by decide) (by decide)).trans r2, (hk8 3 (by decide) (by decide)).trans r3, (hk8 4 (by decide) (by decide)).trans r4, (hk8 5 (by decide) (by decide)).trans r5, (hk8 6 (by decide) (by decide)).trans r6, (hk8 7 (by decide) (by decide)).trans r7, r8, ⟨_, (hk8 9 (by decide) (by decide)).trans r9⟩, r10, (hk8 11 (by decide) (by decide)).trans r11, (hk8 12 (by decide) (by decide)).trans r12, (hk8 13 (by decide) (by decide)).trans r13, (hk9 14 (by decide) (by decide)).trans r14, (hk8 15 (by decide) (by decide)).trans r15, (hk8 23 (by decide) (by decide)).trans r23, (hk8 24 (by decide) (by decide)).trans r24, (hk9 25 (by decide) (by decide)).trans r25, (hk8 26 (by decide) (by decide)).trans r26, (hk8 27 (by decide) (by decide)).trans r27, (hk8 28 (by decide) (by decide)).trans r28, (hk8 29 (by decide) (by decide)).trans r29, (hk8 30 (by decide) (by decide)).trans r30, (hk8 31 (by decide) (by decide)).trans r31, (hk8 32 (by decide) (by decide)).trans r32, (hk8 33 (by decide) (by decide)).trans r33, (hk8 34 (by decide) (by decide)).trans r34⟩
    refine va_callv (rn_V (n := 2) (As := [.int (nI f), .long ((m_came μ) t)]) (rest := []) (C := R_D) (T := F_D) (N := 36) (ci := 5) X hP hS (c_D_finish B0 w5 md (((m_sort μ), (m_rule μ), m_parts μ, m_inp μ), ((m_size μ), (m_keys μ), (m_own μ), m_got μ, m_came μ), (upd (m_trc μ) (12 * (m_wkr μ) + ((m_key μ) f)) (nI t), (m_cch μ), m_cached μ, upd (m_cnt μ) ((m_ph μ) f) (((m_cnt μ) ((m_ph μ) f)) + (nI 1)), (m_circ μ)), (m_otrc μ, (m_occh μ), m_ocached μ, m_ocnt μ, (m_ocirc μ)), (m_thr μ, m_wkr μ, (m_ran μ), (m_st μ), m_val μ), ((m_key μ), (m_ph μ), m_chk μ, (m_at μ), (m_cand μ), (m_cc μ), (m_mk μ), (m_asked μ), m_first μ, m_sum μ, m_hgt μ)) f (m_came μ t) hj hRq (by omega) hk hh) k_759 k_761 k_46 k_58 k_762 (by decide +kernel) rfl rfl ⟨Nat.le_of_ble_eq_true rfl, Nat.le_of_ble_eq_true rfl⟩ r36 rfl rfl hl.1 rfl (Nat.le_of_ble_eq_true rfl) d_D_check_75 ⟨Nat.le_of_ble_eq_true rfl, Nat.le_of_ble_eq_true rfl⟩) hS (fun q _ h => h) (fun q h => h) (fun w10 tS H locs ht hvm hw hB hz1 hk1 hS => ?_)
    have hP : fw_P (dC, dI) cls_ (AA s0) w10 H := by rw [← ht]; exact hB
    obtain ⟨hR8, ho8⟩ := hw
    have ho11 : OutD md w w10 := OutD.tr ho7 ho8
    exact W.vret hx hb hr (fun tS ht hW => ⟨⟨w10, rfl, ⟨hR8, ho11⟩, mB_of ht hP⟩, hS.F ht⟩) hS.2.2 d_D_check_78
set_option maxHeartbeats 4000000 in
set_option maxRecDepth 100000 in
theorem c_D_checkA {l : Launch} {s0 : State} {dC : Nat → ClassId} {dI : Nat → Nat → Nat} {dA : Nat → ClassId} (B0 : BB s0 dC dI dA) (w : fw_W) (md : Nat → Nat) (μ : MS) (f t k : Nat) (hj : Inj37 md) (hD : RD dA md w μ) (hok : nOK μ f) (ht : t < 320) (hc : m_chk μ f = nI t) (hwk : m_wkr μ < 2) (hsz : m_size μ t ≤ 3) (ha : m_at μ f < m_size μ t) (hkk : m_keys μ (12 * t + m_at μ f) = k) (hk : k < 12) (hs3 : m_st μ k < 3) (hq3 : m_sort μ k < 3) : Met l y_D_check [.code y_D_check b_D_check 4 none] ({ frames := 3, cells := 0, slots := 0, locals := 120 }) (mP s0 dC dI w [.ref (md 36), .int (nI f)]) (mQv s0 dC dI (fun w' => ((dAskB k μ = false ∧ RD dA md w' (dAsk k μ)) ∨ (dAskB k μ = true ∧ m_val (dAsk k μ) k = m_got μ (12 * t + m_at μ f) ∧ RD dA md w' (dAt f (m_at μ f + 1) (dAsk k μ))) ∨ (dAskB k μ = true ∧ m_val (dAsk k μ) k ≠ m_got μ (12 * t + m_at μ f) ∧ NxR dA md w' (dAsk k μ) f)) ∧ OutD md w w')) 0 0 (AA s0) := by
  have n1 := hok.2.1
  have o6 := hok.1.2.2.2.2.2.1
  have ht9 := ht
  refine mt_ofW B0 (by decide) (Nat.le_of_ble_eq_true rfl) (fun p e s m args below meth c ls hargs X hin hl hP => ?_)
  have X9 := X
  obtain ⟨hx, hb, hr, hml, hown, hg, hK, hn, hE, hlocks, hA⟩ := X9
  have hS : va_S (AA s0) s.heap s.heap [] := va_S.rf
  have hl : lv_has ls 4 [(0, .ref (md 36)), (1, .int (nI f))] := hl
  obtain ⟨r36, r0, r1, r2, r3, r4, r5, r6, r7, r8, ⟨u, r9⟩, r10, r11, r12, r13, r14, r15, r23, r24, r25, r26, r27, r28, r29, r30, r31, r32, r33, r34⟩ := (id hD)
  refine lv_aload_n hx hb d_D_check_0 rfl (lv_at hl 0 rfl) ?_
  refine va_get (D := (dC, dI)) (ci := 5) (v := .ref (md 27)) (C := R_D) (T := F_D) (N := 36) hx hb hg in_D hown hK (hP.one r36) 0 rfl rfl 27 (by decide) (hg _ k_618) (fun _ h9 => h9) rfl d_D_check_1 ?_
  refine lv_iload_n hx hb d_D_check_4 rfl (lv_at hl 1 rfl) ?_
  refine fw_iald (tys := tyl dA) hx hb hK hP r27 0 rfl (j := f) (by omega) (by decide) d_D_check_5 ?_
  rw [hc]
  refine lv_istore_n (lv' := [(2, .int (nI t)), (0, .ref (md 36)), (1, .int (nI f))]) hx hb d_D_check_6 rfl hl (by decide) rfl (fun ls hl => ?_)
  refine lv_iload_n hx hb d_D_check_7 rfl (lv_at hl 0 rfl) ?_
  refine lv_if_ge (tgt := 17) hx hb d_D_check_8 (by decide) (fun c1 => ?_) (fun c1 => absurd (show (0 : Int32) ≤ nI t from Int32.not_lt.mp (nI_nn (by omega))) c1)
  refine lv_aload_n hx hb d_D_check_17 rfl (lv_at hl 1 rfl) ?_
  refine va_get (D := (dC, dI)) (ci := 5) (v := .ref (md 28)) (C := R_D) (T := F_D) (N := 36) hx hb hg in_D hown hK (hP.one r36) 0 rfl rfl 28 (by decide) (hg _ k_619) (fun _ h9 => h9) rfl d_D_check_18 ?_
  refine lv_iload_n hx hb d_D_check_21 rfl (lv_at hl 2 rfl) ?_
  refine fw_iald (tys := tyl dA) hx hb hK hP r28 0 rfl (j := f) (by omega) (by decide) d_D_check_22 ?_
  refine lv_aload_n hx hb d_D_check_23 rfl (lv_at hl 1 rfl) ?_
  refine va_get (D := (dC, dI)) (ci := 5) (v := .ref (md 4)) (C := R_D) (T := F_D) (N := 36) hx hb hg in_D hown hK (hP.one r36) 0 rfl rfl 4 (by decide) (hg _ k_595) (fun _ h9 => h9) rfl d_D_check_24 ?_
  refine lv_iload_n hx hb d_D_check_27 rfl (lv_at hl 0 rfl) ?_
  refine fw_iald (tys := tyl dA) hx hb hK hP r4 0 rfl (j := t) ht9 (by decide) d_D_check_28 ?_
  refine nu_ne (tgt := 79) hx hb (by omega) (by omega) d_D_check_29 (by decide) (fun c2 => ?_) (fun c2 => ?_)
  · refine lv_aload_n hx hb d_D_check_79 rfl (lv_at hl 1 rfl) ?_
    refine va_get (D := (dC, dI)) (ci := 5) (v := .ref (md 5)) (C := R_D) (T := F_D) (N := 36) hx hb hg in_D hown hK (hP.one r36) 0 rfl rfl 5 (by decide) (hg _ k_596) (fun _ h9 => h9) rfl d_D_check_80 ?_
    refine lv_iload_n hx hb d_D_check_83 rfl (lv_at hl 0 rfl) ?_
    refine lv_bipush (v := (nI 12)) hx hb d_D_check_84 (by decide) ?_
    refine nu_imul (r := 12 * t) hx hb d_D_check_86 (by omega) ?_
    refine lv_aload_n hx hb d_D_check_87 rfl (lv_at hl 1 rfl) ?_
    refine va_get (D := (dC, dI)) (ci := 5) (v := .ref (md 28)) (C := R_D) (T := F_D) (N := 36) hx hb hg in_D hown hK (hP.one r36) 0 rfl rfl 28 (by decide) (hg _ k_619) (fun _ h9 => h9) rfl d_D_check_88 ?_
    refine lv_iload_n hx hb d_D_check_91 rfl (lv_at hl 2 rfl) ?_
    refine fw_iald (tys := tyl dA) hx hb hK hP r28 0 rfl (j := f) (by omega) (by decide) d_D_check_92 ?_
    refine nu_iadd (r := 12 * t + ((m_at μ) f)) hx hb d_D_check_93 (by omega) ?_
    refine fw_iald (tys := tyl dA) hx hb hK hP r5 0 rfl (j := 12 * t + ((m_at μ) f)) (by omega) (by decide) d_D_check_94 ?_
    rw [show nf (m_keys μ) (12 * t + m_at μ f) = nI k from congrArg nI hkk]
    refine lv_istore_n (lv' := [(3, .int (nI k)), (2, .int (nI t)), (0, .ref (md 36)), (1, .int (nI f))]) hx hb d_D_check_95 rfl hl (by decide) rfl (fun ls hl => ?_)
    refine lv_aload_n hx hb d_D_check_96 rfl (lv_at hl 2 rfl) ?_
    refine lv_iload_n hx hb d_D_check_97 rfl (lv_at hl 0 rfl) ?_
    refine va_calli (rn_V (n := 1) (As := [.int (nI k)]) (rest := []) (C := R_D) (T := F_D) (N := 36) (ci := 5) X hP hS (c_D_ask B0 w md μ k hj hD hk hwk (by omega) hs3 hq3) k_735 k_737 k_41 k_58 k_738 (by decide +kernel) rfl rfl ⟨Nat.le_of_ble_eq_true rfl, Nat.le_of_ble_eq_true rfl⟩ r36 rfl rfl hl.1 rfl (Nat.le_of_ble_eq_true rfl) d_D_check_98 ⟨Nat.le_of_ble_eq_true rfl, Nat.le_of_ble_eq_true rfl⟩) hS (fun q _ h => h) (fun q h => h) (fun r w12 tS H locs ht hvm hw hB hz1 hk1 hS => ?_)
    have hP : fw_P (dC, dI) cls_ (AA s0) w12 H := by rw [← ht]; exact hB
    obtain ⟨rfl, hR8, ho8⟩ := hw
    have ho13 : OutD md w w12 := OutD.tr OutD.rf ho8
    refine nu_ifne (tgt := 105) hx hb d_D_check_101 (by decide) (fun c3 => ?_) (fun c3 => ?_)
    · obtain ⟨st9, vl9, hA9⟩ := ask_t c3
      rw [hA9] at hR8
      have hok1 : nOK (u_se μ (m_thr μ, m_wkr μ, m_ran μ, st9, vl9)) f := hok
      obtain ⟨r36, r0, r1, r2, r3, r4, r5, r6, r7, r8, ⟨u, r9⟩, r10, r11, r12, r13, r14, r15, r23, r24, r25, r26, r27, r28, r29, r30, r31, r32, r33, r34⟩ := (id hR8)
      refine lv_aload_n hx hb d_D_check_105 rfl (lv_at hl 2 rfl) ?_
      have r36 : w12 (md 36) = some (.inr (5, [.ref (md 0), .ref (md 1), .ref (md 2), .ref (md 3), .ref (md 4), .ref (md 5), .ref (md 6), .ref (md 7), .ref (md 8), .ref (md 9), .ref (md 10), .ref (md 11), .ref (md 12), .ref (md 13), .ref (md 14), .ref (md 15), .int (nI (m_cached μ)), .int (nI (m_ocached μ)), .int (m_circ μ), .int (m_ocirc μ), .int (nI (m_thr μ)), .int (nI (m_wkr μ)), .int (nI (m_ran μ).toNat), .ref (md 23), .ref (md 24), .ref (md 25), .ref (md 26), .ref (md 27), .ref (md 28), .ref (md 29), .ref (md 30), .ref (md 31), .ref (md 32), .ref (md 33), .ref (md 34), .int (nI (m_hgt μ))])) := r36
      refine va_get (D := (dC, dI)) (ci := 5) (v := .ref (md 24)) (C := R_D) (T := F_D) (N := 36) hx hb hg in_D hown hK (hP.one r36) 0 rfl rfl 24 (by decide) (hg _ k_615) (fun _ h9 => h9) rfl d_D_check_106 ?_
      refine lv_iload_n hx hb d_D_check_109 rfl (lv_at hl 0 rfl) ?_
      have r24 : w12 (md 24) = some (.inl (dA 1, 12, .inr (.inl vl9))) := r24
      refine fw_lald (tys := tyl dA) hx hb hK hP r24 1 rfl (j := k) (by omega) (by decide) d_D_check_110 ?_
      refine lv_aload_n hx hb d_D_check_111 rfl (lv_at hl 2 rfl) ?_
      refine va_get (D := (dC, dI)) (ci := 5) (v := .ref (md 7)) (C := R_D) (T := F_D) (N := 36) hx hb hg in_D hown hK (hP.one r36) 0 rfl rfl 7 (by decide) (hg _ k_598) (fun _ h9 => h9) rfl d_D_check_112 ?_
      refine lv_iload_n hx hb d_D_check_115 rfl (lv_at hl 1 rfl) ?_
      refine lv_bipush (v := (nI 12)) hx hb d_D_check_116 (by decide) ?_
      refine nu_imul (r := 12 * t) hx hb d_D_check_118 (by omega) ?_
      refine lv_aload_n hx hb d_D_check_119 rfl (lv_at hl 2 rfl) ?_
      refine va_get (D := (dC, dI)) (ci := 5) (v := .ref (md 28)) (C := R_D) (T := F_D) (N := 36) hx hb hg in_D hown hK (hP.one r36) 0 rfl rfl 28 (by decide) (hg _ k_619) (fun _ h9 => h9) rfl d_D_check_120 ?_
      refine lv_iload_n hx hb d_D_check_123 rfl (lv_at hl 3 rfl) ?_
      have r28 : w12 (md 28) = some (.inl (dA 0, 13, .inl (nf (m_at μ)))) := r28
      refine fw_iald (tys := tyl dA) hx hb hK hP r28 0 rfl (j := f) (by omega) (by decide) d_D_check_124 ?_
      refine nu_iadd (r := 12 * t + ((m_at μ) f)) hx hb d_D_check_125 (by omega) ?_
      have r7 : w12 (md 7) = some (.inl (dA 1, 3840, .inr (.inl (m_got μ)))) := r7
      refine fw_lald (tys := tyl dA) hx hb hK hP r7 1 rfl (j := 12 * t + ((m_at μ) f)) (by omega) (by decide) d_D_check_126 ?_
      refine W.lcmp hx hb d_D_check_127 ?_
      refine lv_if_ne (tgt := 144) hx hb d_D_check_128 (by decide) (fun c4 => ?_) (fun c4 => ?_)
      · have hne : vl9 k ≠ m_got μ (12 * t + m_at μ f) := fun h9 => c4 ((lg_cmp_eq _ _).mpr h9)
        refine lv_aload_n hx hb d_D_check_144 rfl (lv_at hl 2 rfl) ?_
        refine lv_iload_n hx hb d_D_check_145 rfl (lv_at hl 3 rfl) ?_
        refine va_callv (rn_V (n := 1) (As := [.int (nI f)]) (rest := []) (C := R_D) (T := F_D) (N := 36) (ci := 5) X hP hS (c_D_nextCandidate B0 w12 md (u_se μ (m_thr μ, m_wkr μ, m_ran μ, st9, vl9)) f hj hR8 hok1) k_771 k_773 k_49 k_58 k_774 (by decide +kernel) rfl rfl ⟨Nat.le_of_ble_eq_true rfl, Nat.le_of_ble_eq_true rfl⟩ r36 rfl rfl hl.1 rfl (Nat.le_of_ble_eq_true rfl) d_D_check_146 ⟨Nat.le_of_ble_eq_true rfl, Nat.le_of_ble_eq_true rfl⟩) hS (fun q _ h => h) (fun q h => h) (fun w14 tS H locs ht hvm hw hB hz1 hk1 hS => ?_)
        have hP : fw_P (dC, dI) cls_ (AA s0) w14 H := by rw [← ht]; exact hB
        obtain ⟨hN8, ho8⟩ := hw
        have ho15 : OutD md w w14 := OutD.tr ho13 ho8
        exact W.vret hx hb hr (fun tS ht hW => ⟨⟨w14, rfl, ⟨Or.inr (Or.inr ⟨c3, by rw [hA9]; exact hne, by rw [hA9]; exact hN8⟩), ho15⟩, mB_of ht hP⟩, hS.F ht⟩) hS.2.2 d_D_check_149
      · have heq : vl9 k = m_got μ (12 * t + m_at μ f) := (lg_cmp_eq _ _).mp c4
        refine lv_aload_n hx hb d_D_check_131 rfl (lv_at hl 2 rfl) ?_
        refine va_get (D := (dC, dI)) (ci := 5) (v := .ref (md 28)) (C := R_D) (T := F_D) (N := 36) hx hb hg in_D hown hK (hP.one r36) 0 rfl rfl 28 (by decide) (hg _ k_619) (fun _ h9 => h9) rfl d_D_check_132 ?_
        refine lv_iload_n hx hb d_D_check_135 rfl (lv_at hl 3 rfl) ?_
        refine lv_dup2_11 hx hb d_D_check_136 rfl rfl ?_
        refine fw_iald (tys := tyl dA) hx hb hK hP r28 0 rfl (j := f) (by omega) (by decide) d_D_check_137 ?_
        refine lv_iconst (v := (nI 1)) hx hb d_D_check_138 (by decide) ?_
        refine nu_iadd (r := (m_at μ) f + 1) hx hb d_D_check_139 (by omega) ?_
        refine fw_iast (tys := tyl dA) hx hb hK hP hS r28 0 rfl (j := f) (x := (nI ((m_at μ) f + 1))) (by omega) (by decide) d_D_check_140 (fun w16 H locs ew17 hP hS => ?_)
        rw [nf_up] at ew17
        have r28 : w16 (md 28) = some (.inl (dA 0, 13, .inl (nf (va_up (m_at μ) f ((m_at μ) f + 1))))) := by rw [ew17]; exact va_up_self _ _ _
        have ho18 : OutD md w w16 := OutD.up ho13 ew17 (by decide)
        refine lv_goto (tgt := 149) hx hb d_D_check_141 (by decide) ?_
        have hk19 : ∀ i, U37 i → i ∉ [28] → w16 (md i) = w12 (md i) := fun i hi hn => by rw [ew17, va_up_ne _ _ (hj.ne hi (j := 28) (by decide) (fun e9 => hn (by rw [e9]; decide)))]
        exact W.vret hx hb hr (fun tS ht hW => ⟨⟨w16, rfl, ⟨Or.inr (Or.inl ⟨c3, by rw [hA9]; exact heq, by rw [hA9]; exact ⟨(hk19 36 (by decide) (by decide)).trans r36, (hk19 0 (by decide) (by decide)).trans r0, (hk19 1 (by decide) (by decide)).trans r1, (hk19 2 (by decide) (by decide)).trans r2, (hk19 3 (by decide) (by decide)).trans r3, (hk19 4 (by decide) (by decide)).trans r4, (hk19 5 (by decide) (by decide)).trans r5, (hk19 6 (by decide) (by decide)).trans r6, (hk19 7 (by decide) (by decide)).trans r7, (hk19 8 (by decide) (by decide)).trans r8, ⟨_, (hk19 9 (by decide) (by decide)).trans r9⟩, (hk19 10 (by decide) (by decide)).trans r10, (hk19 11 (by decide) (by decide)).trans r11, (hk19 12 (by decide) (by decide)).trans r12, (hk19 13 (by decide) (by decide)).trans r13, (hk19 14 (by decide) (by decide)).trans r14, (hk19 15 (by decide) (by decide)).trans r15, (hk19 23 (by decide) (by decide)).trans r23, (hk19 24 (by decide) (by decide)).trans r24, (hk19 25 (by decide) (by decide)).trans r25, (hk19 26 (by decide) (by decide)).trans r26, (hk19 27 (by decide) (by decide)).trans r27, r28, (hk19 29 (by decide) (by decide)).trans r29, (hk19 30 (by decide) (by decide)).trans r30, (hk19 31 (by decide) (by decide)).trans r31, (hk19 32 (by decide) (by decide)).trans r32, (hk19 33 (by decide) (by decide)).trans r33, (hk19 34 (by decide) (by decide)).trans r34⟩⟩), ho18⟩, mB_of ht hP⟩, hS.F ht⟩) hS.2.2 d_D_check_149
    · exact W.vret hx hb hr (fun tS ht hW => ⟨⟨w12, rfl, ⟨Or.inl ⟨c3, hR8⟩, ho13⟩, mB_of ht hP⟩, hS.F ht⟩) hS.2.2 d_D_check_104
  · exact absurd c2 (by omega)
