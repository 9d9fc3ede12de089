set_option maxHeartbeats 4000000 in
set_option maxRecDepth 100000 in
theorem c_D_goOnG {l : Launch} {s0 : State} {dC : Nat → ClassId} {dI : Nat → Nat → Nat} {dA : Nat → ClassId} (B0 : BB s0 dC dI dA) (w : fw_W) (md : Nat → Nat) (μ : MS) (f : Nat) (hj : Inj37 md) (hD : RD dA md w μ) (hok : eOK μ f) (ha3 : (m_rule μ (m_key μ f) < 2 ∨ m_rule μ (m_key μ f) = 6) → m_asked μ f ≤ 3) (hW : dWant μ f = -1) (hC : dEndC (m_rule μ (m_key μ f)) (m_asked μ f) (m_first μ f) (m_sum μ f) = 0) : Met l y_D_goOn [.code y_D_goOn b_D_goOn 6 none] ({ frames := 2, cells := 0, slots := 0, locals := 80 }) (mP s0 dC dI w [.ref (md 36), .int (nI f)]) (mQv s0 dC dI (fun w' => (∃ (x : Nat → Nat) (c : Nat), RD dA md w' (dEnd f x c (dEndV (m_rule μ (m_key μ f)) (m_first μ f) (m_sum μ f)) μ) ∧ lstN x c = (lstN (m_cch μ) (m_cached μ) ++ [m_mk μ f]).drop (m_cached μ + 1 - 16)) ∧ OutD md w w')) 0 0 (AA s0) := by
  obtain ⟨e1, e2, e3, e4, e5, e6, e7, e8, e10⟩ := (id hok)
  refine mt_ofW B0 (by decide) (Nat.le_of_ble_eq_true rfl) (fun p e s m args below meth c ls hargs X hin hl hP => ?_)
  have X9 := X
  obtain ⟨hx, hb, hr, hml, hown, hg, hK, hn, hE, hlocks, hA⟩ := X9
  have hS : va_S (AA s0) s.heap s.heap [] := va_S.rf
  have hl : lv_has ls 6 [(0, .ref (md 36)), (1, .int (nI f))] := hl
  obtain ⟨r36, r0, r1, r2, r3, r4, r5, r6, r7, r8, ⟨u, r9⟩, r10, r11, r12, r13, r14, r15, r23, r24, r25, r26, r27, r28, r29, r30, r31, r32, r33, r34⟩ := (id hD)
  refine lv_aload_n hx hb d_D_goOn_0 rfl (lv_at hl 0 rfl) ?_
  refine lv_iload_n hx hb d_D_goOn_1 rfl (lv_at hl 1 rfl) ?_
  refine va_calli (rn_V (n := 1) (As := [.int (nI f)]) (rest := []) (C := R_D) (T := F_D) (N := 36) (ci := 5) X hP hS (c_D_wanted B0 w md μ f hj hD (by omega) e2 e3 e5 ha3) k_743 k_745 k_43 k_58 k_746 (by decide +kernel) rfl rfl ⟨Nat.le_of_ble_eq_true rfl, Nat.le_of_ble_eq_true rfl⟩ r36 rfl rfl hl.1 rfl (Nat.le_of_ble_eq_true rfl) d_D_goOn_2 ⟨Nat.le_of_ble_eq_true rfl, Nat.le_of_ble_eq_true rfl⟩) hS (fun q _ h => h) (fun q h => h) (fun r w55 tS H locs ht hvm hw hB hz1 hk1 hS => ?_)
  have hP : fw_P (dC, dI) cls_ (AA s0) w55 H := by rw [← ht]; exact hB
  obtain ⟨e9, rfl⟩ := hw
  rw [e9] at hP
  refine lv_istore_n (lv' := [(2, .int (dWant μ f)), (0, .ref (md 36)), (1, .int (nI f))]) hx hb d_D_goOn_5 rfl hl (by decide) rfl (fun ls hl => ?_)
  refine lv_iload_n hx hb d_D_goOn_6 rfl (lv_at hl 0 rfl) ?_
  rw [hW]
  refine lv_if_ge (tgt := 16) hx hb d_D_goOn_7 (by decide) (fun c1 => ?_) (fun c1 => ?_)
  · exact absurd c1 (by decide)
  · refine lv_aload_n hx hb d_D_goOn_10 rfl (lv_at hl 1 rfl) ?_
    refine lv_iload_n hx hb d_D_goOn_11 rfl (lv_at hl 2 rfl) ?_
    refine va_callv (rn_V (n := 1) (As := [.int (nI f)]) (rest := []) (C := R_D) (T := F_D) (N := 36) (ci := 5) X hP hS (c_D_endG B0 w md μ f hj hD hok hC) k_750 k_752 k_44 k_58 k_753 (by decide +kernel) rfl rfl ⟨Nat.le_of_ble_eq_true rfl, Nat.le_of_ble_eq_true rfl⟩ r36 rfl rfl hl.1 rfl (Nat.le_of_ble_eq_true rfl) d_D_goOn_12 ⟨Nat.le_of_ble_eq_true rfl, Nat.le_of_ble_eq_true rfl⟩) hS (fun q _ h => h) (fun q h => h) (fun w56 tS H locs ht hvm hw hB hz1 hk1 hS => ?_)
    have hP : fw_P (dC, dI) cls_ (AA s0) w56 H := by rw [← ht]; exact hB
    exact W.vret hx hb hr (fun tS ht hW => ⟨⟨w56, rfl, hw, mB_of ht hP⟩, hS.F ht⟩) hS.2.2 d_D_goOn_15
set_option maxHeartbeats 4000000 in
set_option maxRecDepth 100000 in
theorem c_D_goOnT {l : Launch} {s0 : State} {dC : Nat → ClassId} {dI : Nat → Nat → Nat} {dA : Nat → ClassId} (B0 : BB s0 dC dI dA) (w : fw_W) (md : Nat → Nat) (μ : MS) (f : Nat) (hj : Inj37 md) (hD : RD dA md w μ) (hok : eOK μ f) (ha3 : (m_rule μ (m_key μ f) < 2 ∨ m_rule μ (m_key μ f) = 6) → m_asked μ f ≤ 3) (hW : dWant μ f = -1) (hC : dEndC (m_rule μ (m_key μ f)) (m_asked μ f) (m_first μ f) (m_sum μ f) ≠ 0) : Met l y_D_goOn [.code y_D_goOn b_D_goOn 6 none] ({ frames := 2, cells := 0, slots := 0, locals := 80 }) (mP s0 dC dI w [.ref (md 36), .int (nI f)]) (mQv s0 dC dI (fun w' => RD dA md w' (dThr (dEndC (m_rule μ (m_key μ f)) (m_asked μ f) (m_first μ f) (m_sum μ f)) μ) ∧ OutD md w w')) 0 0 (AA s0) := by
  obtain ⟨e1, e2, e3, e4, e5, e6, e7, e8, e10⟩ := (id hok)
  refine mt_ofW B0 (by decide) (Nat.le_of_ble_eq_true rfl) (fun p e s m args below meth c ls hargs X hin hl hP => ?_)
  have X9 := X
  obtain ⟨hx, hb, hr, hml, hown, hg, hK, hn, hE, hlocks, hA⟩ := X9
  have hS : va_S (AA s0) s.heap s.heap [] := va_S.rf
  have hl : lv_has ls 6 [(0, .ref (md 36)), (1, .int (nI f))] := hl
  obtain ⟨r36, r0, r1, r2, r3, r4, r5, r6, r7, r8, ⟨u, r9⟩, r10, r11, r12, r13, r14, r15, r23, r24, r25, r26, r27, r28, r29, r30, r31, r32, r33, r34⟩ := (id hD)
  refine lv_aload_n hx hb d_D_goOn_0 rfl (lv_at hl 0 rfl) ?_
  refine lv_iload_n hx hb d_D_goOn_1 rfl (lv_at hl 1 rfl) ?_
  refine va_calli (rn_V (n := 1) (As := [.int (nI f)]) (rest := []) (C := R_D) (T := F_D) (N := 36) (ci := 5) X hP hS (c_D_wanted B0 w md μ f hj hD (by omega) e2 e3 e5 ha3) k_743 k_745 k_43 k_58 k_746 (by decide +kernel) rfl rfl ⟨Nat.le_of_ble_eq_true rfl, Nat.le_of_ble_eq_true rfl⟩ r36 rfl rfl hl.1 rfl (Nat.le_of_ble_eq_true rfl) d_D_goOn_2 ⟨Nat.le_of_ble_eq_true rfl, Nat.le_of_ble_eq_true rfl⟩) hS (fun q _ h => h) (fun q h => h) (fun r w57 tS H locs ht hvm hw hB hz1 hk1 hS => ?_)
  have hP : fw_P (dC, dI) cls_ (AA s0) w57 H := by rw [← ht]; exact hB
  obtain ⟨e9, rfl⟩ := hw
  rw [e9] at hP
  refine lv_istore_n (lv' := [(2, .int (dWant μ f)), (0, .ref (md 36)), (1, .int (nI f))]) hx hb d_D_goOn_5 rfl hl (by decide) rfl (fun ls hl => ?_)
  refine lv_iload_n hx hb d_D_goOn_6 rfl (lv_at hl 0 rfl) ?_
  rw [hW]
  refine lv_if_ge (tgt := 16) hx hb d_D_goOn_7 (by decide) (fun c1 => ?_) (fun c1 => ?_)
  · exact absurd c1 (by decide)
  · refine lv_aload_n hx hb d_D_goOn_10 rfl (lv_at hl 1 rfl) ?_
    refine lv_iload_n hx hb d_D_goOn_11 rfl (lv_at hl 2 rfl) ?_
    refine va_callv (rn_V (n := 1) (As := [.int (nI f)]) (rest := []) (C := R_D) (T := F_D) (N := 36) (ci := 5) X hP hS (c_D_endT B0 w md μ f hj hD hok hC) k_750 k_752 k_44 k_58 k_753 (by decide +kernel) rfl rfl ⟨Nat.le_of_ble_eq_true rfl, Nat.le_of_ble_eq_true rfl⟩ r36 rfl rfl hl.1 rfl (Nat.le_of_ble_eq_true rfl) d_D_goOn_12 ⟨Nat.le_of_ble_eq_true rfl, Nat.le_of_ble_eq_true rfl⟩) hS (fun q _ h => h) (fun q h => h) (fun w58 tS H locs ht hvm hw hB hz1 hk1 hS => ?_)
    have hP : fw_P (dC, dI) cls_ (AA s0) w58 H := by rw [← ht]; exact hB
    exact W.vret hx hb hr (fun tS ht hW => ⟨⟨w58, rfl, hw, mB_of ht hP⟩, hS.F ht⟩) hS.2.2 d_D_goOn_15
set_option maxHeartbeats 4000000 in
set_option maxRecDepth 100000 in
theorem c_D_goOnA {l : Launch} {s0 : State} {dC : Nat → ClassId} {dI : Nat → Nat → Nat} {dA : Nat → ClassId} (B0 : BB s0 dC dI dA) (w : fw_W) (md : Nat → Nat) (μ : MS) (f k : Nat) (hj : Inj37 md) (hD : RD dA md w μ) (hok : eOK μ f) (ha3 : (m_rule μ (m_key μ f) < 2 ∨ m_rule μ (m_key μ f) = 6) → m_asked μ f ≤ 3) (hk : k < 12) (hW : dWant μ f = nI k) (hhg : m_hgt μ < 13) (hat : m_at μ f < 2) (hsz : m_size μ (m_mk μ f) < 12) (hkb : ∀ j, j < m_size μ (m_mk μ f) → m_keys μ (12 * m_mk μ f + j) < 12) (hs3 : m_st μ k < 3) (hq3 : m_sort μ k < 3) : Met l y_D_goOn [.code y_D_goOn b_D_goOn 6 none] ({ frames := 2, cells := 0, slots := 0, locals := 80 }) (mP s0 dC dI w [.ref (md 36), .int (nI f)]) (mQv s0 dC dI (fun w' => ((dAskB k (dGo1 f μ) = false ∧ RD dA md w' (dAsk k (dGo1 f μ))) ∨ (dAskB k (dGo1 f μ) = true ∧ kn μ (m_mk μ f) k (m_size μ (m_mk μ f)) ∧ RD dA md w' (dTake f (m_val (dAsk k (dGo1 f μ)) k) (dAt f 0 (dAsk k (dGo1 f μ))))) ∨ (dAskB k (dGo1 f μ) = true ∧ ¬ kn μ (m_mk μ f) k (m_size μ (m_mk μ f)) ∧ RD dA md w' (dTake f (m_val (dAsk k (dGo1 f μ)) k) (dNote (m_mk μ f) k (m_val (dAsk k (dGo1 f μ)) k) (dAt f 0 (dAsk k (dGo1 f μ))))))) ∧ OutD md w w')) 0 0 (AA s0) := by
  obtain ⟨e1, e2, e3, e4, e5, e6, e7, e8, e10⟩ := (id hok)
  refine mt_ofW B0 (by decide) (Nat.le_of_ble_eq_true rfl) (fun p e s m args below meth c ls hargs X hin hl hP => ?_)
  have X9 := X
  obtain ⟨hx, hb, hr, hml, hown, hg, hK, hn, hE, hlocks, hA⟩ := X9
  have hS : va_S (AA s0) s.heap s.heap [] := va_S.rf
  have hl : lv_has ls 6 [(0, .ref (md 36)), (1, .int (nI f))] := hl
  obtain ⟨r36, r0, r1, r2, r3, r4, r5, r6, r7, r8, ⟨u, r9⟩, r10, r11, r12, r13, r14, r15, r23, r24, r25, r26, r27, r28, r29, r30, r31, r32, r33, r34⟩ := (id hD)
  refine lv_aload_n hx hb d_D_goOn_0 rfl (lv_at hl 0 rfl) ?_
  refine lv_iload_n hx hb d_D_goOn_1 rfl (lv_at hl 1 rfl) ?_
  refine va_calli (rn_V (n := 1) (As := [.int (nI f)]) (rest := []) (C := R_D) (T := F_D) (N := 36) (ci := 5) X hP hS (c_D_wanted B0 w md μ f hj hD (by omega) e2 e3 e5 ha3) k_743 k_745 k_43 k_58 k_746 (by decide +kernel) rfl rfl ⟨Nat.le_of_ble_eq_true rfl, Nat.le_of_ble_eq_true rfl⟩ r36 rfl rfl hl.1 rfl (Nat.le_of_ble_eq_true rfl) d_D_goOn_2 ⟨Nat.le_of_ble_eq_true rfl, Nat.le_of_ble_eq_true rfl⟩) hS (fun q _ h => h) (fun q h => h) (fun r w59 tS H locs ht hvm hw hB hz1 hk1 hS => ?_)
  have hP : fw_P (dC, dI) cls_ (AA s0) w59 H := by rw [← ht]; exact hB
  obtain ⟨e9, rfl⟩ := hw
  rw [e9] at hP
  refine lv_istore_n (lv' := [(2, .int (dWant μ f)), (0, .ref (md 36)), (1, .int (nI f))]) hx hb d_D_goOn_5 rfl hl (by decide) rfl (fun ls hl => ?_)
  refine lv_iload_n hx hb d_D_goOn_6 rfl (lv_at hl 0 rfl) ?_
  rw [hW] at hl ⊢
  refine lv_if_ge (tgt := 16) hx hb d_D_goOn_7 (by decide) (fun c1 => ?_) (fun c1 => absurd (show (0 : Int32) ≤ nI k from Int32.not_lt.mp (nI_nn (by omega))) c1)
  have tail : ∀ (cn : Nat → Int32), dGo1 f μ = (u_fr (u_mm μ (m_trc μ, m_cch μ, m_cached μ, cn, m_circ μ)) (m_key μ, m_ph μ, m_chk μ, va_up (m_at μ) f 1, m_cand μ, m_cc μ, m_mk μ, m_asked μ, m_first μ, m_sum μ, m_hgt μ)) → ∀ (wl : fw_W) (H : Heap) (locs : List Loc), RD dA md wl (u_fr (u_mm μ (m_trc μ, m_cch μ, m_cached μ, cn, m_circ μ)) (m_key μ, m_ph μ, m_chk μ, va_up (m_at μ) f 1, m_cand μ, m_cc μ, m_mk μ, m_asked μ, m_first μ, m_sum μ, m_hgt μ)) → OutD md w wl → fw_P (dC, dI) cls_ (AA s0) wl H → va_S (AA s0) s.heap H locs → ∀ (ls : Array Slot), lv_has ls 6 [(0, .ref (md 36)), (1, .int (nI f)), (2, .int (nI k))] → W p l e ({ frames := 2, cells := 0, slots := 0, locals := 80 }) s m args below meth c H locs 0 0 (MQ below (mQv s0 dC dI (fun w' => ((dAskB k (dGo1 f μ) = false ∧ RD dA md w' (dAsk k (dGo1 f μ))) ∨ (dAskB k (dGo1 f μ) = true ∧ kn μ (m_mk μ f) k (m_size μ (m_mk μ f)) ∧ RD dA md w' (dTake f (m_val (dAsk k (dGo1 f μ)) k) (dAt f 0 (dAsk k (dGo1 f μ))))) ∨ (dAskB k (dGo1 f μ) = true ∧ ¬ kn μ (m_mk μ f) k (m_size μ (m_mk μ f)) ∧ RD dA md w' (dTake f (m_val (dAsk k (dGo1 f μ)) k) (dNote (m_mk μ f) k (m_val (dAsk k (dGo1 f μ)) k) (dAt f 0 (dAsk k (dGo1 f μ))))))) ∧ OutD md w w')) args s 0 0 (AA s0)) (F0 m 42 ls []) := by
    intro cn hcn wl H locs hR9 ho9 hP hS ls hl
    rw [hcn]
    obtain ⟨r36, r0, r1, r2, r3, r4, r5, r6, r7, r8, ⟨u, r9⟩, r10, r11, r12, r13, r14, r15, r23, r24, r25, r26, r27, r28, r29, r30, r31, r32, r33, r34⟩ := (id hR9)
    refine lv_aload_n hx hb d_D_goOn_42 rfl (lv_at hl 0 rfl) ?_
    refine lv_iload_n hx hb d_D_goOn_43 rfl (lv_at hl 2 rfl) ?_
    have r36 : wl (md 36) = some (.inr (5, [.ref (md 0), .ref (md 1), .ref (md 2), .ref (md 3), .ref (md 4), .ref (md 5), .ref (md 6), .ref (md 7), .ref (md 8), .ref (md 9), .ref (md 10), .ref (md 11), .ref (md 12), .ref (md 13), .ref (md 14), .ref (md 15), .int (nI (m_cached μ)), .int (nI (m_ocached μ)), .int (m_circ μ), .int (m_ocirc μ), .int (nI (m_thr μ)), .int (nI (m_wkr μ)), .int (nI (m_ran μ).toNat), .ref (md 23), .ref (md 24), .ref (md 25), .ref (md 26), .ref (md 27), .ref (md 28), .ref (md 29), .ref (md 30), .ref (md 31), .ref (md 32), .ref (md 33), .ref (md 34), .int (nI (m_hgt μ))])) := r36
    refine va_calli (rn_V (n := 1) (As := [.int (nI k)]) (rest := []) (C := R_D) (T := F_D) (N := 36) (ci := 5) X hP hS (c_D_ask B0 wl md (u_fr (u_mm μ (m_trc μ, m_cch μ, m_cached μ, cn, m_circ μ)) (m_key μ, m_ph μ, m_chk μ, va_up (m_at μ) f 1, m_cand μ, m_cc μ, m_mk μ, m_asked μ, m_first μ, m_sum μ, m_hgt μ)) k hj hR9 hk e7 hhg hs3 hq3) k_735 k_737 k_41 k_58 k_738 (by decide +kernel) rfl rfl ⟨Nat.le_of_ble_eq_true rfl, Nat.le_of_ble_eq_true rfl⟩ r36 rfl rfl hl.1 rfl (Nat.le_of_ble_eq_true rfl) d_D_goOn_44 ⟨Nat.le_of_ble_eq_true rfl, Nat.le_of_ble_eq_true rfl⟩) hS (fun q _ h => h) (fun q h => h) (fun r w60 tS H locs ht hvm hw hB hz1 hk1 hS => ?_)
    have hP : fw_P (dC, dI) cls_ (AA s0) w60 H := by rw [← ht]; exact hB
    obtain ⟨rfl, hR8, ho8⟩ := hw
    have ho61 : OutD md w w60 := OutD.tr ho9 ho8
    refine nu_ifne (tgt := 51) hx hb d_D_goOn_47 (by decide) (fun c3 => ?_) (fun c3 => ?_)
    · obtain ⟨st9, vl9, hA9⟩ := ask_t c3
      rw [hA9] at hR8
      rw [hA9]
      obtain ⟨r36, r0, r1, r2, r3, r4, r5, r6, r7, r8, ⟨u, r9⟩, r10, r11, r12, r13, r14, r15, r23, r24, r25, r26, r27, r28, r29, r30, r31, r32, r33, r34⟩ := (id hR8)
      refine lv_aload_n hx hb d_D_goOn_51 rfl (lv_at hl 0 rfl) ?_
      have r36 : w60 (md 36) = some (.inr (5, [.ref (md 0), .ref (md 1), .ref (md 2), .ref (md 3), .ref (md 4), .ref (md 5), .ref (md 6), .ref (md 7), .ref (md 8), .ref (md 9), .ref (md 10), .ref (md 11), .ref (md 12), .ref (md 13), .ref (md 14), .ref (md 15), .int (nI (m_cached μ)), .int (nI (m_ocached μ)), .int (m_circ μ), .int (m_ocirc μ), .int (nI (m_thr μ)), .int (nI (m_wkr μ)), .int (nI (m_ran μ).toNat), .ref (md 23), .ref (md 24), .ref (md 25), .ref (md 26), .ref (md 27), .ref (md 28), .ref (md 29), .ref (md 30), .ref (md 31), .ref (md 32), .ref (md 33), .ref (md 34), .int (nI (m_hgt μ))])) := r36
      refine va_get (D := (dC, dI)) (ci := 5) (v := .ref (md 28)) (C := R_D) (T := F_D) (N := 36) hx hb hg in_D hown hK (hP.one r36) 0 rfl rfl 28 (by decide) (hg _ k_619) (fun _ h9 => h9) rfl d_D_goOn_52 ?_
      refine lv_iload_n hx hb d_D_goOn_55 rfl (lv_at hl 1 rfl) ?_
      refine lv_iconst (v := (nI 0)) hx hb d_D_goOn_56 (by decide) ?_
      have r28 : w60 (md 28) = some (.inl (dA 0, 13, .inl (nf (va_up (m_at μ) f 1)))) := r28
      refine fw_iast (tys := tyl dA) hx hb hK hP hS r28 0 rfl (j := f) (x := (nI 0)) (by omega) (by decide) d_D_goOn_57 (fun w62 H locs ew63 hP hS => ?_)
      rw [nf_up] at ew63
      have r28 : w62 (md 28) = some (.inl (dA 0, 13, .inl (nf (va_up (va_up (m_at μ) f 1) f 0)))) := by rw [ew63]; exact va_up_self _ _ _
      have ho64 : OutD md w w62 := OutD.up ho61 ew63 (by decide)
      refine lv_aload_n hx hb d_D_goOn_58 rfl (lv_at hl 0 rfl) ?_
      have r36 : w62 (md 36) = some (.inr (5, [.ref (md 0), .ref (md 1), .ref (md 2), .ref (md 3), .ref (md 4), .ref (md 5), .ref (md 6), .ref (md 7), .ref (md 8), .ref (md 9), .ref (md 10), .ref (md 11), .ref (md 12), .ref (md 13), .ref (md 14), .ref (md 15), .int (nI (m_cached μ)), .int (nI (m_ocached μ)), .int (m_circ μ), .int (m_ocirc μ), .int (nI (m_thr μ)), .int (nI (m_wkr μ)), .int (nI (m_ran μ).toNat), .ref (md 23), .ref (md 24), .ref (md 25), .ref (md 26), .ref (md 27), .ref (md 28), .ref (md 29), .ref (md 30), .ref (md 31), .ref (md 32), .ref (md 33), .ref (md 34), .int (nI (m_hgt μ))])) := by rw [ew63, va_up_ne _ _ (hj.ne (i := 36) (j := 28) (by decide) (by decide) (by decide))]; exact r36
      refine va_get (D := (dC, dI)) (ci := 5) (v := .ref (md 31)) (C := R_D) (T := F_D) (N := 36) hx hb hg in_D hown hK (hP.one r36) 0 rfl rfl 31 (by decide) (hg _ k_622) (fun _ h9 => h9) rfl d_D_goOn_59 ?_
      refine lv_iload_n hx hb d_D_goOn_62 rfl (lv_at hl 1 rfl) ?_
      have r31 : w62 (md 31) = some (.inl (dA 0, 13, .inl (nf (m_mk μ)))) := by rw [ew63, va_up_ne _ _ (hj.ne (i := 31) (j := 28) (by decide) (by decide) (by decide))]; exact r31
      refine fw_iald (tys := tyl dA) hx hb hK hP r31 0 rfl (j := f) (by omega) (by decide) d_D_goOn_63 ?_
      refine lv_istore_n (lv' := [(3, .int (nI ((m_mk μ) f))), (0, .ref (md 36)), (1, .int (nI f)), (2, .int (nI k))]) hx hb d_D_goOn_64 rfl hl (by decide) rfl (fun ls hl => ?_)
      refine lv_iconst (v := (nI 0)) hx hb d_D_goOn_65 (by decide) ?_
      refine lv_istore (lv' := [(4, .int (nI 0)), (3, .int (nI ((m_mk μ) f))), (0, .ref (md 36)), (1, .int (nI f)), (2, .int (nI k))]) hx hb d_D_goOn_66 hl (by decide) rfl (fun ls hl => ?_)
      refine lv_iconst (v := (nI 0)) hx hb d_D_goOn_68 (by decide) ?_
      refine lv_istore (lv' := [(5, .int (nI 0)), (4, .int (nI 0)), (3, .int (nI ((m_mk μ) f))), (0, .ref (md 36)), (1, .int (nI f)), (2, .int (nI k))]) hx hb d_D_goOn_69 hl (by decide) rfl (fun ls hl => ?_)
      have hl : lv_has ls 6 [(5, .int (nI 0)), (4, .int (nI false.toNat)), (3, .int (nI ((m_mk μ) f))), (0, .ref (md 36)), (1, .int (nI f)), (2, .int (nI k))] := hl
      suffices lp : ∀ (n : Nat) (i : Nat) (b9 : Bool), (i ≤ m_size μ (m_mk μ f)) → (b9 = true ↔ kn μ (m_mk μ f) k i) → (m_size μ (m_mk μ f) < i + n) → ∀ (H : Heap) (locs : List Loc), fw_P (dC, dI) cls_ (AA s0) w62 H → va_S (AA s0) s.heap H locs → ∀ (ls : Array Slot), lv_has ls 6 [(0, .ref (md 36)), (1, .int (nI f)), (2, .int (nI k)), (3, .int (nI (m_mk μ f))), (4, .int (nI b9.toNat)), (5, .int (nI i))] → W p l e _ s m args below meth c H locs 0 0 (MQ below _ args s 0 0 (AA s0)) (F0 m 71 ls []) from lp (m_size μ (m_mk μ f) + 1) 0 false (by omega) (⟨fun h9 => Bool.noConfusion h9, fun h9 => by obtain ⟨j, hj9, _⟩ := h9; omega⟩) (by omega) _ _ hP hS ls (lv_sub hl [3, 4, 5, 2, 1, 0] rfl)
      intro n
      induction n with
      | zero => intro i b9 hi hb9 hbn; exact absurd hbn (by omega)
      | succ n ih =>
        intro i b9 hi hb9 hbn H locs hP hS ls hl
        refine lv_iload hx hb d_D_goOn_71 (lv_at hl 5 rfl) ?_
        refine lv_aload_n hx hb d_D_goOn_73 rfl (lv_at hl 0 rfl) ?_
        refine va_get (D := (dC, dI)) (ci := 5) (v := .ref (md 4)) (C := R_D) (T := F_D) (N := 36) hx hb hg in_D hown hK (hP.one r36) 0 rfl rfl 4 (by decide) (hg _ k_595) (fun _ h9 => h9) rfl d_D_goOn_74 ?_
        refine lv_iload_n hx hb d_D_goOn_77 rfl (lv_at hl 3 rfl) ?_
        have r4 : w62 (md 4) = some (.inl (dA 0, 320, .inl (nf (m_size μ)))) := by rw [ew63, va_up_ne _ _ (hj.ne (i := 4) (j := 28) (by decide) (by decide) (by decide))]; exact r4
        refine fw_iald (tys := tyl dA) hx hb hK hP r4 0 rfl (j := m_mk μ f) (by omega) (by decide) d_D_goOn_78 ?_
        refine nu_ge (tgt := 107) hx hb (by omega) (by omega) d_D_goOn_79 (by decide) (fun c4 => ?_) (fun c4 => ?_)
        · have hi9 : i = m_size μ (m_mk μ f) := by omega
          subst hi9
          refine lv_iload hx hb d_D_goOn_107 (lv_at hl 4 rfl) ?_
          refine nu_ifne (tgt := 161) hx hb d_D_goOn_109 (by decide) (fun c5 => ?_) (fun c5 => ?_)
          · refine lv_aload_n hx hb d_D_goOn_161 rfl (lv_at hl 0 rfl) ?_
            refine lv_iload_n hx hb d_D_goOn_162 rfl (lv_at hl 1 rfl) ?_
            refine lv_aload_n hx hb d_D_goOn_163 rfl (lv_at hl 0 rfl) ?_
            refine va_get (D := (dC, dI)) (ci := 5) (v := .ref (md 24)) (C := R_D) (T := F_D) (N := 36) hx hb hg in_D hown hK (hP.one r36) 0 rfl rfl 24 (by decide) (hg _ k_615) (fun _ h9 => h9) rfl d_D_goOn_164 ?_
            refine lv_iload_n hx hb d_D_goOn_167 rfl (lv_at hl 2 rfl) ?_
            have r24 : w62 (md 24) = some (.inl (dA 1, 12, .inr (.inl vl9))) := by rw [ew63, va_up_ne _ _ (hj.ne (i := 24) (j := 28) (by decide) (by decide) (by decide))]; exact r24
            refine fw_lald (tys := tyl dA) hx hb hK hP r24 1 rfl (j := k) (by omega) (by decide) d_D_goOn_168 ?_
            have hk65 : ∀ i, U37 i → i ∉ [28] → w62 (md i) = w60 (md i) := fun i hi hn => by rw [ew63, va_up_ne _ _ (hj.ne hi (j := 28) (by decide) (fun e9 => hn (by rw [e9]; decide)))]
            have hRq : RD dA md w62 (dAt f 0 (u_se (u_fr (u_mm μ (m_trc μ, m_cch μ, m_cached μ, cn, m_circ μ)) (m_key μ, m_ph μ, m_chk μ, va_up (m_at μ) f 1, m_cand μ, m_cc μ, m_mk μ, m_asked μ, m_first μ, m_sum μ, m_hgt μ)) (m_thr μ, m_wkr μ, m_ran μ, st9, vl9))) := ⟨r36, (hk65 0 (by decide) (by decide)).trans r0, (hk65 1 (by decide) (by decide)).trans r1, (hk65 2 (by decide) (by decide)).trans r2, (hk65 3 (by decide) (by decide)).trans r3, r4, (hk65 5 (by decide) (by decide)).trans r5, (hk65 6 (by decide) (by decide)).trans r6, (hk65 7 (by decide) (by decide)).trans r7, (hk65 8 (by decide) (by decide)).trans r8, ⟨_, (hk65 9 (by decide) (by decide)).trans r9⟩, (hk65 10 (by decide) (by decide)).trans r10, (hk65 11 (by decide) (by decide)).trans r11, (hk65 12 (by decide) (by decide)).trans r12, (hk65 13 (by decide) (by decide)).trans r13, (hk65 14 (by decide) (by decide)).trans r14, (hk65 15 (by decide) (by decide)).trans r15, (hk65 23 (by decide) (by decide)).trans r23, r24, (hk65 25 (by decide) (by decide)).trans r25, (hk65 26 (by decide) (by decide)).trans r26, (hk65 27 (by decide) (by decide)).trans r27, r28, (hk65 29 (by decide) (by decide)).trans r29, (hk65 30 (by decide) (by decide)).trans r30, r31, (hk65 32 (by decide) (by decide)).trans r32, (hk65 33 (by decide) (by decide)).trans r33, (hk65 34 (by decide) (by decide)).trans r34⟩
            refine va_callv (rn_V (n := 2) (As := [.int (nI f), .long (vl9 k)]) (rest := []) (C := R_D) (T := F_D) (N := 36) (ci := 5) X hP hS (c_D_take B0 w62 md (dAt f 0 (u_se (u_fr (u_mm μ (m_trc μ, m_cch μ, m_cached μ, cn, m_circ μ)) (m_key μ, m_ph μ, m_chk μ, va_up (m_at μ) f 1, m_cand μ, m_cc μ, m_mk μ, m_asked μ, m_first μ, m_sum μ, m_hgt μ)) (m_thr μ, m_wkr μ, m_ran μ, st9, vl9))) f (vl9 k) hj hRq (by omega) e2 e3 e5) k_763 k_765 k_47 k_58 k_766 (by decide +kernel) rfl rfl ⟨Nat.le_of_ble_eq_true rfl, Nat.le_of_ble_eq_true rfl⟩ r36 rfl rfl hl.1 rfl (Nat.le_of_ble_eq_true rfl) d_D_goOn_169 ⟨Nat.le_of_ble_eq_true rfl, Nat.le_of_ble_eq_true rfl⟩) hS (fun q _ h => h) (fun q h => h) (fun w66 tS H locs ht hvm hw hB hz1 hk1 hS => ?_)
            have hP : fw_P (dC, dI) cls_ (AA s0) w66 H := by rw [← ht]; exact hB
            obtain ⟨hR7, ho7⟩ := hw
            have ho67 : OutD md w w66 := OutD.tr ho64 ho7
            exact W.vret hx hb hr (fun tS ht hW => ⟨⟨w66, rfl, ⟨Or.inr (Or.inl ⟨c3, hb9.mp c5, hR7⟩), ho67⟩, mB_of ht hP⟩, hS.F ht⟩) hS.2.2 d_D_goOn_172
          · refine lv_aload_n hx hb d_D_goOn_112 rfl (lv_at hl 0 rfl) ?_
            refine va_get (D := (dC, dI)) (ci := 5) (v := .ref (md 5)) (C := R_D) (T := F_D) (N := 36) hx hb hg in_D hown hK (hP.one r36) 0 rfl rfl 5 (by decide) (hg _ k_596) (fun _ h9 => h9) rfl d_D_goOn_113 ?_
            refine lv_iload_n hx hb d_D_goOn_116 rfl (lv_at hl 3 rfl) ?_
            refine lv_bipush (v := (nI 12)) hx hb d_D_goOn_117 (by decide) ?_
            refine nu_imul (r := 12 * (m_mk μ f)) hx hb d_D_goOn_119 (by omega) ?_
            refine lv_aload_n hx hb d_D_goOn_120 rfl (lv_at hl 0 rfl) ?_
            refine va_get (D := (dC, dI)) (ci := 5) (v := .ref (md 4)) (C := R_D) (T := F_D) (N := 36) hx hb hg in_D hown hK (hP.one r36) 0 rfl rfl 4 (by decide) (hg _ k_595) (fun _ h9 => h9) rfl d_D_goOn_121 ?_
            refine lv_iload_n hx hb d_D_goOn_124 rfl (lv_at hl 3 rfl) ?_
            refine fw_iald (tys := tyl dA) hx hb hK hP r4 0 rfl (j := m_mk μ f) (by omega) (by decide) d_D_goOn_125 ?_
            refine nu_iadd (r := 12 * (m_mk μ f) + ((m_size μ) (m_mk μ f))) hx hb d_D_goOn_126 (by omega) ?_
            refine lv_iload_n hx hb d_D_goOn_127 rfl (lv_at hl 2 rfl) ?_
            have r5 : w62 (md 5) = some (.inl (dA 0, 3840, .inl (nf (m_keys μ)))) := by rw [ew63, va_up_ne _ _ (hj.ne (i := 5) (j := 28) (by decide) (by decide) (by decide))]; exact r5
            refine fw_iast (tys := tyl dA) hx hb hK hP hS r5 0 rfl (j := 12 * (m_mk μ f) + ((m_size μ) (m_mk μ f))) (x := (nI k)) (by omega) (by decide) d_D_goOn_128 (fun w68 H locs ew69 hP hS => ?_)
            rw [nf_up] at ew69
            have r5 : w68 (md 5) = some (.inl (dA 0, 3840, .inl (nf (va_up (m_keys μ) (12 * (m_mk μ f) + ((m_size μ) (m_mk μ f))) k)))) := by rw [ew69]; exact va_up_self _ _ _
            have ho70 : OutD md w w68 := OutD.up ho64 ew69 (by decide)
            refine lv_aload_n hx hb d_D_goOn_129 rfl (lv_at hl 0 rfl) ?_
            have r36 : w68 (md 36) = some (.inr (5, [.ref (md 0), .ref (md 1), .ref (md 2), .ref (md 3), .ref (md 4), .ref (md 5), .ref (md 6), .ref (md 7), .ref (md 8), .ref (md 9), .ref (md 10), .ref (md 11), .ref (md 12), .ref (md 13), .ref (md 14), .ref (md 15), .int (nI (m_cached μ)), .int (nI (m_ocached μ)), .int (m_circ μ), .int (m_ocirc μ), .int (nI (m_thr μ)), .int (nI (m_wkr μ)), .int (nI (m_ran μ).toNat), .ref (md 23), .ref (md 24), .ref (md 25), .ref (md 26), .ref (md 27), .ref (md 28), .ref (md 29), .ref (md 30), .ref (md 31), .ref (md 32), .ref (md 33), .ref (md 34), .int (nI (m_hgt μ))])) := by rw [ew69, va_up_ne _ _ (hj.ne (i := 36) (j := 5) (by decide) (by decide) (by decide))]; exact r36
            refine va_get (D := (dC, dI)) (ci := 5) (v := .ref (md 7)) (C := R_D) (T := F_D) (N := 36) hx hb hg in_D hown hK (hP.one r36) 0 rfl rfl 7 (by decide) (hg _ k_598) (fun _ h9 => h9) rfl d_D_goOn_130 ?_
            refine lv_iload_n hx hb d_D_goOn_133 rfl (lv_at hl 3 rfl) ?_
            refine lv_bipush (v := (nI 12)) hx hb d_D_goOn_134 (by decide) ?_
            refine nu_imul (r := 12 * (m_mk μ f)) hx hb d_D_goOn_136 (by omega) ?_
            refine lv_aload_n hx hb d_D_goOn_137 rfl (lv_at hl 0 rfl) ?_
            refine va_get (D := (dC, dI)) (ci := 5) (v := .ref (md 4)) (C := R_D) (T := F_D) (N := 36) hx hb hg in_D hown hK (hP.one r36) 0 rfl rfl 4 (by decide) (hg _ k_595) (fun _ h9 => h9) rfl d_D_goOn_138 ?_
            refine lv_iload_n hx hb d_D_goOn_141 rfl (lv_at hl 3 rfl) ?_
            have r4 : w68 (md 4) = some (.inl (dA 0, 320, .inl (nf (m_size μ)))) := by rw [ew69, va_up_ne _ _ (hj.ne (i := 4) (j := 5) (by decide) (by decide) (by decide))]; exact r4
            refine fw_iald (tys := tyl dA) hx hb hK hP r4 0 rfl (j := m_mk μ f) (by omega) (by decide) d_D_goOn_142 ?_
            refine nu_iadd (r := 12 * (m_mk μ f) + ((m_size μ) (m_mk μ f))) hx hb d_D_goOn_143 (by omega) ?_
            refine lv_aload_n hx hb d_D_goOn_144 rfl (lv_at hl 0 rfl) ?_
            refine va_get (D := (dC, dI)) (ci := 5) (v := .ref (md 24)) (C := R_D) (T := F_D) (N := 36) hx hb hg in_D hown hK (hP.one r36) 0 rfl rfl 24 (by decide) (hg _ k_615) (fun _ h9 => h9) rfl d_D_goOn_145 ?_
            refine lv_iload_n hx hb d_D_goOn_148 rfl (lv_at hl 2 rfl) ?_
            have r24 : w68 (md 24) = some (.inl (dA 1, 12, .inr (.inl vl9))) := by rw [ew69, va_up_ne _ _ (hj.ne (i := 24) (j := 5) (by decide) (by decide) (by decide)), ew63, va_up_ne _ _ (hj.ne (i := 24) (j := 28) (by decide) (by decide) (by decide))]; exact r24
            refine fw_lald (tys := tyl dA) hx hb hK hP r24 1 rfl (j := k) (by omega) (by decide) d_D_goOn_149 ?_
            have r7 : w68 (md 7) = some (.inl (dA 1, 3840, .inr (.inl (m_got μ)))) := by rw [ew69, va_up_ne _ _ (hj.ne (i := 7) (j := 5) (by decide) (by decide) (by decide)), ew63, va_up_ne _ _ (hj.ne (i := 7) (j := 28) (by decide) (by decide) (by decide))]; exact r7
            refine fw_last (tys := tyl dA) hx hb hK hP hS r7 1 rfl (j := 12 * (m_mk μ f) + ((m_size μ) (m_mk μ f))) (by omega) (by decide) d_D_goOn_150 (fun w71 H locs ew72 hP hS => ?_)
            have r7 : w71 (md 7) = some (.inl (dA 1, 3840, .inr (.inl (vp_updL (m_got μ) (12 * (m_mk μ f) + ((m_size μ) (m_mk μ f))) (vl9 k))))) := by rw [ew72]; exact va_up_self _ _ _
            have ho73 : OutD md w w71 := OutD.up ho70 ew72 (by decide)
            refine lv_aload_n hx hb d_D_goOn_151 rfl (lv_at hl 0 rfl) ?_
            have r36 : w71 (md 36) = some (.inr (5, [.ref (md 0), .ref (md 1), .ref (md 2), .ref (md 3), .ref (md 4), .ref (md 5), .ref (md 6), .ref (md 7), .ref (md 8), .ref (md 9), .ref (md 10), .ref (md 11), .ref (md 12), .ref (md 13), .ref (md 14), .ref (md 15), .int (nI (m_cached μ)), .int (nI (m_ocached μ)), .int (m_circ μ), .int (m_ocirc μ), .int (nI (m_thr μ)), .int (nI (m_wkr μ)), .int (nI (m_ran μ).toNat), .ref (md 23), .ref (md 24), .ref (md 25), .ref (md 26), .ref (md 27), .ref (md 28), .ref (md 29), .ref (md 30), .ref (md 31), .ref (md 32), .ref (md 33), .ref (md 34), .int (nI (m_hgt μ))])) := by rw [ew72, va_up_ne _ _ (hj.ne (i := 36) (j := 7) (by decide) (by decide) (by decide))]; exact r36
            refine va_get (D := (dC, dI)) (ci := 5) (v := .ref (md 4)) (C := R_D) (T := F_D) (N := 36) hx hb hg in_D hown hK (hP.one r36) 0 rfl rfl 4 (by decide) (hg _ k_595) (fun _ h9 => h9) rfl d_D_goOn_152 ?_
            refine lv_iload_n hx hb d_D_goOn_155 rfl (lv_at hl 3 rfl) ?_
            refine lv_dup2_11 hx hb d_D_goOn_156 rfl rfl ?_
            have r4 : w71 (md 4) = some (.inl (dA 0, 320, .inl (nf (m_size μ)))) := by rw [ew72, va_up_ne _ _ (hj.ne (i := 4) (j := 7) (by decide) (by decide) (by decide))]; exact r4
            refine fw_iald (tys := tyl dA) hx hb hK hP r4 0 rfl (j := m_mk μ f) (by omega) (by decide) d_D_goOn_157 ?_
            refine lv_iconst (v := (nI 1)) hx hb d_D_goOn_158 (by decide) ?_
            refine nu_iadd (r := (m_size μ) (m_mk μ f) + 1) hx hb d_D_goOn_159 (by omega) ?_
            refine fw_iast (tys := tyl dA) hx hb hK hP hS r4 0 rfl (j := m_mk μ f) (x := (nI ((m_size μ) (m_mk μ f) + 1))) (by omega) (by decide) d_D_goOn_160 (fun w74 H locs ew75 hP hS => ?_)
            rw [nf_up] at ew75
            have r4 : w74 (md 4) = some (.inl (dA 0, 320, .inl (nf (va_up (m_size μ) (m_mk μ f) ((m_size μ) (m_mk μ f) + 1))))) := by rw [ew75]; exact va_up_self _ _ _
            have ho76 : OutD md w w74 := OutD.up ho73 ew75 (by decide)
            refine lv_aload_n hx hb d_D_goOn_161 rfl (lv_at hl 0 rfl) ?_
            refine lv_iload_n hx hb d_D_goOn_162 rfl (lv_at hl 1 rfl) ?_
            refine lv_aload_n hx hb d_D_goOn_163 rfl (lv_at hl 0 rfl) ?_
            have r36 : w74 (md 36) = some (.inr (5, [.ref (md 0), .ref (md 1), .ref (md 2), .ref (md 3), .ref (md 4), .ref (md 5), .ref (md 6), .ref (md 7), .ref (md 8), .ref (md 9), .ref (md 10), .ref (md 11), .ref (md 12), .ref (md 13), .ref (md 14), .ref (md 15), .int (nI (m_cached μ)), .int (nI (m_ocached μ)), .int (m_circ μ), .int (m_ocirc μ), .int (nI (m_thr μ)), .int (nI (m_wkr μ)), .int (nI (m_ran μ).toNat), .ref (md 23), .ref (md 24), .ref (md 25), .ref (md 26), .ref (md 27), .ref (md 28), .ref (md 29), .ref (md 30), .ref (md 31), .ref (md 32), .ref (md 33), .ref (md 34), .int (nI (m_hgt μ))])) := by rw [ew75, va_up_ne _ _ (hj.ne (i := 36) (j := 4) (by decide) (by decide) (by decide))]; exact r36
            refine va_get (D := (dC, dI)) (ci := 5) (v := .ref (md 24)) (C := R_D) (T := F_D) (N := 36) hx hb hg in_D hown hK (hP.one r36) 0 rfl rfl 24 (by decide) (hg _ k_615) (fun _ h9 => h9) rfl d_D_goOn_164 ?_
            refine lv_iload_n hx hb d_D_goOn_167 rfl (lv_at hl 2 rfl) ?_
            have r24 : w74 (md 24) = some (.inl (dA 1, 12, .inr (.inl vl9))) := by rw [ew75, va_up_ne _ _ (hj.ne (i := 24) (j := 4) (by decide) (by decide) (by decide)), ew72, va_up_ne _ _ (hj.ne (i := 24) (j := 7) (by decide) (by decide) (by decide))]; exact r24
            refine fw_lald (tys := tyl dA) hx hb hK hP r24 1 rfl (j := k) (by omega) (by decide) d_D_goOn_168 ?_
            have hk77 : ∀ i, U37 i → i ∉ [4, 5, 7, 28] → w74 (md i) = w60 (md i) := fun i hi hn => by rw [ew75, va_up_ne _ _ (hj.ne hi (j := 4) (by decide) (fun e9 => hn (by rw [e9]; decide))), ew72, va_up_ne _ _ (hj.ne hi (j := 7) (by decide) (fun e9 => hn (by rw [e9]; decide))), ew69, va_up_ne _ _ (hj.ne hi (j := 5) (by decide) (fun e9 => hn (by rw [e9]; decide))), ew63, va_up_ne _ _ (hj.ne hi (j := 28) (by decide) (fun e9 => hn (by rw [e9]; decide)))]
            have hk78 : ∀ i, U37 i → i ∉ [4, 7] → w74 (md i) = w68 (md i) := fun i hi hn => by rw [ew75, va_up_ne _ _ (hj.ne hi (j := 4) (by decide) (fun e9 => hn (by rw [e9]; decide))), ew72, va_up_ne _ _ (hj.ne hi (j := 7) (by decide) (fun e9 => hn (by rw [e9]; decide)))]
            have hk79 : ∀ i, U37 i → i ∉ [4] → w74 (md i) = w71 (md i) := fun i hi hn => by rw [ew75, va_up_ne _ _ (hj.ne hi (j := 4) (by decide) (fun e9 => hn (by rw [e9]; decide)))]
            have hk80 : ∀ i, U37 i → i ∉ [4, 5, 7] → w74 (md i) = w62 (md i) := fun i hi hn => by rw [ew75, va_up_ne _ _ (hj.ne hi (j := 4) (by decide) (fun e9 => hn (by rw [e9]; decide))), ew72, va_up_ne _ _ (hj.ne hi (j := 7) (by decide) (fun e9 => hn (by rw [e9]; decide))), ew69, va_up_ne _ _ (hj.ne hi (j := 5) (by decide) (fun e9 => hn (by rw [e9]; decide)))]
            have hRq : RD dA md w74 (dNote (m_mk μ f) k (vl9 k) (dAt f 0 (u_se (u_fr (u_mm μ (m_trc μ, m_cch μ, m_cached μ, cn, m_circ μ)) (m_key μ, m_ph μ, m_chk μ, va_up (m_at μ) f 1, m_cand μ, m_cc μ, m_mk μ, m_asked μ, m_first μ, m_sum μ, m_hgt μ)) (m_thr μ, m_wkr μ, m_ran μ, st9, vl9)))) := ⟨r36, (hk77 0 (by decide) (by decide)).trans r0, (hk77 1 (by decide) (by decide)).trans r1, (hk77 2 (by decide) (by decide)).trans r2, (hk77 3 (by decide) (by decide)).trans r3, r4, (hk78 5 (by decide) (by decide)).trans r5, (hk77 6 (by decide) (by decide)).trans r6, (hk79 7 (by decide) (by decide)).trans r7, (hk77 8 (by decide) (by decide)).trans r8, ⟨_, (hk77 9 (by decide) (by decide)).trans r9⟩, (hk77 10 (by decide) (by decide)).trans r10, (hk77 11 (by decide) (by decide)).trans r11, (hk77 12 (by decide) (by decide)).trans r12, (hk77 13 (by decide) (by decide)).trans r13, (hk77 14 (by decide) (by decide)).trans r14, (hk77 15 (by decide) (by decide)).trans r15, (hk77 23 (by decide) (by decide)).trans r23, r24, (hk77 25 (by decide) (by decide)).trans r25, (hk77 26 (by decide) (by decide)).trans r26, (hk77 27 (by decide) (by decide)).trans r27, (hk80 28 (by decide) (by decide)).trans r28, (hk77 29 (by decide) (by decide)).trans r29, (hk77 30 (by decide) (by decide)).trans r30, (hk80 31 (by decide) (by decide)).trans r31, (hk77 32 (by decide) (by decide)).trans r32, (hk77 33 (by decide) (by decide)).trans r33, (hk77 34 (by decide) (by decide)).trans r34⟩
            refine va_callv (rn_V (n := 2) (As := [.int (nI f), .long (vl9 k)]) (rest := []) (C := R_D) (T := F_D) (N := 36) (ci := 5) X hP hS (c_D_take B0 w74 md (dNote (m_mk μ f) k (vl9 k) (dAt f 0 (u_se (u_fr (u_mm μ (m_trc μ, m_cch μ, m_cached μ, cn, m_circ μ)) (m_key μ, m_ph μ, m_chk μ, va_up (m_at μ) f 1, m_cand μ, m_cc μ, m_mk μ, m_asked μ, m_first μ, m_sum μ, m_hgt μ)) (m_thr μ, m_wkr μ, m_ran μ, st9, vl9)))) f (vl9 k) hj hRq (by omega) e2 e3 e5) k_763 k_765 k_47 k_58 k_766 (by decide +kernel) rfl rfl ⟨Nat.le_of_ble_eq_true rfl, Nat.le_of_ble_eq_true rfl⟩ r36 rfl rfl hl.1 rfl (Nat.le_of_ble_eq_true rfl) d_D_goOn_169 ⟨Nat.le_of_ble_eq_true rfl, Nat.le_of_ble_eq_true rfl⟩) hS (fun q _ h => h) (fun q h => h) (fun w81 tS H locs ht hvm hw hB hz1 hk1 hS => ?_)
            have hP : fw_P (dC, dI) cls_ (AA s0) w81 H := by rw [← ht]; exact hB
            obtain ⟨hR7, ho7⟩ := hw
            have ho82 : OutD md w w81 := OutD.tr ho76 ho7
            exact W.vret hx hb hr (fun tS ht hW => ⟨⟨w81, rfl, ⟨Or.inr (Or.inr ⟨c3, fun h9 => absurd (hb9.mpr h9) (by rw [c5]; decide), hR7⟩), ho82⟩, mB_of ht hP⟩, hS.F ht⟩) hS.2.2 d_D_goOn_172
        · have hki := hkb i (by omega)
          refine lv_aload_n hx hb d_D_goOn_82 rfl (lv_at hl 0 rfl) ?_
          refine va_get (D := (dC, dI)) (ci := 5) (v := .ref (md 5)) (C := R_D) (T := F_D) (N := 36) hx hb hg in_D hown hK (hP.one r36) 0 rfl rfl 5 (by decide) (hg _ k_596) (fun _ h9 => h9) rfl d_D_goOn_83 ?_
          refine lv_iload_n hx hb d_D_goOn_86 rfl (lv_at hl 3 rfl) ?_
          refine lv_bipush (v := (nI 12)) hx hb d_D_goOn_87 (by decide) ?_
          refine nu_imul (r := 12 * (m_mk μ f)) hx hb d_D_goOn_89 (by omega) ?_
          refine lv_iload hx hb d_D_goOn_90 (lv_at hl 5 rfl) ?_
          refine nu_iadd (r := 12 * (m_mk μ f) + i) hx hb d_D_goOn_92 (by omega) ?_
          have r5 : w62 (md 5) = some (.inl (dA 0, 3840, .inl (nf (m_keys μ)))) := by rw [ew63, va_up_ne _ _ (hj.ne (i := 5) (j := 28) (by decide) (by decide) (by decide))]; exact r5
          refine fw_iald (tys := tyl dA) hx hb hK hP r5 0 rfl (j := 12 * (m_mk μ f) + i) (by omega) (by decide) d_D_goOn_93 ?_
          refine lv_iload_n hx hb d_D_goOn_94 rfl (lv_at hl 2 rfl) ?_
          refine nu_ne (tgt := 101) hx hb (by omega) (by omega) d_D_goOn_95 (by decide) (fun c6 => ?_) (fun c6 => ?_)
          · refine lv_iinc (v := nI (i + 1)) (lv' := [(5, .int (nI (i + 1))), (0, .ref (md 36)), (1, .int (nI f)), (2, .int (nI k)), (3, .int (nI (m_mk μ f))), (4, .int (nI b9.toNat))]) hx hb d_D_goOn_101 hl (k := 5) rfl (nI_add _ 1) (by decide) rfl (fun ls hl => ?_)
            refine lv_goto (tgt := 71) hx hb d_D_goOn_104 (by decide) ?_
            exact ih (i + 1) b9 (by omega) (hb9.trans ⟨fun h9 => by obtain ⟨j, hj9, h8⟩ := h9; exact ⟨j, by omega, h8⟩, fun h9 => by obtain ⟨j, hj9, h8⟩ := h9; exact ⟨j, (Nat.lt_or_ge j i).elim id (fun h7 => absurd (show m_keys μ (12 * m_mk μ f + i) = k by rw [show i = j by omega]; exact h8) c6), h8⟩⟩) (by omega) _ _ hP hS ls (lv_sub hl [1, 2, 3, 4, 5, 0] rfl)
          · refine lv_iconst (v := (nI 1)) hx hb d_D_goOn_98 (by decide) ?_
            refine lv_istore (lv' := [(4, .int (nI 1)), (0, .ref (md 36)), (1, .int (nI f)), (2, .int (nI k)), (3, .int (nI (m_mk μ f))), (5, .int (nI i))]) hx hb d_D_goOn_99 hl (by decide) rfl (fun ls hl => ?_)
            refine lv_iinc (v := nI (i + 1)) (lv' := [(5, .int (nI (i + 1))), (4, .int (nI 1)), (0, .ref (md 36)), (1, .int (nI f)), (2, .int (nI k)), (3, .int (nI (m_mk μ f)))]) hx hb d_D_goOn_101 hl (k := 5) rfl (nI_add _ 1) (by decide) rfl (fun ls hl => ?_)
            refine lv_goto (tgt := 71) hx hb d_D_goOn_104 (by decide) ?_
            have hl : lv_has ls 6 [(5, .int (nI (i + 1))), (4, .int (nI true.toNat)), (0, .ref (md 36)), (1, .int (nI f)), (2, .int (nI k)), (3, .int (nI (m_mk μ f)))] := hl
            exact ih (i + 1) true (by omega) (⟨fun _ => ⟨i, by omega, c6⟩, fun _ => rfl⟩) (by omega) _ _ hP hS ls (lv_sub hl [2, 3, 4, 5, 1, 0] rfl)
    · exact W.vret hx hb hr (fun tS ht hW => ⟨⟨w60, rfl, ⟨Or.inl ⟨c3, hR8⟩, ho61⟩, mB_of ht hP⟩, hS.F ht⟩) hS.2.2 d_D_goOn_50
  refine lv_aload_n hx hb d_D_goOn_16 rfl (lv_at hl 1 rfl) ?_
  refine va_get (D := (dC, dI)) (ci := 5) (v := .ref (md 28)) (C := R_D) (T := F_D) (N := 36) hx hb hg in_D hown hK (hP.one r36) 0 rfl rfl 28 (by decide) (hg _ k_619) (fun _ h9 => h9) rfl d_D_goOn_17 ?_
  refine lv_iload_n hx hb d_D_goOn_20 rfl (lv_at hl 2 rfl) ?_
  refine fw_iald (tys := tyl dA) hx hb hK hP r28 0 rfl (j := f) (by omega) (by decide) d_D_goOn_21 ?_
  refine nu_zne (tgt := 35) hx hb (by omega) d_D_goOn_22 (by decide) (fun c2 => ?_) (fun c2 => ?_)
  · refine lv_aload_n hx hb d_D_goOn_35 rfl (lv_at hl 1 rfl) ?_
    refine va_get (D := (dC, dI)) (ci := 5) (v := .ref (md 28)) (C := R_D) (T := F_D) (N := 36) hx hb hg in_D hown hK (hP.one r36) 0 rfl rfl 28 (by decide) (hg _ k_619) (fun _ h9 => h9) rfl d_D_goOn_36 ?_
    refine lv_iload_n hx hb d_D_goOn_39 rfl (lv_at hl 2 rfl) ?_
    refine lv_iconst (v := (nI 1)) hx hb d_D_goOn_40 (by decide) ?_
    refine fw_iast (tys := tyl dA) hx hb hK hP hS r28 0 rfl (j := f) (x := (nI 1)) (by omega) (by decide) d_D_goOn_41 (fun w83 H locs ew84 hP hS => ?_)
    rw [nf_up] at ew84
    have r28 : w83 (md 28) = some (.inl (dA 0, 13, .inl (nf (va_up (m_at μ) f 1)))) := by rw [ew84]; exact va_up_self _ _ _
    have ho85 : OutD md w w83 := OutD.up OutD.rf ew84 (by decide)
    have hk86 : ∀ i, U37 i → i ∉ [28] → w83 (md i) = w (md i) := fun i hi hn => by rw [ew84, va_up_ne _ _ (hj.ne hi (j := 28) (by decide) (fun e9 => hn (by rw [e9]; decide)))]
    exact tail (m_cnt μ) (by unfold dGo1; rw [if_neg c2]; rfl) _ _ _ ⟨(hk86 36 (by decide) (by decide)).trans r36, (hk86 0 (by decide) (by decide)).trans r0, (hk86 1 (by decide) (by decide)).trans r1, (hk86 2 (by decide) (by decide)).trans r2, (hk86 3 (by decide) (by decide)).trans r3, (hk86 4 (by decide) (by decide)).trans r4, (hk86 5 (by decide) (by decide)).trans r5, (hk86 6 (by decide) (by decide)).trans r6, (hk86 7 (by decide) (by decide)).trans r7, (hk86 8 (by decide) (by decide)).trans r8, ⟨_, (hk86 9 (by decide) (by decide)).trans r9⟩, (hk86 10 (by decide) (by decide)).trans r10, (hk86 11 (by decide) (by decide)).trans r11, (hk86 12 (by decide) (by decide)).trans r12, (hk86 13 (by decide) (by decide)).trans r13, (hk86 14 (by decide) (by decide)).trans r14, (hk86 15 (by decide) (by decide)).trans r15, (hk86 23 (by decide) (by decide)).trans r23, (hk86 24 (by decide) (by decide)).trans r24, (hk86 25 (by decide) (by decide)).trans r25, (hk86 26 (by decide) (by decide)).trans r26, (hk86 27 (by decide) (by decide)).trans r27, r28, (hk86 29 (by decide) (by decide)).trans r29, (hk86 30 (by decide) (by decide)).trans r30, (hk86 31 (by decide) (by decide)).trans r31, (hk86 32 (by decide) (by decide)).trans r32, (hk86 33 (by decide) (by decide)).trans r33, (hk86 34 (by decide) (by decide)).trans r34⟩ ho85 hP hS ls (lv_sub hl [1, 2, 0] rfl)
  · refine lv_aload_n hx hb d_D_goOn_25 rfl (lv_at hl 1 rfl) ?_
    refine va_get (D := (dC, dI)) (ci := 5) (v := .ref (md 14)) (C := R_D) (T := F_D) (N := 36) hx hb hg in_D hown hK (hP.one r36) 0 rfl rfl 14 (by decide) (hg _ k_605) (fun _ h9 => h9) rfl d_D_goOn_26 ?_
    refine lv_iconst (v := (nI 0)) hx hb d_D_goOn_29 (by decide) ?_
    refine lv_dup2_11 hx hb d_D_goOn_30 rfl rfl ?_
    refine fw_iald (tys := tyl dA) hx hb hK hP r14 0 rfl (j := 0) (by omega) (by decide) d_D_goOn_31 ?_
    refine lv_iconst (v := (nI 1)) hx hb d_D_goOn_32 (by decide) ?_
    refine lv_iadd hx hb d_D_goOn_33 ?_
    refine fw_iast (tys := tyl dA) hx hb hK hP hS r14 0 rfl (j := 0) (x := (((m_cnt μ) 0) + (nI 1))) (by omega) (by decide) d_D_goOn_34 (fun w87 H locs ew88 hP hS => ?_)
    have r14 : w87 (md 14) = some (.inl (dA 0, 7, .inl (upd (m_cnt μ) 0 (((m_cnt μ) 0) + (nI 1))))) := by rw [ew88]; exact va_up_self _ _ _
    have ho89 : OutD md w w87 := OutD.up OutD.rf ew88 (by decide)
    refine lv_aload_n hx hb d_D_goOn_35 rfl (lv_at hl 1 rfl) ?_
    have r36 : w87 (md 36) = some (.inr (5, [.ref (md 0), .ref (md 1), .ref (md 2), .ref (md 3), .ref (md 4), .ref (md 5), .ref (md 6), .ref (md 7), .ref (md 8), .ref (md 9), .ref (md 10), .ref (md 11), .ref (md 12), .ref (md 13), .ref (md 14), .ref (md 15), .int (nI (m_cached μ)), .int (nI (m_ocached μ)), .int (m_circ μ), .int (m_ocirc μ), .int (nI (m_thr μ)), .int (nI (m_wkr μ)), .int (nI (m_ran μ).toNat), .ref (md 23), .ref (md 24), .ref (md 25), .ref (md 26), .ref (md 27), .ref (md 28), .ref (md 29), .ref (md 30), .ref (md 31), .ref (md 32), .ref (md 33), .ref (md 34), .int (nI (m_hgt μ))])) := by rw [ew88, va_up_ne _ _ (hj.ne (i := 36) (j := 14) (by decide) (by decide) (by decide))]; exact r36
    refine va_get (D := (dC, dI)) (ci := 5) (v := .ref (md 28)) (C := R_D) (T := F_D) (N := 36) hx hb hg in_D hown hK (hP.one r36) 0 rfl rfl 28 (by decide) (hg _ k_619) (fun _ h9 => h9) rfl d_D_goOn_36 ?_
    refine lv_iload_n hx hb d_D_goOn_39 rfl (lv_at hl 2 rfl) ?_
    refine lv_iconst (v := (nI 1)) hx hb d_D_goOn_40 (by decide) ?_
    have r28 : w87 (md 28) = some (.inl (dA 0, 13, .inl (nf (m_at μ)))) := by rw [ew88, va_up_ne _ _ (hj.ne (i := 28) (j := 14) (by decide) (by decide) (by decide))]; exact r28
    refine fw_iast (tys := tyl dA) hx hb hK hP hS r28 0 rfl (j := f) (x := (nI 1)) (by omega) (by decide) d_D_goOn_41 (fun w90 H locs ew91 hP hS => ?_)
    rw [nf_up] at ew91
    have r28 : w90 (md 28) = some (.inl (dA 0, 13, .inl (nf (va_up (m_at μ) f 1)))) := by rw [ew91]; exact va_up_self _ _ _
    have ho92 : OutD md w w90 := OutD.up ho89 ew91 (by decide)
    have hk93 : ∀ i, U37 i → i ∉ [28] → w90 (md i) = w87 (md i) := fun i hi hn => by rw [ew91, va_up_ne _ _ (hj.ne hi (j := 28) (by decide) (fun e9 => hn (by rw [e9]; decide)))]
    have hk94 : ∀ i, U37 i → i ∉ [14, 28] → w90 (md i) = w (md i) := fun i hi hn => by rw [ew91, va_up_ne _ _ (hj.ne hi (j := 28) (by decide) (fun e9 => hn (by rw [e9]; decide))), ew88, va_up_ne _ _ (hj.ne hi (j := 14) (by decide) (fun e9 => hn (by rw [e9]; decide)))]
    exact tail (upd (m_cnt μ) 0 (m_cnt μ 0 + nI 1)) (by unfold dGo1; rw [if_pos c2]; rfl) _ _ _ ⟨(hk93 36 (by decide) (by decide)).trans r36, (hk94 0 (by decide) (by decide)).trans r0, (hk94 1 (by decide) (by decide)).trans r1, (hk94 2 (by decide) (by decide)).trans r2, (hk94 3 (by decide) (by decide)).trans r3, (hk94 4 (by decide) (by decide)).trans r4, (hk94 5 (by decide) (by decide)).trans r5, (hk94 6 (by decide) (by decide)).trans r6, (hk94 7 (by decide) (by decide)).trans r7, (hk94 8 (by decide) (by decide)).trans r8, ⟨_, (hk94 9 (by decide) (by decide)).trans r9⟩, (hk94 10 (by decide) (by decide)).trans r10, (hk94 11 (by decide) (by decide)).trans r11, (hk94 12 (by decide) (by decide)).trans r12, (hk94 13 (by decide) (by decide)).trans r13, (hk93 14 (by decide) (by decide)).trans r14, (hk94 15 (by decide) (by decide)).trans r15, (hk94 23 (by decide) (by decide)).trans r23, (hk94 24 (by decide) (by decide)).trans r24, (hk94 25 (by decide) (by decide)).trans r25, (hk94 26 (by decide) (by decide)).trans r26, (hk94 27 (by decide) (by decide)).trans r27, r28, (hk94 29 (by decide) (by decide)).trans r29, (hk94 30 (by decide) (by decide)).trans r30, (hk94 31 (by decide) (by decide)).trans r31, (hk94 32 (by decide) (by decide)).trans r32, (hk94 33 (by decide) (by decide)).trans r33, (hk94 34 (by decide) (by decide)).trans r34⟩ ho92 hP hS ls (lv_sub hl [1, 2, 0] rfl)
