theorem nf_if (n : Nat) (f g : Nat → Nat) : (fun i => if i < n then nf f i else nf g i) = nf (fun i => if i < n then f i else g i) := by
  funext i
  show _ = nI (if i < n then f i else g i)
  by_cases h : i < n
  · rw [if_pos h, if_pos h]
  · rw [if_neg h, if_neg h]
set_option maxHeartbeats 4000000 in
set_option maxRecDepth 100000 in
theorem c_D_buildX {l : Launch} {s0 : State} {dC : Nat → ClassId} {dI : Nat → Nat → Nat} {dA : Nat → ClassId} (B0 : BB s0 dC dI dA) (w : fw_W) (md : Nat → Nat) (μ : MS) (β : BS) (x1 x2 : Int32) (hj : Inj37 md) (hD : RD dA md w μ) (hQ : RQ β μ) (ho : ¬ (okW x1 ∧ okK x2)) : Met l y_D_build [.code y_D_build b_D_build 5 (some .long)] ({ frames := 1, cells := 0, slots := 0, locals := 40 }) (mP s0 dC dI w [.ref (md 36), .int x1, .int x2]) (mQl s0 dC dI (fun r w' => MB dA md w w' β 1)) 0 0 (AA s0) := by
  refine mt_ofW B0 (by decide) (Nat.le_of_ble_eq_true rfl) (fun p e s m args below meth c ls hargs X hin hl hP => ?_)
  have X9 := X
  obtain ⟨hx, hb, hr, hml, hown, hg, hK, hn, hE, hlocks, hA⟩ := X9
  have hS : va_S (AA s0) s.heap s.heap [] := va_S.rf
  have hl : lv_has ls 5 [(0, .ref (md 36)), (1, .int x1), (2, .int x2)] := hl
  obtain ⟨r36, r0, r1, r2, r3, r4, r5, r6, r7, r8, ⟨u, r9⟩, r10, r11, r12, r13, r14, r15, r23, r24, r25, r26, r27, r28, r29, r30, r31, r32, r33, r34⟩ := (id hD)
  refine lv_aload_n hx hb d_D_build_0 rfl (lv_at hl 0 rfl) ?_
  refine lv_iload_n hx hb d_D_build_1 rfl (lv_at hl 1 rfl) ?_
  refine lv_iconst (v := (nI 0)) hx hb d_D_build_2 (by decide) ?_
  refine lv_iconst (v := (nI 1)) hx hb d_D_build_3 (by decide) ?_
  refine va_calli (rn_S (n := 3) (As := [.int x1, .int (nI 0), .int (nI 1)]) (rest := [.ref (md 36)]) X hP hS (c_D_in B0 w x1 (nI 0) (nI 1)) k_708 k_709 k_58 k_710 (by decide +kernel) rfl rfl ⟨Nat.le_of_ble_eq_true rfl, Nat.le_of_ble_eq_true rfl⟩ rfl hl.1 rfl (Nat.le_of_ble_eq_true rfl) d_D_build_4 ⟨Nat.le_of_ble_eq_true rfl, Nat.le_of_ble_eq_true rfl⟩) hS (fun q _ h => h) (fun q h => h) (fun r w1 tS H locs ht hvm hw hB hz1 hk1 hS => ?_)
  have hP : fw_P (dC, dI) cls_ (AA s0) w1 H := by rw [← ht]; exact hB
  obtain ⟨e9, b1, rfl, ib1⟩ := hw
  rw [e9] at hP
  refine nu_ifeq (tgt := 24) hx hb d_D_build_7 (by decide) (fun c0 => ?_) (fun c0 => ?_)
  · refine lv_iconst (v := (nI 0)) hx hb d_D_build_24 (by decide) ?_
    refine va_calli (rn_V (n := 1) (As := [.int (nI false.toNat)]) (rest := []) (C := R_D) (T := F_D) (N := 36) (ci := 5) X hP hS (c_D_bad B0 w md μ false hj hD) k_711 k_713 k_38 k_58 k_714 (by decide +kernel) rfl rfl ⟨Nat.le_of_ble_eq_true rfl, Nat.le_of_ble_eq_true rfl⟩ r36 rfl rfl hl.1 rfl (Nat.le_of_ble_eq_true rfl) d_D_build_25 ⟨Nat.le_of_ble_eq_true rfl, Nat.le_of_ble_eq_true rfl⟩) hS (fun q _ h => h) (fun q h => h) (fun r w2 tS H locs ht hvm hw hB hz1 hk1 hS => ?_)
    have hP : fw_P (dC, dI) cls_ (AA s0) w2 H := by rw [← ht]; exact hB
    obtain ⟨rfl, hR8, ho8⟩ := hw
    have hD1 : RD dA md w2 (dThr 1 μ) := hR8
    have ho3 : OutD md w w2 := OutD.tr OutD.rf ho8
    obtain ⟨r36, r0, r1, r2, r3, r4, r5, r6, r7, r8, ⟨u, r9⟩, r10, r11, r12, r13, r14, r15, r23, r24, r25, r26, r27, r28, r29, r30, r31, r32, r33, r34⟩ := (id hD1)
    refine nu_ifeq (tgt := 33) hx hb d_D_build_28 (by decide) (fun c1 => ?_) (fun c1 => ?_)
    · exact absurd c1 (by decide)
    · refine lv_lconst (v := 0) hx hb d_D_build_31 (by decide) ?_
      exact W.lret (v := 0) hx hb hr (fun tS ht hW => ⟨⟨0, w2, rfl, ⟨dThr 1 μ, hD1, hQ, rfl, ho3⟩, mB_of ht hP⟩, hS.F ht⟩) hS.2.2 d_D_build_32
  · refine lv_iload_n hx hb d_D_build_10 rfl (lv_at hl 2 rfl) ?_
    refine lv_iconst (v := (nI 0)) hx hb d_D_build_11 (by decide) ?_
    refine lv_bipush (v := (nI 11)) hx hb d_D_build_12 (by decide) ?_
    refine va_calli (rn_S (n := 3) (As := [.int x2, .int (nI 0), .int (nI 11)]) (rest := [.ref (md 36)]) X hP hS (c_D_in B0 w x2 (nI 0) (nI 11)) k_708 k_709 k_58 k_710 (by decide +kernel) rfl rfl ⟨Nat.le_of_ble_eq_true rfl, Nat.le_of_ble_eq_true rfl⟩ rfl hl.1 rfl (Nat.le_of_ble_eq_true rfl) d_D_build_14 ⟨Nat.le_of_ble_eq_true rfl, Nat.le_of_ble_eq_true rfl⟩) hS (fun q _ h => h) (fun q h => h) (fun r w4 tS H locs ht hvm hw hB hz1 hk1 hS => ?_)
    have hP : fw_P (dC, dI) cls_ (AA s0) w4 H := by rw [← ht]; exact hB
    obtain ⟨e9, b2, rfl, ib2⟩ := hw
    rw [e9] at hP
    refine nu_ifeq (tgt := 24) hx hb d_D_build_17 (by decide) (fun c00 => ?_) (fun c00 => ?_)
    · refine lv_iconst (v := (nI 0)) hx hb d_D_build_24 (by decide) ?_
      refine va_calli (rn_V (n := 1) (As := [.int (nI false.toNat)]) (rest := []) (C := R_D) (T := F_D) (N := 36) (ci := 5) X hP hS (c_D_bad B0 w md μ false hj hD) k_711 k_713 k_38 k_58 k_714 (by decide +kernel) rfl rfl ⟨Nat.le_of_ble_eq_true rfl, Nat.le_of_ble_eq_true rfl⟩ r36 rfl rfl hl.1 rfl (Nat.le_of_ble_eq_true rfl) d_D_build_25 ⟨Nat.le_of_ble_eq_true rfl, Nat.le_of_ble_eq_true rfl⟩) hS (fun q _ h => h) (fun q h => h) (fun r w5 tS H locs ht hvm hw hB hz1 hk1 hS => ?_)
      have hP : fw_P (dC, dI) cls_ (AA s0) w5 H := by rw [← ht]; exact hB
      obtain ⟨rfl, hR8, ho8⟩ := hw
      have hD1 : RD dA md w5 (dThr 1 μ) := hR8
      have ho6 : OutD md w w5 := OutD.tr OutD.rf ho8
      obtain ⟨r36, r0, r1, r2, r3, r4, r5, r6, r7, r8, ⟨u, r9⟩, r10, r11, r12, r13, r14, r15, r23, r24, r25, r26, r27, r28, r29, r30, r31, r32, r33, r34⟩ := (id hD1)
      refine nu_ifeq (tgt := 33) hx hb d_D_build_28 (by decide) (fun c1 => ?_) (fun c1 => ?_)
      · exact absurd c1 (by decide)
      · refine lv_lconst (v := 0) hx hb d_D_build_31 (by decide) ?_
        exact W.lret (v := 0) hx hb hr (fun tS ht hW => ⟨⟨0, w5, rfl, ⟨dThr 1 μ, hD1, hQ, rfl, ho6⟩, mB_of ht hP⟩, hS.F ht⟩) hS.2.2 d_D_build_32
    · exact absurd ⟨(in_W x1).mp (ib1.mp c0), (in_K x2).mp (ib2.mp c00)⟩ ho
set_option maxHeartbeats 4000000 in
set_option maxRecDepth 100000 in
theorem c_D_build {l : Launch} {s0 : State} {dC : Nat → ClassId} {dI : Nat → Nat → Nat} {dA : Nat → ClassId} (B0 : BB s0 dC dI dA) (w : fw_W) (md : Nat → Nat) (μ : MS) (β : BS) (wk k : Nat) (hj : Inj37 md) (hD : RD dA md w μ) (hQ : RQ β μ) (hp : p_ok (b_P β)) (hwk : wk < 2) (hk : k < 12) : Met l y_D_build [.code y_D_build b_D_build 5 (some .long)] ({ frames := 5, cells := 0, slots := 0, locals := 240 }) (mP s0 dC dI w [.ref (md 36), .int (nI wk), .int (nI k)]) (mQl s0 dC dI (fun r w' => (bFl wk k β = 0 → r = (bSess wk k β).1) ∧ MB dA md w w' (bBuild wk k β) (if bFl wk k β = 0 then 0 else bFl wk k β + 1))) 0 0 (AA s0) := by
  have so3 := hQ.so3 hp hk
  refine mt_ofW B0 (by decide) (Nat.le_of_ble_eq_true rfl) (fun p e s m args below meth c ls hargs X hin hl hP => ?_)
  have X9 := X
  obtain ⟨hx, hb, hr, hml, hown, hg, hK, hn, hE, hlocks, hA⟩ := X9
  have hS : va_S (AA s0) s.heap s.heap [] := va_S.rf
  have hl : lv_has ls 5 [(0, .ref (md 36)), (1, .int (nI wk)), (2, .int (nI k))] := hl
  obtain ⟨r36, r0, r1, r2, r3, r4, r5, r6, r7, r8, ⟨u, r9⟩, r10, r11, r12, r13, r14, r15, r23, r24, r25, r26, r27, r28, r29, r30, r31, r32, r33, r34⟩ := (id hD)
  refine lv_aload_n hx hb d_D_build_0 rfl (lv_at hl 0 rfl) ?_
  refine lv_iload_n hx hb d_D_build_1 rfl (lv_at hl 1 rfl) ?_
  refine lv_iconst (v := (nI 0)) hx hb d_D_build_2 (by decide) ?_
  refine lv_iconst (v := (nI 1)) hx hb d_D_build_3 (by decide) ?_
  refine va_calli (rn_S (n := 3) (As := [.int (nI wk), .int (nI 0), .int (nI 1)]) (rest := [.ref (md 36)]) X hP hS (c_D_in B0 w (nI wk) (nI 0) (nI 1)) k_708 k_709 k_58 k_710 (by decide +kernel) rfl rfl ⟨Nat.le_of_ble_eq_true rfl, Nat.le_of_ble_eq_true rfl⟩ rfl hl.1 rfl (Nat.le_of_ble_eq_true rfl) d_D_build_4 ⟨Nat.le_of_ble_eq_true rfl, Nat.le_of_ble_eq_true rfl⟩) hS (fun q _ h => h) (fun q h => h) (fun r w7 tS H locs ht hvm hw hB hz1 hk1 hS => ?_)
  have hP : fw_P (dC, dI) cls_ (AA s0) w7 H := by rw [← ht]; exact hB
  obtain ⟨e9, b1, rfl, ib1⟩ := hw
  rw [e9] at hP
  have hv_b1 : b1 = true := ib1.mpr ((in_W _).mpr ⟨wk, hwk, rfl⟩)
  subst hv_b1
  refine nu_ifeq (tgt := 24) hx hb d_D_build_7 (by decide) (fun c0 => ?_) (fun c0 => ?_)
  · exact absurd c0 (by decide)
  · refine lv_iload_n hx hb d_D_build_10 rfl (lv_at hl 2 rfl) ?_
    refine lv_iconst (v := (nI 0)) hx hb d_D_build_11 (by decide) ?_
    refine lv_bipush (v := (nI 11)) hx hb d_D_build_12 (by decide) ?_
    refine va_calli (rn_S (n := 3) (As := [.int (nI k), .int (nI 0), .int (nI 11)]) (rest := [.ref (md 36)]) X hP hS (c_D_in B0 w (nI k) (nI 0) (nI 11)) k_708 k_709 k_58 k_710 (by decide +kernel) rfl rfl ⟨Nat.le_of_ble_eq_true rfl, Nat.le_of_ble_eq_true rfl⟩ rfl hl.1 rfl (Nat.le_of_ble_eq_true rfl) d_D_build_14 ⟨Nat.le_of_ble_eq_true rfl, Nat.le_of_ble_eq_true rfl⟩) hS (fun q _ h => h) (fun q h => h) (fun r w8 tS H locs ht hvm hw hB hz1 hk1 hS => ?_)
    have hP : fw_P (dC, dI) cls_ (AA s0) w8 H := by rw [← ht]; exact hB
    obtain ⟨e9, b2, rfl, ib2⟩ := hw
    rw [e9] at hP
    have hv_b2 : b2 = true := ib2.mpr ((in_K _).mpr ⟨k, hk, rfl⟩)
    subst hv_b2
    refine nu_ifeq (tgt := 24) hx hb d_D_build_17 (by decide) (fun c0 => ?_) (fun c0 => ?_)
    · exact absurd c0 (by decide)
    · refine lv_iconst (v := (nI 1)) hx hb d_D_build_20 (by decide) ?_
      refine lv_goto (tgt := 25) hx hb d_D_build_21 (by decide) ?_
      refine va_calli (rn_V (n := 1) (As := [.int (nI true.toNat)]) (rest := []) (C := R_D) (T := F_D) (N := 36) (ci := 5) X hP hS (c_D_bad B0 w md μ true hj hD) k_711 k_713 k_38 k_58 k_714 (by decide +kernel) rfl rfl ⟨Nat.le_of_ble_eq_true rfl, Nat.le_of_ble_eq_true rfl⟩ r36 rfl rfl hl.1 rfl (Nat.le_of_ble_eq_true rfl) d_D_build_25 ⟨Nat.le_of_ble_eq_true rfl, Nat.le_of_ble_eq_true rfl⟩) hS (fun q _ h => h) (fun q h => h) (fun r w9 tS H locs ht hvm hw hB hz1 hk1 hS => ?_)
      have hP : fw_P (dC, dI) cls_ (AA s0) w9 H := by rw [← ht]; exact hB
      obtain ⟨rfl, hR8, ho8⟩ := hw
      have hD1 : RD dA md w9 (dThr 0 μ) := hR8
      have ho10 : OutD md w w9 := OutD.tr OutD.rf ho8
      obtain ⟨r36, r0, r1, r2, r3, r4, r5, r6, r7, r8, ⟨u, r9⟩, r10, r11, r12, r13, r14, r15, r23, r24, r25, r26, r27, r28, r29, r30, r31, r32, r33, r34⟩ := (id hD1)
      refine nu_ifeq (tgt := 33) hx hb d_D_build_28 (by decide) (fun c1 => ?_) (fun c1 => ?_)
      · refine lv_aload_n hx hb d_D_build_33 rfl (lv_at hl 0 rfl) ?_
        refine lv_iload_n hx hb d_D_build_34 rfl (lv_at hl 1 rfl) ?_
        refine lv_iload_n hx hb d_D_build_35 rfl (lv_at hl 2 rfl) ?_
        have r36 : w9 (md 36) = some (.inr (5, [.ref (md 0), .ref (md 1), .ref (md 2), .ref (md 3), .ref (md 4), .ref (md 5), .ref (md 6), .ref (md 7), .ref (md 8), .ref (md 9), .ref (md 10), .ref (md 11), .ref (md 12), .ref (md 13), .ref (md 14), .ref (md 15), .int (nI (m_cached μ)), .int (nI (m_ocached μ)), .int (m_circ μ), .int (m_ocirc μ), .int (nI 0), .int (nI (m_wkr μ)), .int (nI (m_ran μ).toNat), .ref (md 23), .ref (md 24), .ref (md 25), .ref (md 26), .ref (md 27), .ref (md 28), .ref (md 29), .ref (md 30), .ref (md 31), .ref (md 32), .ref (md 33), .ref (md 34), .int (nI (m_hgt μ))])) := r36
        refine va_calll (rn_V (n := 2) (As := [.int (nI wk), .int (nI k)]) (rest := []) (C := R_D) (T := F_D) (N := 36) (ci := 5) X hP hS (c_D_session B0 w9 md (dThr 0 μ) wk k (fun μ9 => ∃ st, ZZ (b_P β) wk k (dInit wk st (dThr 0 μ)) (b_0 β) μ9) hj hD1 hwk hk so3 (sess_b hp hwk hk hQ (Odr.odq hQ.2.2.2) rfl)) k_731 k_733 k_40 k_58 k_734 (by decide +kernel) rfl rfl ⟨Nat.le_of_ble_eq_true rfl, Nat.le_of_ble_eq_true rfl⟩ r36 rfl rfl hl.1 rfl (Nat.le_of_ble_eq_true rfl) d_D_build_36 ⟨Nat.le_of_ble_eq_true rfl, Nat.le_of_ble_eq_true rfl⟩) hS (fun q _ h => h) (fun q h => h) (fun r w11 tS H locs ht hvm hw hB hz1 hk1 hS => ?_)
        have hP : fw_P (dC, dI) cls_ (AA s0) w11 H := by rw [← ht]; exact hB
        obtain ⟨μ6, ⟨st9, hZ6⟩, hR7, hr7, ho7⟩ := hw
        have ho12 : OutD md w w11 := OutD.tr ho10 ho7
        obtain ⟨r36, r0, r1, r2, r3, r4, r5, r6, r7, r8, ⟨u, r9⟩, r10, r11, r12, r13, r14, r15, r23, r24, r25, r26, r27, r28, r29, r30, r31, r32, r33, r34⟩ := (id hR7)
        obtain ⟨hq6, hth6, hv6⟩ := rq_build (μ := dThr 0 μ) hQ hZ6
        have hz6 : m_thr (dClose μ6) < 10 := hZ6.zok.1.2.1
        refine lv_lstore_n (lv' := [(3, .long r), (0, .ref (md 36)), (1, .int (nI wk)), (2, .int (nI k))]) hx hb d_D_build_39 rfl hl (by decide) rfl (fun ls hl => ?_)
        refine lv_aload_n hx hb d_D_build_40 rfl (lv_at hl 1 rfl) ?_
        refine va_get (D := (dC, dI)) (ci := 5) (v := .ref (md 14)) (C := R_D) (T := F_D) (N := 36) hx hb hg in_D hown hK (hP.one r36) 0 rfl rfl 14 (by decide) (hg _ k_605) (fun _ h9 => h9) rfl d_D_build_41 ?_
        refine lv_iconst (v := (nI 5)) hx hb d_D_build_44 (by decide) ?_
        refine lv_dup2_11 hx hb d_D_build_45 rfl rfl ?_
        refine fw_iald (tys := tyl dA) hx hb hK hP r14 0 rfl (j := 5) (by omega) (by decide) d_D_build_46 ?_
        refine lv_iconst (v := (nI 1)) hx hb d_D_build_47 (by decide) ?_
        refine lv_iadd hx hb d_D_build_48 ?_
        refine fw_iast (tys := tyl dA) hx hb hK hP hS r14 0 rfl (j := 5) (x := (((m_cnt (dClose μ6)) 5) + (nI 1))) (by omega) (by decide) d_D_build_49 (fun w13 H locs ew14 hP hS => ?_)
        have r14 : w13 (md 14) = some (.inl (dA 0, 7, .inl (upd (m_cnt (dClose μ6)) 5 (((m_cnt (dClose μ6)) 5) + (nI 1))))) := by rw [ew14]; exact va_up_self _ _ _
        have ho15 : OutD md w w13 := OutD.up ho12 ew14 (by decide)
        refine lv_aload_n hx hb d_D_build_50 rfl (lv_at hl 1 rfl) ?_
        have r36 : w13 (md 36) = some (.inr (5, [.ref (md 0), .ref (md 1), .ref (md 2), .ref (md 3), .ref (md 4), .ref (md 5), .ref (md 6), .ref (md 7), .ref (md 8), .ref (md 9), .ref (md 10), .ref (md 11), .ref (md 12), .ref (md 13), .ref (md 14), .ref (md 15), .int (nI (m_cached (dClose μ6))), .int (nI (m_ocached (dClose μ6))), .int (m_circ (dClose μ6)), .int (m_ocirc (dClose μ6)), .int (nI (m_thr (dClose μ6))), .int (nI (m_wkr (dClose μ6))), .int (nI (m_ran (dClose μ6)).toNat), .ref (md 23), .ref (md 24), .ref (md 25), .ref (md 26), .ref (md 27), .ref (md 28), .ref (md 29), .ref (md 30), .ref (md 31), .ref (md 32), .ref (md 33), .ref (md 34), .int (nI (m_hgt (dClose μ6)))])) := by rw [ew14, va_up_ne _ _ (hj.ne (i := 36) (j := 14) (by decide) (by decide) (by decide))]; exact r36
        refine va_get (D := (dC, dI)) (ci := 5) (v := .int (nI (m_thr (dClose μ6)))) (C := R_D) (T := F_D) (N := 36) hx hb hg in_D hown hK (hP.one r36) 0 rfl rfl 20 (by decide) (hg _ k_611) (fun _ h9 => h9) rfl d_D_build_51 ?_
        refine nu_zle (tgt := 68) hx hb (by omega) d_D_build_54 (by decide) (fun c2 => ?_) (fun c2 => ?_)
        · refine lv_lload_n hx hb d_D_build_68 rfl (lv_at hl 0 rfl) ?_
          have hE9 : dTal (m_thr μ6) (dClose μ6) = (((m_sort (dClose μ6)), (m_rule (dClose μ6)), m_parts (dClose μ6), m_inp (dClose μ6)), ((m_size (dClose μ6)), (m_keys (dClose μ6)), (m_own (dClose μ6)), m_got (dClose μ6), m_came (dClose μ6)), (m_trc (dClose μ6), (m_cch (dClose μ6)), m_cached (dClose μ6), upd (m_cnt (dClose μ6)) 5 (((m_cnt (dClose μ6)) 5) + (nI 1)), (m_circ (dClose μ6))), (m_otrc (dClose μ6), (m_occh (dClose μ6)), m_ocached (dClose μ6), m_ocnt (dClose μ6), (m_ocirc (dClose μ6))), (m_thr (dClose μ6), m_wkr (dClose μ6), (m_ran (dClose μ6)), (m_st (dClose μ6)), m_val (dClose μ6)), ((m_key (dClose μ6)), (m_ph (dClose μ6)), m_chk (dClose μ6), (m_at (dClose μ6)), (m_cand (dClose μ6)), (m_cc (dClose μ6)), (m_mk (dClose μ6)), (m_asked (dClose μ6)), m_first (dClose μ6), m_sum (dClose μ6), m_hgt (dClose μ6))) := by unfold dTal; rw [if_pos (show m_thr μ6 = 0 from c2)]; rfl
          have hk16 : ∀ i, U37 i → i ∉ [14] → w13 (md i) = w11 (md i) := fun i hi hn => by rw [ew14, va_up_ne _ _ (hj.ne hi (j := 14) (by decide) (fun e9 => hn (by rw [e9]; decide)))]
          exact W.lret (v := r) hx hb hr (fun tS ht hW => ⟨⟨r, w13, rfl, ⟨fun h9 => by rw [hr7, if_pos (by rw [hth6, if_pos h9])]; exact hv6 h9, (((m_sort (dClose μ6)), (m_rule (dClose μ6)), m_parts (dClose μ6), m_inp (dClose μ6)), ((m_size (dClose μ6)), (m_keys (dClose μ6)), (m_own (dClose μ6)), m_got (dClose μ6), m_came (dClose μ6)), (m_trc (dClose μ6), (m_cch (dClose μ6)), m_cached (dClose μ6), upd (m_cnt (dClose μ6)) 5 (((m_cnt (dClose μ6)) 5) + (nI 1)), (m_circ (dClose μ6))), (m_otrc (dClose μ6), (m_occh (dClose μ6)), m_ocached (dClose μ6), m_ocnt (dClose μ6), (m_ocirc (dClose μ6))), (m_thr (dClose μ6), m_wkr (dClose μ6), (m_ran (dClose μ6)), (m_st (dClose μ6)), m_val (dClose μ6)), ((m_key (dClose μ6)), (m_ph (dClose μ6)), m_chk (dClose μ6), (m_at (dClose μ6)), (m_cand (dClose μ6)), (m_cc (dClose μ6)), (m_mk (dClose μ6)), (m_asked (dClose μ6)), m_first (dClose μ6), m_sum (dClose μ6), m_hgt (dClose μ6))), ⟨r36, (hk16 0 (by decide) (by decide)).trans r0, (hk16 1 (by decide) (by decide)).trans r1, (hk16 2 (by decide) (by decide)).trans r2, (hk16 3 (by decide) (by decide)).trans r3, (hk16 4 (by decide) (by decide)).trans r4, (hk16 5 (by decide) (by decide)).trans r5, (hk16 6 (by decide) (by decide)).trans r6, (hk16 7 (by decide) (by decide)).trans r7, (hk16 8 (by decide) (by decide)).trans r8, ⟨_, (hk16 9 (by decide) (by decide)).trans r9⟩, (hk16 10 (by decide) (by decide)).trans r10, (hk16 11 (by decide) (by decide)).trans r11, (hk16 12 (by decide) (by decide)).trans r12, (hk16 13 (by decide) (by decide)).trans r13, r14, (hk16 15 (by decide) (by decide)).trans r15, (hk16 23 (by decide) (by decide)).trans r23, (hk16 24 (by decide) (by decide)).trans r24, (hk16 25 (by decide) (by decide)).trans r25, (hk16 26 (by decide) (by decide)).trans r26, (hk16 27 (by decide) (by decide)).trans r27, (hk16 28 (by decide) (by decide)).trans r28, (hk16 29 (by decide) (by decide)).trans r29, (hk16 30 (by decide) (by decide)).trans r30, (hk16 31 (by decide) (by decide)).trans r31, (hk16 32 (by decide) (by decide)).trans r32, (hk16 33 (by decide) (by decide)).trans r33, (hk16 34 (by decide) (by decide)).trans r34⟩, by rw [← hE9]; exact hq6, hth6, ho15⟩, mB_of ht hP⟩, hS.F ht⟩) hS.2.2 d_D_build_69
        · refine lv_aload_n hx hb d_D_build_57 rfl (lv_at hl 1 rfl) ?_
          refine va_get (D := (dC, dI)) (ci := 5) (v := .ref (md 14)) (C := R_D) (T := F_D) (N := 36) hx hb hg in_D hown hK (hP.one r36) 0 rfl rfl 14 (by decide) (hg _ k_605) (fun _ h9 => h9) rfl d_D_build_58 ?_
          refine lv_bipush (v := (nI 6)) hx hb d_D_build_61 (by decide) ?_
          refine lv_dup2_11 hx hb d_D_build_63 rfl rfl ?_
          refine fw_iald (tys := tyl dA) hx hb hK hP r14 0 rfl (j := 6) (by omega) (by decide) d_D_build_64 ?_
          refine lv_iconst (v := (nI 1)) hx hb d_D_build_65 (by decide) ?_
          refine lv_iadd hx hb d_D_build_66 ?_
          refine fw_iast (tys := tyl dA) hx hb hK hP hS r14 0 rfl (j := 6) (x := (((upd (m_cnt (dClose μ6)) 5 (((m_cnt (dClose μ6)) 5) + (nI 1))) 6) + (nI 1))) (by omega) (by decide) d_D_build_67 (fun w17 H locs ew18 hP hS => ?_)
          have r14 : w17 (md 14) = some (.inl (dA 0, 7, .inl (upd (upd (m_cnt (dClose μ6)) 5 (((m_cnt (dClose μ6)) 5) + (nI 1))) 6 (((upd (m_cnt (dClose μ6)) 5 (((m_cnt (dClose μ6)) 5) + (nI 1))) 6) + (nI 1))))) := by rw [ew18]; exact va_up_self _ _ _
          have ho19 : OutD md w w17 := OutD.up ho15 ew18 (by decide)
          refine lv_lload_n hx hb d_D_build_68 rfl (lv_at hl 0 rfl) ?_
          have hE9 : dTal (m_thr μ6) (dClose μ6) = (((m_sort (dClose μ6)), (m_rule (dClose μ6)), m_parts (dClose μ6), m_inp (dClose μ6)), ((m_size (dClose μ6)), (m_keys (dClose μ6)), (m_own (dClose μ6)), m_got (dClose μ6), m_came (dClose μ6)), (m_trc (dClose μ6), (m_cch (dClose μ6)), m_cached (dClose μ6), upd (upd (m_cnt (dClose μ6)) 5 (((m_cnt (dClose μ6)) 5) + (nI 1))) 6 (((upd (m_cnt (dClose μ6)) 5 (((m_cnt (dClose μ6)) 5) + (nI 1))) 6) + (nI 1)), (m_circ (dClose μ6))), (m_otrc (dClose μ6), (m_occh (dClose μ6)), m_ocached (dClose μ6), m_ocnt (dClose μ6), (m_ocirc (dClose μ6))), (m_thr (dClose μ6), m_wkr (dClose μ6), (m_ran (dClose μ6)), (m_st (dClose μ6)), m_val (dClose μ6)), ((m_key (dClose μ6)), (m_ph (dClose μ6)), m_chk (dClose μ6), (m_at (dClose μ6)), (m_cand (dClose μ6)), (m_cc (dClose μ6)), (m_mk (dClose μ6)), (m_asked (dClose μ6)), m_first (dClose μ6), m_sum (dClose μ6), m_hgt (dClose μ6))) := by unfold dTal; rw [if_neg (show ¬ m_thr μ6 = 0 from Nat.pos_iff_ne_zero.mp c2)]; rfl
          have hk20 : ∀ i, U37 i → i ∉ [14] → w17 (md i) = w13 (md i) := fun i hi hn => by rw [ew18, va_up_ne _ _ (hj.ne hi (j := 14) (by decide) (fun e9 => hn (by rw [e9]; decide)))]
          have hk21 : ∀ i, U37 i → i ∉ [14] → w17 (md i) = w11 (md i) := fun i hi hn => by rw [ew18, va_up_ne _ _ (hj.ne hi (j := 14) (by decide) (fun e9 => hn (by rw [e9]; decide))), ew14, va_up_ne _ _ (hj.ne hi (j := 14) (by decide) (fun e9 => hn (by rw [e9]; decide)))]
          exact W.lret (v := r) hx hb hr (fun tS ht hW => ⟨⟨r, w17, rfl, ⟨fun h9 => by rw [hr7, if_pos (by rw [hth6, if_pos h9])]; exact hv6 h9, (((m_sort (dClose μ6)), (m_rule (dClose μ6)), m_parts (dClose μ6), m_inp (dClose μ6)), ((m_size (dClose μ6)), (m_keys (dClose μ6)), (m_own (dClose μ6)), m_got (dClose μ6), m_came (dClose μ6)), (m_trc (dClose μ6), (m_cch (dClose μ6)), m_cached (dClose μ6), upd (upd (m_cnt (dClose μ6)) 5 (((m_cnt (dClose μ6)) 5) + (nI 1))) 6 (((upd (m_cnt (dClose μ6)) 5 (((m_cnt (dClose μ6)) 5) + (nI 1))) 6) + (nI 1)), (m_circ (dClose μ6))), (m_otrc (dClose μ6), (m_occh (dClose μ6)), m_ocached (dClose μ6), m_ocnt (dClose μ6), (m_ocirc (dClose μ6))), (m_thr (dClose μ6), m_wkr (dClose μ6), (m_ran (dClose μ6)), (m_st (dClose μ6)), m_val (dClose μ6)), ((m_key (dClose μ6)), (m_ph (dClose μ6)), m_chk (dClose μ6), (m_at (dClose μ6)), (m_cand (dClose μ6)), (m_cc (dClose μ6)), (m_mk (dClose μ6)), (m_asked (dClose μ6)), m_first (dClose μ6), m_sum (dClose μ6), m_hgt (dClose μ6))), ⟨(hk20 36 (by decide) (by decide)).trans r36, (hk21 0 (by decide) (by decide)).trans r0, (hk21 1 (by decide) (by decide)).trans r1, (hk21 2 (by decide) (by decide)).trans r2, (hk21 3 (by decide) (by decide)).trans r3, (hk21 4 (by decide) (by decide)).trans r4, (hk21 5 (by decide) (by decide)).trans r5, (hk21 6 (by decide) (by decide)).trans r6, (hk21 7 (by decide) (by decide)).trans r7, (hk21 8 (by decide) (by decide)).trans r8, ⟨_, (hk21 9 (by decide) (by decide)).trans r9⟩, (hk21 10 (by decide) (by decide)).trans r10, (hk21 11 (by decide) (by decide)).trans r11, (hk21 12 (by decide) (by decide)).trans r12, (hk21 13 (by decide) (by decide)).trans r13, r14, (hk21 15 (by decide) (by decide)).trans r15, (hk21 23 (by decide) (by decide)).trans r23, (hk21 24 (by decide) (by decide)).trans r24, (hk21 25 (by decide) (by decide)).trans r25, (hk21 26 (by decide) (by decide)).trans r26, (hk21 27 (by decide) (by decide)).trans r27, (hk21 28 (by decide) (by decide)).trans r28, (hk21 29 (by decide) (by decide)).trans r29, (hk21 30 (by decide) (by decide)).trans r30, (hk21 31 (by decide) (by decide)).trans r31, (hk21 32 (by decide) (by decide)).trans r32, (hk21 33 (by decide) (by decide)).trans r33, (hk21 34 (by decide) (by decide)).trans r34⟩, by rw [← hE9]; exact hq6, hth6, ho19⟩, mB_of ht hP⟩, hS.F ht⟩) hS.2.2 d_D_build_69
      · exact absurd c1 (by decide)
set_option maxHeartbeats 4000000 in
set_option maxRecDepth 100000 in
theorem c_D_staleX {l : Launch} {s0 : State} {dC : Nat → ClassId} {dI : Nat → Nat → Nat} {dA : Nat → ClassId} (B0 : BB s0 dC dI dA) (w : fw_W) (md : Nat → Nat) (μ : MS) (β : BS) (x1 x2 : Int32) (hj : Inj37 md) (hD : RD dA md w μ) (hQ : RQ β μ) (ho : ¬ (okW x1 ∧ okK x2)) : Met l y_D_stale [.code y_D_stale b_D_stale 6 (some .boolean)] ({ frames := 1, cells := 0, slots := 0, locals := 40 }) (mP s0 dC dI w [.ref (md 36), .int x1, .int x2]) (mQi s0 dC dI (fun r w' => (∃ b9 : Bool, r = nI b9.toNat) ∧ MB dA md w w' β 1)) 0 0 (AA s0) := by
  refine mt_ofW B0 (by decide) (Nat.le_of_ble_eq_true rfl) (fun p e s m args below meth c ls hargs X hin hl hP => ?_)
  have X9 := X
  obtain ⟨hx, hb, hr, hml, hown, hg, hK, hn, hE, hlocks, hA⟩ := X9
  have hS : va_S (AA s0) s.heap s.heap [] := va_S.rf
  have hl : lv_has ls 6 [(0, .ref (md 36)), (1, .int x1), (2, .int x2)] := hl
  obtain ⟨r36, r0, r1, r2, r3, r4, r5, r6, r7, r8, ⟨u, r9⟩, r10, r11, r12, r13, r14, r15, r23, r24, r25, r26, r27, r28, r29, r30, r31, r32, r33, r34⟩ := (id hD)
  refine lv_aload_n hx hb d_D_stale_0 rfl (lv_at hl 0 rfl) ?_
  refine lv_iload_n hx hb d_D_stale_1 rfl (lv_at hl 1 rfl) ?_
  refine lv_iconst (v := (nI 0)) hx hb d_D_stale_2 (by decide) ?_
  refine lv_iconst (v := (nI 1)) hx hb d_D_stale_3 (by decide) ?_
  refine va_calli (rn_S (n := 3) (As := [.int x1, .int (nI 0), .int (nI 1)]) (rest := [.ref (md 36)]) X hP hS (c_D_in B0 w x1 (nI 0) (nI 1)) k_708 k_709 k_58 k_710 (by decide +kernel) rfl rfl ⟨Nat.le_of_ble_eq_true rfl, Nat.le_of_ble_eq_true rfl⟩ rfl hl.1 rfl (Nat.le_of_ble_eq_true rfl) d_D_stale_4 ⟨Nat.le_of_ble_eq_true rfl, Nat.le_of_ble_eq_true rfl⟩) hS (fun q _ h => h) (fun q h => h) (fun r w22 tS H locs ht hvm hw hB hz1 hk1 hS => ?_)
  have hP : fw_P (dC, dI) cls_ (AA s0) w22 H := by rw [← ht]; exact hB
  obtain ⟨e9, b1, rfl, ib1⟩ := hw
  rw [e9] at hP
  refine nu_ifeq (tgt := 24) hx hb d_D_stale_7 (by decide) (fun c0 => ?_) (fun c0 => ?_)
  · refine lv_iconst (v := (nI 0)) hx hb d_D_stale_24 (by decide) ?_
    refine va_calli (rn_V (n := 1) (As := [.int (nI false.toNat)]) (rest := []) (C := R_D) (T := F_D) (N := 36) (ci := 5) X hP hS (c_D_bad B0 w md μ false hj hD) k_711 k_713 k_38 k_58 k_714 (by decide +kernel) rfl rfl ⟨Nat.le_of_ble_eq_true rfl, Nat.le_of_ble_eq_true rfl⟩ r36 rfl rfl hl.1 rfl (Nat.le_of_ble_eq_true rfl) d_D_stale_25 ⟨Nat.le_of_ble_eq_true rfl, Nat.le_of_ble_eq_true rfl⟩) hS (fun q _ h => h) (fun q h => h) (fun r w23 tS H locs ht hvm hw hB hz1 hk1 hS => ?_)
    have hP : fw_P (dC, dI) cls_ (AA s0) w23 H := by rw [← ht]; exact hB
    obtain ⟨rfl, hR8, ho8⟩ := hw
    have hD1 : RD dA md w23 (dThr 1 μ) := hR8
    have ho24 : OutD md w w23 := OutD.tr OutD.rf ho8
    obtain ⟨r36, r0, r1, r2, r3, r4, r5, r6, r7, r8, ⟨u, r9⟩, r10, r11, r12, r13, r14, r15, r23, r24, r25, r26, r27, r28, r29, r30, r31, r32, r33, r34⟩ := (id hD1)
    refine nu_ifeq (tgt := 33) hx hb d_D_stale_28 (by decide) (fun c1 => ?_) (fun c1 => ?_)
    · exact absurd c1 (by decide)
    · refine lv_iconst (v := (nI 0)) hx hb d_D_stale_31 (by decide) ?_
      exact W.zret (v := (nI 0)) hx hb hr (by decide) (fun tS ht hW => ⟨⟨(nI 0), w23, rfl, ⟨⟨false, rfl⟩, dThr 1 μ, hD1, hQ, rfl, ho24⟩, mB_of ht hP⟩, hS.F ht⟩) hS.2.2 d_D_stale_32
  · refine lv_iload_n hx hb d_D_stale_10 rfl (lv_at hl 2 rfl) ?_
    refine lv_iconst (v := (nI 0)) hx hb d_D_stale_11 (by decide) ?_
    refine lv_bipush (v := (nI 11)) hx hb d_D_stale_12 (by decide) ?_
    refine va_calli (rn_S (n := 3) (As := [.int x2, .int (nI 0), .int (nI 11)]) (rest := [.ref (md 36)]) X hP hS (c_D_in B0 w x2 (nI 0) (nI 11)) k_708 k_709 k_58 k_710 (by decide +kernel) rfl rfl ⟨Nat.le_of_ble_eq_true rfl, Nat.le_of_ble_eq_true rfl⟩ rfl hl.1 rfl (Nat.le_of_ble_eq_true rfl) d_D_stale_14 ⟨Nat.le_of_ble_eq_true rfl, Nat.le_of_ble_eq_true rfl⟩) hS (fun q _ h => h) (fun q h => h) (fun r w25 tS H locs ht hvm hw hB hz1 hk1 hS => ?_)
    have hP : fw_P (dC, dI) cls_ (AA s0) w25 H := by rw [← ht]; exact hB
    obtain ⟨e9, b2, rfl, ib2⟩ := hw
    rw [e9] at hP
    refine nu_ifeq (tgt := 24) hx hb d_D_stale_17 (by decide) (fun c00 => ?_) (fun c00 => ?_)
    · refine lv_iconst (v := (nI 0)) hx hb d_D_stale_24 (by decide) ?_
      refine va_calli (rn_V (n := 1) (As := [.int (nI false.toNat)]) (rest := []) (C := R_D) (T := F_D) (N := 36) (ci := 5) X hP hS (c_D_bad B0 w md μ false hj hD) k_711 k_713 k_38 k_58 k_714 (by decide +kernel) rfl rfl ⟨Nat.le_of_ble_eq_true rfl, Nat.le_of_ble_eq_true rfl⟩ r36 rfl rfl hl.1 rfl (Nat.le_of_ble_eq_true rfl) d_D_stale_25 ⟨Nat.le_of_ble_eq_true rfl, Nat.le_of_ble_eq_true rfl⟩) hS (fun q _ h => h) (fun q h => h) (fun r w26 tS H locs ht hvm hw hB hz1 hk1 hS => ?_)
      have hP : fw_P (dC, dI) cls_ (AA s0) w26 H := by rw [← ht]; exact hB
      obtain ⟨rfl, hR8, ho8⟩ := hw
      have hD1 : RD dA md w26 (dThr 1 μ) := hR8
      have ho27 : OutD md w w26 := OutD.tr OutD.rf ho8
      obtain ⟨r36, r0, r1, r2, r3, r4, r5, r6, r7, r8, ⟨u, r9⟩, r10, r11, r12, r13, r14, r15, r23, r24, r25, r26, r27, r28, r29, r30, r31, r32, r33, r34⟩ := (id hD1)
      refine nu_ifeq (tgt := 33) hx hb d_D_stale_28 (by decide) (fun c1 => ?_) (fun c1 => ?_)
      · exact absurd c1 (by decide)
      · refine lv_iconst (v := (nI 0)) hx hb d_D_stale_31 (by decide) ?_
        exact W.zret (v := (nI 0)) hx hb hr (by decide) (fun tS ht hW => ⟨⟨(nI 0), w26, rfl, ⟨⟨false, rfl⟩, dThr 1 μ, hD1, hQ, rfl, ho27⟩, mB_of ht hP⟩, hS.F ht⟩) hS.2.2 d_D_stale_32
    · exact absurd ⟨(in_W x1).mp (ib1.mp c0), (in_K x2).mp (ib2.mp c00)⟩ ho
set_option maxHeartbeats 4000000 in
set_option maxRecDepth 100000 in
theorem c_D_stale {l : Launch} {s0 : State} {dC : Nat → ClassId} {dI : Nat → Nat → Nat} {dA : Nat → ClassId} (B0 : BB s0 dC dI dA) (w : fw_W) (md : Nat → Nat) (μ : MS) (β : BS) (wk k : Nat) (hj : Inj37 md) (hD : RD dA md w μ) (hQ : RQ β μ) (hp : p_ok (b_P β)) (hwk : wk < 2) (hk : k < 12) : Met l y_D_stale [.code y_D_stale b_D_stale 6 (some .boolean)] ({ frames := 5, cells := 0, slots := 0, locals := 240 }) (mP s0 dC dI w [.ref (md 36), .int (nI wk), .int (nI k)]) (mQi s0 dC dI (fun r w' => r = nI (s_ran (bSess wk k β).2).toNat ∧ MB dA md w w' β (if bFl wk k β = 0 then 0 else bFl wk k β + 1))) 0 0 (AA s0) := by
  have so3 := hQ.so3 hp hk
  have hc16 := hQ.c16
  refine mt_ofW B0 (by decide) (Nat.le_of_ble_eq_true rfl) (fun p e s m args below meth c ls hargs X hin hl hP => ?_)
  have X9 := X
  obtain ⟨hx, hb, hr, hml, hown, hg, hK, hn, hE, hlocks, hA⟩ := X9
  have hS : va_S (AA s0) s.heap s.heap [] := va_S.rf
  have hl : lv_has ls 6 [(0, .ref (md 36)), (1, .int (nI wk)), (2, .int (nI k))] := hl
  obtain ⟨r36, r0, r1, r2, r3, r4, r5, r6, r7, r8, ⟨u, r9⟩, r10, r11, r12, r13, r14, r15, r23, r24, r25, r26, r27, r28, r29, r30, r31, r32, r33, r34⟩ := (id hD)
  refine lv_aload_n hx hb d_D_stale_0 rfl (lv_at hl 0 rfl) ?_
  refine lv_iload_n hx hb d_D_stale_1 rfl (lv_at hl 1 rfl) ?_
  refine lv_iconst (v := (nI 0)) hx hb d_D_stale_2 (by decide) ?_
  refine lv_iconst (v := (nI 1)) hx hb d_D_stale_3 (by decide) ?_
  refine va_calli (rn_S (n := 3) (As := [.int (nI wk), .int (nI 0), .int (nI 1)]) (rest := [.ref (md 36)]) X hP hS (c_D_in B0 w (nI wk) (nI 0) (nI 1)) k_708 k_709 k_58 k_710 (by decide +kernel) rfl rfl ⟨Nat.le_of_ble_eq_true rfl, Nat.le_of_ble_eq_true rfl⟩ rfl hl.1 rfl (Nat.le_of_ble_eq_true rfl) d_D_stale_4 ⟨Nat.le_of_ble_eq_true rfl, Nat.le_of_ble_eq_true rfl⟩) hS (fun q _ h => h) (fun q h => h) (fun r w28 tS H locs ht hvm hw hB hz1 hk1 hS => ?_)
  have hP : fw_P (dC, dI) cls_ (AA s0) w28 H := by rw [← ht]; exact hB
  obtain ⟨e9, b1, rfl, ib1⟩ := hw
  rw [e9] at hP
  have hv_b1 : b1 = true := ib1.mpr ((in_W _).mpr ⟨wk, hwk, rfl⟩)
  subst hv_b1
  refine nu_ifeq (tgt := 24) hx hb d_D_stale_7 (by decide) (fun c0 => ?_) (fun c0 => ?_)
  · exact absurd c0 (by decide)
  · refine lv_iload_n hx hb d_D_stale_10 rfl (lv_at hl 2 rfl) ?_
    refine lv_iconst (v := (nI 0)) hx hb d_D_stale_11 (by decide) ?_
    refine lv_bipush (v := (nI 11)) hx hb d_D_stale_12 (by decide) ?_
    refine va_calli (rn_S (n := 3) (As := [.int (nI k), .int (nI 0), .int (nI 11)]) (rest := [.ref (md 36)]) X hP hS (c_D_in B0 w (nI k) (nI 0) (nI 11)) k_708 k_709 k_58 k_710 (by decide +kernel) rfl rfl ⟨Nat.le_of_ble_eq_true rfl, Nat.le_of_ble_eq_true rfl⟩ rfl hl.1 rfl (Nat.le_of_ble_eq_true rfl) d_D_stale_14 ⟨Nat.le_of_ble_eq_true rfl, Nat.le_of_ble_eq_true rfl⟩) hS (fun q _ h => h) (fun q h => h) (fun r w29 tS H locs ht hvm hw hB hz1 hk1 hS => ?_)
    have hP : fw_P (dC, dI) cls_ (AA s0) w29 H := by rw [← ht]; exact hB
    obtain ⟨e9, b2, rfl, ib2⟩ := hw
    rw [e9] at hP
    have hv_b2 : b2 = true := ib2.mpr ((in_K _).mpr ⟨k, hk, rfl⟩)
    subst hv_b2
    refine nu_ifeq (tgt := 24) hx hb d_D_stale_17 (by decide) (fun c0 => ?_) (fun c0 => ?_)
    · exact absurd c0 (by decide)
    · refine lv_iconst (v := (nI 1)) hx hb d_D_stale_20 (by decide) ?_
      refine lv_goto (tgt := 25) hx hb d_D_stale_21 (by decide) ?_
      refine va_calli (rn_V (n := 1) (As := [.int (nI true.toNat)]) (rest := []) (C := R_D) (T := F_D) (N := 36) (ci := 5) X hP hS (c_D_bad B0 w md μ true hj hD) k_711 k_713 k_38 k_58 k_714 (by decide +kernel) rfl rfl ⟨Nat.le_of_ble_eq_true rfl, Nat.le_of_ble_eq_true rfl⟩ r36 rfl rfl hl.1 rfl (Nat.le_of_ble_eq_true rfl) d_D_stale_25 ⟨Nat.le_of_ble_eq_true rfl, Nat.le_of_ble_eq_true rfl⟩) hS (fun q _ h => h) (fun q h => h) (fun r w30 tS H locs ht hvm hw hB hz1 hk1 hS => ?_)
      have hP : fw_P (dC, dI) cls_ (AA s0) w30 H := by rw [← ht]; exact hB
      obtain ⟨rfl, hR8, ho8⟩ := hw
      have hD1 : RD dA md w30 (dThr 0 μ) := hR8
      have ho31 : OutD md w w30 := OutD.tr OutD.rf ho8
      obtain ⟨r36, r0, r1, r2, r3, r4, r5, r6, r7, r8, ⟨u, r9⟩, r10, r11, r12, r13, r14, r15, r23, r24, r25, r26, r27, r28, r29, r30, r31, r32, r33, r34⟩ := (id hD1)
      refine nu_ifeq (tgt := 33) hx hb d_D_stale_28 (by decide) (fun c1 => ?_) (fun c1 => ?_)
      · refine lv_aload_n hx hb d_D_stale_33 rfl (lv_at hl 0 rfl) ?_
        have r36 : w30 (md 36) = some (.inr (5, [.ref (md 0), .ref (md 1), .ref (md 2), .ref (md 3), .ref (md 4), .ref (md 5), .ref (md 6), .ref (md 7), .ref (md 8), .ref (md 9), .ref (md 10), .ref (md 11), .ref (md 12), .ref (md 13), .ref (md 14), .ref (md 15), .int (nI (m_cached μ)), .int (nI (m_ocached μ)), .int (m_circ μ), .int (m_ocirc μ), .int (nI 0), .int (nI (m_wkr μ)), .int (nI (m_ran μ).toNat), .ref (md 23), .ref (md 24), .ref (md 25), .ref (md 26), .ref (md 27), .ref (md 28), .ref (md 29), .ref (md 30), .ref (md 31), .ref (md 32), .ref (md 33), .ref (md 34), .int (nI (m_hgt μ))])) := r36
        refine va_get (D := (dC, dI)) (ci := 5) (v := .ref (md 10)) (C := R_D) (T := F_D) (N := 36) hx hb hg in_D hown hK (hP.one r36) 0 rfl rfl 10 (by decide) (hg _ k_601) (fun _ h9 => h9) rfl d_D_stale_34 ?_
        refine lv_aload_n hx hb d_D_stale_37 rfl (lv_at hl 0 rfl) ?_
        refine va_get (D := (dC, dI)) (ci := 5) (v := .ref (md 11)) (C := R_D) (T := F_D) (N := 36) hx hb hg in_D hown hK (hP.one r36) 0 rfl rfl 11 (by decide) (hg _ k_602) (fun _ h9 => h9) rfl d_D_stale_38 ?_
        refine lv_bipush (v := (nI 24)) hx hb d_D_stale_41 (by decide) ?_
        have r10 : w30 (md 10) = some (.inl (dA 0, 24, .inl (m_trc μ))) := r10
        have r11 : w30 (md 11) = some (.inl (dA 0, 24, .inl (m_otrc μ))) := r11
        refine va_callv (rn_S (n := 3) (As := [.ref (md 10), .ref (md 11), .int (nI 24)]) (rest := []) X hP hS (c_D_keep B0 w30 (md 10) (md 11) 24 24 24 (m_trc μ) (m_otrc μ) r10 r11 (hj.ne (i := 10) (j := 11) (by decide) (by decide) (by decide)) (by omega) (by omega) (by omega) (by omega) (by omega)) k_783 k_784 k_58 k_785 (by decide +kernel) rfl rfl ⟨Nat.le_of_ble_eq_true rfl, Nat.le_of_ble_eq_true rfl⟩ rfl hl.1 rfl (Nat.le_of_ble_eq_true rfl) d_D_stale_43 ⟨Nat.le_of_ble_eq_true rfl, Nat.le_of_ble_eq_true rfl⟩) hS (fun q _ h => h) (fun q h => h) (fun w32 tS H locs ht hvm hw hB hz1 hk1 hS => ?_)
        have hP : fw_P (dC, dI) cls_ (AA s0) w32 H := by rw [← ht]; exact hB
        have hc34 : w32 (md 11) = some (.inl (dA 0, 24, .inl (fun i => if i < 24 then (m_trc μ) i else (m_otrc μ) i))) := hw.1
        have ew33 : w32 = va_up w30 (md 11) (some (.inl (dA 0, 24, .inl (fun i => if i < 24 then (m_trc μ) i else (m_otrc μ) i)))) := funext (fun z9 => (Classical.em (z9 = md 11)).elim (fun e9 => by rw [e9, va_up_self]; exact hc34) (fun e9 => by rw [va_up_ne _ _ e9]; exact hw.2 z9 e9))
        have r11 : w32 (md 11) = some (.inl (dA 0, 24, .inl (fun i => if i < 24 then (m_trc μ) i else (m_otrc μ) i))) := by rw [ew33]; exact va_up_self _ _ _
        have ho35 : OutD md w w32 := OutD.up ho31 ew33 (by decide)
        refine lv_aload_n hx hb d_D_stale_46 rfl (lv_at hl 0 rfl) ?_
        have r36 : w32 (md 36) = some (.inr (5, [.ref (md 0), .ref (md 1), .ref (md 2), .ref (md 3), .ref (md 4), .ref (md 5), .ref (md 6), .ref (md 7), .ref (md 8), .ref (md 9), .ref (md 10), .ref (md 11), .ref (md 12), .ref (md 13), .ref (md 14), .ref (md 15), .int (nI (m_cached μ)), .int (nI (m_ocached μ)), .int (m_circ μ), .int (m_ocirc μ), .int (nI 0), .int (nI (m_wkr μ)), .int (nI (m_ran μ).toNat), .ref (md 23), .ref (md 24), .ref (md 25), .ref (md 26), .ref (md 27), .ref (md 28), .ref (md 29), .ref (md 30), .ref (md 31), .ref (md 32), .ref (md 33), .ref (md 34), .int (nI (m_hgt μ))])) := by rw [ew33, va_up_ne _ _ (hj.ne (i := 36) (j := 11) (by decide) (by decide) (by decide))]; exact r36
        refine va_get (D := (dC, dI)) (ci := 5) (v := .ref (md 12)) (C := R_D) (T := F_D) (N := 36) hx hb hg in_D hown hK (hP.one r36) 0 rfl rfl 12 (by decide) (hg _ k_603) (fun _ h9 => h9) rfl d_D_stale_47 ?_
        refine lv_aload_n hx hb d_D_stale_50 rfl (lv_at hl 0 rfl) ?_
        refine va_get (D := (dC, dI)) (ci := 5) (v := .ref (md 13)) (C := R_D) (T := F_D) (N := 36) hx hb hg in_D hown hK (hP.one r36) 0 rfl rfl 13 (by decide) (hg _ k_604) (fun _ h9 => h9) rfl d_D_stale_51 ?_
        refine lv_bipush (v := (nI 16)) hx hb d_D_stale_54 (by decide) ?_
        have r12 : w32 (md 12) = some (.inl (dA 0, 17, .inl (nf (m_cch μ)))) := by rw [ew33, va_up_ne _ _ (hj.ne (i := 12) (j := 11) (by decide) (by decide) (by decide))]; exact r12
        have r13 : w32 (md 13) = some (.inl (dA 0, 17, .inl (nf (m_occh μ)))) := by rw [ew33, va_up_ne _ _ (hj.ne (i := 13) (j := 11) (by decide) (by decide) (by decide))]; exact r13
        refine va_callv (rn_S (n := 3) (As := [.ref (md 12), .ref (md 13), .int (nI 16)]) (rest := []) X hP hS (c_D_keep B0 w32 (md 12) (md 13) 16 17 17 (nf (m_cch μ)) (nf (m_occh μ)) r12 r13 (hj.ne (i := 12) (j := 13) (by decide) (by decide) (by decide)) (by omega) (by omega) (by omega) (by omega) (by omega)) k_783 k_784 k_58 k_785 (by decide +kernel) rfl rfl ⟨Nat.le_of_ble_eq_true rfl, Nat.le_of_ble_eq_true rfl⟩ rfl hl.1 rfl (Nat.le_of_ble_eq_true rfl) d_D_stale_56 ⟨Nat.le_of_ble_eq_true rfl, Nat.le_of_ble_eq_true rfl⟩) hS (fun q _ h => h) (fun q h => h) (fun w36 tS H locs ht hvm hw hB hz1 hk1 hS => ?_)
        have hP : fw_P (dC, dI) cls_ (AA s0) w36 H := by rw [← ht]; exact hB
        have hc38 : w36 (md 13) = some (.inl (dA 0, 17, .inl (nf (fun i => if i < 16 then (m_cch μ) i else (m_occh μ) i)))) := hw.1.trans (congrArg (fun q9 => (some (Sum.inl (dA 0, 17, Sum.inl q9)) : Option va_E)) (nf_if 16 (m_cch μ) (m_occh μ)))
        have ew37 : w36 = va_up w32 (md 13) (some (.inl (dA 0, 17, .inl (nf (fun i => if i < 16 then (m_cch μ) i else (m_occh μ) i))))) := funext (fun z9 => (Classical.em (z9 = md 13)).elim (fun e9 => by rw [e9, va_up_self]; exact hc38) (fun e9 => by rw [va_up_ne _ _ e9]; exact hw.2 z9 e9))
        have r13 : w36 (md 13) = some (.inl (dA 0, 17, .inl (nf (fun i => if i < 16 then (m_cch μ) i else (m_occh μ) i)))) := by rw [ew37]; exact va_up_self _ _ _
        have ho39 : OutD md w w36 := OutD.up ho35 ew37 (by decide)
        refine lv_aload_n hx hb d_D_stale_59 rfl (lv_at hl 0 rfl) ?_
        have r36 : w36 (md 36) = some (.inr (5, [.ref (md 0), .ref (md 1), .ref (md 2), .ref (md 3), .ref (md 4), .ref (md 5), .ref (md 6), .ref (md 7), .ref (md 8), .ref (md 9), .ref (md 10), .ref (md 11), .ref (md 12), .ref (md 13), .ref (md 14), .ref (md 15), .int (nI (m_cached μ)), .int (nI (m_ocached μ)), .int (m_circ μ), .int (m_ocirc μ), .int (nI 0), .int (nI (m_wkr μ)), .int (nI (m_ran μ).toNat), .ref (md 23), .ref (md 24), .ref (md 25), .ref (md 26), .ref (md 27), .ref (md 28), .ref (md 29), .ref (md 30), .ref (md 31), .ref (md 32), .ref (md 33), .ref (md 34), .int (nI (m_hgt μ))])) := by rw [ew37, va_up_ne _ _ (hj.ne (i := 36) (j := 13) (by decide) (by decide) (by decide))]; exact r36
        refine va_get (D := (dC, dI)) (ci := 5) (v := .ref (md 14)) (C := R_D) (T := F_D) (N := 36) hx hb hg in_D hown hK (hP.one r36) 0 rfl rfl 14 (by decide) (hg _ k_605) (fun _ h9 => h9) rfl d_D_stale_60 ?_
        refine lv_aload_n hx hb d_D_stale_63 rfl (lv_at hl 0 rfl) ?_
        refine va_get (D := (dC, dI)) (ci := 5) (v := .ref (md 15)) (C := R_D) (T := F_D) (N := 36) hx hb hg in_D hown hK (hP.one r36) 0 rfl rfl 15 (by decide) (hg _ k_606) (fun _ h9 => h9) rfl d_D_stale_64 ?_
        refine lv_bipush (v := (nI 7)) hx hb d_D_stale_67 (by decide) ?_
        have r14 : w36 (md 14) = some (.inl (dA 0, 7, .inl (m_cnt μ))) := by rw [ew37, va_up_ne _ _ (hj.ne (i := 14) (j := 13) (by decide) (by decide) (by decide)), ew33, va_up_ne _ _ (hj.ne (i := 14) (j := 11) (by decide) (by decide) (by decide))]; exact r14
        have r15 : w36 (md 15) = some (.inl (dA 0, 7, .inl (m_ocnt μ))) := by rw [ew37, va_up_ne _ _ (hj.ne (i := 15) (j := 13) (by decide) (by decide) (by decide)), ew33, va_up_ne _ _ (hj.ne (i := 15) (j := 11) (by decide) (by decide) (by decide))]; exact r15
        refine va_callv (rn_S (n := 3) (As := [.ref (md 14), .ref (md 15), .int (nI 7)]) (rest := []) X hP hS (c_D_keep B0 w36 (md 14) (md 15) 7 7 7 (m_cnt μ) (m_ocnt μ) r14 r15 (hj.ne (i := 14) (j := 15) (by decide) (by decide) (by decide)) (by omega) (by omega) (by omega) (by omega) (by omega)) k_783 k_784 k_58 k_785 (by decide +kernel) rfl rfl ⟨Nat.le_of_ble_eq_true rfl, Nat.le_of_ble_eq_true rfl⟩ rfl hl.1 rfl (Nat.le_of_ble_eq_true rfl) d_D_stale_69 ⟨Nat.le_of_ble_eq_true rfl, Nat.le_of_ble_eq_true rfl⟩) hS (fun q _ h => h) (fun q h => h) (fun w40 tS H locs ht hvm hw hB hz1 hk1 hS => ?_)
        have hP : fw_P (dC, dI) cls_ (AA s0) w40 H := by rw [← ht]; exact hB
        have hc42 : w40 (md 15) = some (.inl (dA 0, 7, .inl (fun i => if i < 7 then (m_cnt μ) i else (m_ocnt μ) i))) := hw.1
        have ew41 : w40 = va_up w36 (md 15) (some (.inl (dA 0, 7, .inl (fun i => if i < 7 then (m_cnt μ) i else (m_ocnt μ) i)))) := funext (fun z9 => (Classical.em (z9 = md 15)).elim (fun e9 => by rw [e9, va_up_self]; exact hc42) (fun e9 => by rw [va_up_ne _ _ e9]; exact hw.2 z9 e9))
        have r15 : w40 (md 15) = some (.inl (dA 0, 7, .inl (fun i => if i < 7 then (m_cnt μ) i else (m_ocnt μ) i))) := by rw [ew41]; exact va_up_self _ _ _
        have ho43 : OutD md w w40 := OutD.up ho39 ew41 (by decide)
        refine lv_aload_n hx hb d_D_stale_72 rfl (lv_at hl 0 rfl) ?_
        refine lv_aload_n hx hb d_D_stale_73 rfl (lv_at hl 0 rfl) ?_
        have r36 : w40 (md 36) = some (.inr (5, [.ref (md 0), .ref (md 1), .ref (md 2), .ref (md 3), .ref (md 4), .ref (md 5), .ref (md 6), .ref (md 7), .ref (md 8), .ref (md 9), .ref (md 10), .ref (md 11), .ref (md 12), .ref (md 13), .ref (md 14), .ref (md 15), .int (nI (m_cached μ)), .int (nI (m_ocached μ)), .int (m_circ μ), .int (m_ocirc μ), .int (nI 0), .int (nI (m_wkr μ)), .int (nI (m_ran μ).toNat), .ref (md 23), .ref (md 24), .ref (md 25), .ref (md 26), .ref (md 27), .ref (md 28), .ref (md 29), .ref (md 30), .ref (md 31), .ref (md 32), .ref (md 33), .ref (md 34), .int (nI (m_hgt μ))])) := by rw [ew41, va_up_ne _ _ (hj.ne (i := 36) (j := 15) (by decide) (by decide) (by decide))]; exact r36
        refine va_get (D := (dC, dI)) (ci := 5) (v := .int (nI (m_cached μ))) (C := R_D) (T := F_D) (N := 36) hx hb hg in_D hown hK (hP.one r36) 0 rfl rfl 16 (by decide) (hg _ k_607) (fun _ h9 => h9) rfl d_D_stale_74 ?_
        refine fw_put (D := (dC, dI)) (ci := 5) (v := .int (nI (m_cached μ))) (ty := .int) (C := R_D) (T := F_D) (N := 36) hx hb hg in_D ft_D ft_D_ok n_D hown hK hP hS r36 rfl 17 (by decide) (hg _ k_608) (fun _ h9 => h9) rfl (by decide +kernel) rfl rfl (Nat.le_of_ble_eq_true rfl) d_D_stale_77 (fun w44 H locs ew45 hP hS => ?_)
        have r36 : w44 (md 36) = some (.inr (5, [.ref (md 0), .ref (md 1), .ref (md 2), .ref (md 3), .ref (md 4), .ref (md 5), .ref (md 6), .ref (md 7), .ref (md 8), .ref (md 9), .ref (md 10), .ref (md 11), .ref (md 12), .ref (md 13), .ref (md 14), .ref (md 15), .int (nI (m_cached μ)), .int (nI (m_cached μ)), .int (m_circ μ), .int (m_ocirc μ), .int (nI 0), .int (nI (m_wkr μ)), .int (nI (m_ran μ).toNat), .ref (md 23), .ref (md 24), .ref (md 25), .ref (md 26), .ref (md 27), .ref (md 28), .ref (md 29), .ref (md 30), .ref (md 31), .ref (md 32), .ref (md 33), .ref (md 34), .int (nI (m_hgt μ))])) := by rw [ew45]; exact va_up_self _ _ _
        have ho46 : OutD md w w44 := OutD.up ho43 ew45 (by decide)
        refine lv_aload_n hx hb d_D_stale_80 rfl (lv_at hl 0 rfl) ?_
        refine lv_aload_n hx hb d_D_stale_81 rfl (lv_at hl 0 rfl) ?_
        refine va_get (D := (dC, dI)) (ci := 5) (v := .int (m_circ μ)) (C := R_D) (T := F_D) (N := 36) hx hb hg in_D hown hK (hP.one r36) 0 rfl rfl 18 (by decide) (hg _ k_609) (fun _ h9 => h9) rfl d_D_stale_82 ?_
        refine fw_put (D := (dC, dI)) (ci := 5) (v := .int (m_circ μ)) (ty := .int) (C := R_D) (T := F_D) (N := 36) hx hb hg in_D ft_D ft_D_ok n_D hown hK hP hS r36 rfl 19 (by decide) (hg _ k_610) (fun _ h9 => h9) rfl (by decide +kernel) rfl rfl (Nat.le_of_ble_eq_true rfl) d_D_stale_85 (fun w47 H locs ew48 hP hS => ?_)
        have r36 : w47 (md 36) = some (.inr (5, [.ref (md 0), .ref (md 1), .ref (md 2), .ref (md 3), .ref (md 4), .ref (md 5), .ref (md 6), .ref (md 7), .ref (md 8), .ref (md 9), .ref (md 10), .ref (md 11), .ref (md 12), .ref (md 13), .ref (md 14), .ref (md 15), .int (nI (m_cached μ)), .int (nI (m_cached μ)), .int (m_circ μ), .int (m_circ μ), .int (nI 0), .int (nI (m_wkr μ)), .int (nI (m_ran μ).toNat), .ref (md 23), .ref (md 24), .ref (md 25), .ref (md 26), .ref (md 27), .ref (md 28), .ref (md 29), .ref (md 30), .ref (md 31), .ref (md 32), .ref (md 33), .ref (md 34), .int (nI (m_hgt μ))])) := by rw [ew48]; exact va_up_self _ _ _
        have ho49 : OutD md w w47 := OutD.up ho46 ew48 (by decide)
        refine lv_aload_n hx hb d_D_stale_88 rfl (lv_at hl 0 rfl) ?_
        refine lv_iload_n hx hb d_D_stale_89 rfl (lv_at hl 1 rfl) ?_
        refine lv_iload_n hx hb d_D_stale_90 rfl (lv_at hl 2 rfl) ?_
        have hk50 : ∀ i, U37 i → i ∉ [11, 13, 15, 36] → w47 (md i) = w30 (md i) := fun i hi hn => by rw [ew48, va_up_ne _ _ (hj.ne hi (j := 36) (by decide) (fun e9 => hn (by rw [e9]; decide))), ew45, va_up_ne _ _ (hj.ne hi (j := 36) (by decide) (fun e9 => hn (by rw [e9]; decide))), ew41, va_up_ne _ _ (hj.ne hi (j := 15) (by decide) (fun e9 => hn (by rw [e9]; decide))), ew37, va_up_ne _ _ (hj.ne hi (j := 13) (by decide) (fun e9 => hn (by rw [e9]; decide))), ew33, va_up_ne _ _ (hj.ne hi (j := 11) (by decide) (fun e9 => hn (by rw [e9]; decide)))]
        have hk51 : ∀ i, U37 i → i ∉ [13, 15, 36] → w47 (md i) = w32 (md i) := fun i hi hn => by rw [ew48, va_up_ne _ _ (hj.ne hi (j := 36) (by decide) (fun e9 => hn (by rw [e9]; decide))), ew45, va_up_ne _ _ (hj.ne hi (j := 36) (by decide) (fun e9 => hn (by rw [e9]; decide))), ew41, va_up_ne _ _ (hj.ne hi (j := 15) (by decide) (fun e9 => hn (by rw [e9]; decide))), ew37, va_up_ne _ _ (hj.ne hi (j := 13) (by decide) (fun e9 => hn (by rw [e9]; decide)))]
        have hk52 : ∀ i, U37 i → i ∉ [15, 36] → w47 (md i) = w36 (md i) := fun i hi hn => by rw [ew48, va_up_ne _ _ (hj.ne hi (j := 36) (by decide) (fun e9 => hn (by rw [e9]; decide))), ew45, va_up_ne _ _ (hj.ne hi (j := 36) (by decide) (fun e9 => hn (by rw [e9]; decide))), ew41, va_up_ne _ _ (hj.ne hi (j := 15) (by decide) (fun e9 => hn (by rw [e9]; decide)))]
        have hk53 : ∀ i, U37 i → i ∉ [36] → w47 (md i) = w40 (md i) := fun i hi hn => by rw [ew48, va_up_ne _ _ (hj.ne hi (j := 36) (by decide) (fun e9 => hn (by rw [e9]; decide))), ew45, va_up_ne _ _ (hj.ne hi (j := 36) (by decide) (fun e9 => hn (by rw [e9]; decide)))]
        have hDs : RD dA md w47 (dKeep (dThr 0 μ)) := ⟨r36, (hk50 0 (by decide) (by decide)).trans r0, (hk50 1 (by decide) (by decide)).trans r1, (hk50 2 (by decide) (by decide)).trans r2, (hk50 3 (by decide) (by decide)).trans r3, (hk50 4 (by decide) (by decide)).trans r4, (hk50 5 (by decide) (by decide)).trans r5, (hk50 6 (by decide) (by decide)).trans r6, (hk50 7 (by decide) (by decide)).trans r7, (hk50 8 (by decide) (by decide)).trans r8, ⟨_, (hk50 9 (by decide) (by decide)).trans r9⟩, (hk50 10 (by decide) (by decide)).trans r10, (hk51 11 (by decide) (by decide)).trans r11, (hk51 12 (by decide) (by decide)).trans r12, (hk52 13 (by decide) (by decide)).trans r13, (hk52 14 (by decide) (by decide)).trans r14, (hk53 15 (by decide) (by decide)).trans r15, (hk50 23 (by decide) (by decide)).trans r23, (hk50 24 (by decide) (by decide)).trans r24, (hk50 25 (by decide) (by decide)).trans r25, (hk50 26 (by decide) (by decide)).trans r26, (hk50 27 (by decide) (by decide)).trans r27, (hk50 28 (by decide) (by decide)).trans r28, (hk50 29 (by decide) (by decide)).trans r29, (hk50 30 (by decide) (by decide)).trans r30, (hk50 31 (by decide) (by decide)).trans r31, (hk50 32 (by decide) (by decide)).trans r32, (hk50 33 (by decide) (by decide)).trans r33, (hk50 34 (by decide) (by decide)).trans r34⟩
        refine va_calll (rn_V (n := 2) (As := [.int (nI wk), .int (nI k)]) (rest := []) (C := R_D) (T := F_D) (N := 36) (ci := 5) X hP hS (c_D_session B0 w47 md (dKeep (dThr 0 μ)) wk k (fun μ9 => ∃ st, ZZ (b_P β) wk k (dInit wk st (dKeep (dThr 0 μ))) (b_0 β) μ9) hj hDs hwk hk so3 (fun st hst => Rch.mono (fun _ h9 => ⟨st, h9⟩) (sess_rch (μ := dKeep (dThr 0 μ)) hp hwk hk hQ.1 hQ.2.1 hQ.2.2.1 (RQ.keep (μ := dThr 0 μ) hQ) rfl hst))) k_731 k_733 k_40 k_58 k_734 (by decide +kernel) rfl rfl ⟨Nat.le_of_ble_eq_true rfl, Nat.le_of_ble_eq_true rfl⟩ r36 rfl rfl hl.1 rfl (Nat.le_of_ble_eq_true rfl) d_D_stale_91 ⟨Nat.le_of_ble_eq_true rfl, Nat.le_of_ble_eq_true rfl⟩) hS (fun q _ h => h) (fun q h => h) (fun r w54 tS H locs ht hvm hw hB hz1 hk1 hS => ?_)
        have hP : fw_P (dC, dI) cls_ (AA s0) w54 H := by rw [← ht]; exact hB
        obtain ⟨μ6, ⟨st9, hZ6⟩, hR7, -, ho7⟩ := hw
        have ho55 : OutD md w w54 := OutD.tr ho49 ho7
        obtain ⟨r36, r0, r1, r2, r3, r4, r5, r6, r7, r8, ⟨u, r9⟩, r10, r11, r12, r13, r14, r15, r23, r24, r25, r26, r27, r28, r29, r30, r31, r32, r33, r34⟩ := (id hR7)
        refine lv_lstore_n (lv' := [(3, .long r), (0, .ref (md 36)), (1, .int (nI wk)), (2, .int (nI k))]) hx hb d_D_stale_94 rfl hl (by decide) rfl (fun ls hl => ?_)
        refine lv_aload_n hx hb d_D_stale_95 rfl (lv_at hl 1 rfl) ?_
        refine va_get (D := (dC, dI)) (ci := 5) (v := .ref (md 11)) (C := R_D) (T := F_D) (N := 36) hx hb hg in_D hown hK (hP.one r36) 0 rfl rfl 11 (by decide) (hg _ k_602) (fun _ h9 => h9) rfl d_D_stale_96 ?_
        refine lv_aload_n hx hb d_D_stale_99 rfl (lv_at hl 1 rfl) ?_
        refine va_get (D := (dC, dI)) (ci := 5) (v := .ref (md 10)) (C := R_D) (T := F_D) (N := 36) hx hb hg in_D hown hK (hP.one r36) 0 rfl rfl 10 (by decide) (hg _ k_601) (fun _ h9 => h9) rfl d_D_stale_100 ?_
        refine lv_bipush (v := (nI 24)) hx hb d_D_stale_103 (by decide) ?_
        refine va_callv (rn_S (n := 3) (As := [.ref (md 11), .ref (md 10), .int (nI 24)]) (rest := []) X hP hS (c_D_keep B0 w54 (md 11) (md 10) 24 24 24 (m_otrc (dClose μ6)) (m_trc (dClose μ6)) r11 r10 (hj.ne (i := 11) (j := 10) (by decide) (by decide) (by decide)) (by omega) (by omega) (by omega) (by omega) (by omega)) k_783 k_784 k_58 k_785 (by decide +kernel) rfl rfl ⟨Nat.le_of_ble_eq_true rfl, Nat.le_of_ble_eq_true rfl⟩ rfl hl.1 rfl (Nat.le_of_ble_eq_true rfl) d_D_stale_105 ⟨Nat.le_of_ble_eq_true rfl, Nat.le_of_ble_eq_true rfl⟩) hS (fun q _ h => h) (fun q h => h) (fun w56 tS H locs ht hvm hw hB hz1 hk1 hS => ?_)
        have hP : fw_P (dC, dI) cls_ (AA s0) w56 H := by rw [← ht]; exact hB
        have hc58 : w56 (md 10) = some (.inl (dA 0, 24, .inl (fun i => if i < 24 then (m_otrc (dClose μ6)) i else (m_trc (dClose μ6)) i))) := hw.1
        have ew57 : w56 = va_up w54 (md 10) (some (.inl (dA 0, 24, .inl (fun i => if i < 24 then (m_otrc (dClose μ6)) i else (m_trc (dClose μ6)) i)))) := funext (fun z9 => (Classical.em (z9 = md 10)).elim (fun e9 => by rw [e9, va_up_self]; exact hc58) (fun e9 => by rw [va_up_ne _ _ e9]; exact hw.2 z9 e9))
        have r10 : w56 (md 10) = some (.inl (dA 0, 24, .inl (fun i => if i < 24 then (m_otrc (dClose μ6)) i else (m_trc (dClose μ6)) i))) := by rw [ew57]; exact va_up_self _ _ _
        have ho59 : OutD md w w56 := OutD.up ho55 ew57 (by decide)
        refine lv_aload_n hx hb d_D_stale_108 rfl (lv_at hl 1 rfl) ?_
        have r36 : w56 (md 36) = some (.inr (5, [.ref (md 0), .ref (md 1), .ref (md 2), .ref (md 3), .ref (md 4), .ref (md 5), .ref (md 6), .ref (md 7), .ref (md 8), .ref (md 9), .ref (md 10), .ref (md 11), .ref (md 12), .ref (md 13), .ref (md 14), .ref (md 15), .int (nI (m_cached (dClose μ6))), .int (nI (m_ocached (dClose μ6))), .int (m_circ (dClose μ6)), .int (m_ocirc (dClose μ6)), .int (nI (m_thr (dClose μ6))), .int (nI (m_wkr (dClose μ6))), .int (nI (m_ran (dClose μ6)).toNat), .ref (md 23), .ref (md 24), .ref (md 25), .ref (md 26), .ref (md 27), .ref (md 28), .ref (md 29), .ref (md 30), .ref (md 31), .ref (md 32), .ref (md 33), .ref (md 34), .int (nI (m_hgt (dClose μ6)))])) := by rw [ew57, va_up_ne _ _ (hj.ne (i := 36) (j := 10) (by decide) (by decide) (by decide))]; exact r36
        refine va_get (D := (dC, dI)) (ci := 5) (v := .ref (md 13)) (C := R_D) (T := F_D) (N := 36) hx hb hg in_D hown hK (hP.one r36) 0 rfl rfl 13 (by decide) (hg _ k_604) (fun _ h9 => h9) rfl d_D_stale_109 ?_
        refine lv_aload_n hx hb d_D_stale_112 rfl (lv_at hl 1 rfl) ?_
        refine va_get (D := (dC, dI)) (ci := 5) (v := .ref (md 12)) (C := R_D) (T := F_D) (N := 36) hx hb hg in_D hown hK (hP.one r36) 0 rfl rfl 12 (by decide) (hg _ k_603) (fun _ h9 => h9) rfl d_D_stale_113 ?_
        refine lv_bipush (v := (nI 16)) hx hb d_D_stale_116 (by decide) ?_
        have r13 : w56 (md 13) = some (.inl (dA 0, 17, .inl (nf (m_occh (dClose μ6))))) := by rw [ew57, va_up_ne _ _ (hj.ne (i := 13) (j := 10) (by decide) (by decide) (by decide))]; exact r13
        have r12 : w56 (md 12) = some (.inl (dA 0, 17, .inl (nf (m_cch (dClose μ6))))) := by rw [ew57, va_up_ne _ _ (hj.ne (i := 12) (j := 10) (by decide) (by decide) (by decide))]; exact r12
        refine va_callv (rn_S (n := 3) (As := [.ref (md 13), .ref (md 12), .int (nI 16)]) (rest := []) X hP hS (c_D_keep B0 w56 (md 13) (md 12) 16 17 17 (nf (m_occh (dClose μ6))) (nf (m_cch (dClose μ6))) r13 r12 (hj.ne (i := 13) (j := 12) (by decide) (by decide) (by decide)) (by omega) (by omega) (by omega) (by omega) (by omega)) k_783 k_784 k_58 k_785 (by decide +kernel) rfl rfl ⟨Nat.le_of_ble_eq_true rfl, Nat.le_of_ble_eq_true rfl⟩ rfl hl.1 rfl (Nat.le_of_ble_eq_true rfl) d_D_stale_118 ⟨Nat.le_of_ble_eq_true rfl, Nat.le_of_ble_eq_true rfl⟩) hS (fun q _ h => h) (fun q h => h) (fun w60 tS H locs ht hvm hw hB hz1 hk1 hS => ?_)
        have hP : fw_P (dC, dI) cls_ (AA s0) w60 H := by rw [← ht]; exact hB
        have hc62 : w60 (md 12) = some (.inl (dA 0, 17, .inl (nf (fun i => if i < 16 then (m_occh (dClose μ6)) i else (m_cch (dClose μ6)) i)))) := hw.1.trans (congrArg (fun q9 => (some (Sum.inl (dA 0, 17, Sum.inl q9)) : Option va_E)) (nf_if 16 (m_occh (dClose μ6)) (m_cch (dClose μ6))))
        have ew61 : w60 = va_up w56 (md 12) (some (.inl (dA 0, 17, .inl (nf (fun i => if i < 16 then (m_occh (dClose μ6)) i else (m_cch (dClose μ6)) i))))) := funext (fun z9 => (Classical.em (z9 = md 12)).elim (fun e9 => by rw [e9, va_up_self]; exact hc62) (fun e9 => by rw [va_up_ne _ _ e9]; exact hw.2 z9 e9))
        have r12 : w60 (md 12) = some (.inl (dA 0, 17, .inl (nf (fun i => if i < 16 then (m_occh (dClose μ6)) i else (m_cch (dClose μ6)) i)))) := by rw [ew61]; exact va_up_self _ _ _
        have ho63 : OutD md w w60 := OutD.up ho59 ew61 (by decide)
        refine lv_aload_n hx hb d_D_stale_121 rfl (lv_at hl 1 rfl) ?_
        have r36 : w60 (md 36) = some (.inr (5, [.ref (md 0), .ref (md 1), .ref (md 2), .ref (md 3), .ref (md 4), .ref (md 5), .ref (md 6), .ref (md 7), .ref (md 8), .ref (md 9), .ref (md 10), .ref (md 11), .ref (md 12), .ref (md 13), .ref (md 14), .ref (md 15), .int (nI (m_cached (dClose μ6))), .int (nI (m_ocached (dClose μ6))), .int (m_circ (dClose μ6)), .int (m_ocirc (dClose μ6)), .int (nI (m_thr (dClose μ6))), .int (nI (m_wkr (dClose μ6))), .int (nI (m_ran (dClose μ6)).toNat), .ref (md 23), .ref (md 24), .ref (md 25), .ref (md 26), .ref (md 27), .ref (md 28), .ref (md 29), .ref (md 30), .ref (md 31), .ref (md 32), .ref (md 33), .ref (md 34), .int (nI (m_hgt (dClose μ6)))])) := by rw [ew61, va_up_ne _ _ (hj.ne (i := 36) (j := 12) (by decide) (by decide) (by decide))]; exact r36
        refine va_get (D := (dC, dI)) (ci := 5) (v := .ref (md 15)) (C := R_D) (T := F_D) (N := 36) hx hb hg in_D hown hK (hP.one r36) 0 rfl rfl 15 (by decide) (hg _ k_606) (fun _ h9 => h9) rfl d_D_stale_122 ?_
        refine lv_aload_n hx hb d_D_stale_125 rfl (lv_at hl 1 rfl) ?_
        refine va_get (D := (dC, dI)) (ci := 5) (v := .ref (md 14)) (C := R_D) (T := F_D) (N := 36) hx hb hg in_D hown hK (hP.one r36) 0 rfl rfl 14 (by decide) (hg _ k_605) (fun _ h9 => h9) rfl d_D_stale_126 ?_
        refine lv_bipush (v := (nI 7)) hx hb d_D_stale_129 (by decide) ?_
        have r15 : w60 (md 15) = some (.inl (dA 0, 7, .inl (m_ocnt (dClose μ6)))) := by rw [ew61, va_up_ne _ _ (hj.ne (i := 15) (j := 12) (by decide) (by decide) (by decide)), ew57, va_up_ne _ _ (hj.ne (i := 15) (j := 10) (by decide) (by decide) (by decide))]; exact r15
        have r14 : w60 (md 14) = some (.inl (dA 0, 7, .inl (m_cnt (dClose μ6)))) := by rw [ew61, va_up_ne _ _ (hj.ne (i := 14) (j := 12) (by decide) (by decide) (by decide)), ew57, va_up_ne _ _ (hj.ne (i := 14) (j := 10) (by decide) (by decide) (by decide))]; exact r14
        refine va_callv (rn_S (n := 3) (As := [.ref (md 15), .ref (md 14), .int (nI 7)]) (rest := []) X hP hS (c_D_keep B0 w60 (md 15) (md 14) 7 7 7 (m_ocnt (dClose μ6)) (m_cnt (dClose μ6)) r15 r14 (hj.ne (i := 15) (j := 14) (by decide) (by decide) (by decide)) (by omega) (by omega) (by omega) (by omega) (by omega)) k_783 k_784 k_58 k_785 (by decide +kernel) rfl rfl ⟨Nat.le_of_ble_eq_true rfl, Nat.le_of_ble_eq_true rfl⟩ rfl hl.1 rfl (Nat.le_of_ble_eq_true rfl) d_D_stale_131 ⟨Nat.le_of_ble_eq_true rfl, Nat.le_of_ble_eq_true rfl⟩) hS (fun q _ h => h) (fun q h => h) (fun w64 tS H locs ht hvm hw hB hz1 hk1 hS => ?_)
        have hP : fw_P (dC, dI) cls_ (AA s0) w64 H := by rw [← ht]; exact hB
        have hc66 : w64 (md 14) = some (.inl (dA 0, 7, .inl (fun i => if i < 7 then (m_ocnt (dClose μ6)) i else (m_cnt (dClose μ6)) i))) := hw.1
        have ew65 : w64 = va_up w60 (md 14) (some (.inl (dA 0, 7, .inl (fun i => if i < 7 then (m_ocnt (dClose μ6)) i else (m_cnt (dClose μ6)) i)))) := funext (fun z9 => (Classical.em (z9 = md 14)).elim (fun e9 => by rw [e9, va_up_self]; exact hc66) (fun e9 => by rw [va_up_ne _ _ e9]; exact hw.2 z9 e9))
        have r14 : w64 (md 14) = some (.inl (dA 0, 7, .inl (fun i => if i < 7 then (m_ocnt (dClose μ6)) i else (m_cnt (dClose μ6)) i))) := by rw [ew65]; exact va_up_self _ _ _
        have ho67 : OutD md w w64 := OutD.up ho63 ew65 (by decide)
        refine lv_aload_n hx hb d_D_stale_134 rfl (lv_at hl 1 rfl) ?_
        refine lv_aload_n hx hb d_D_stale_135 rfl (lv_at hl 1 rfl) ?_
        have r36 : w64 (md 36) = some (.inr (5, [.ref (md 0), .ref (md 1), .ref (md 2), .ref (md 3), .ref (md 4), .ref (md 5), .ref (md 6), .ref (md 7), .ref (md 8), .ref (md 9), .ref (md 10), .ref (md 11), .ref (md 12), .ref (md 13), .ref (md 14), .ref (md 15), .int (nI (m_cached (dClose μ6))), .int (nI (m_ocached (dClose μ6))), .int (m_circ (dClose μ6)), .int (m_ocirc (dClose μ6)), .int (nI (m_thr (dClose μ6))), .int (nI (m_wkr (dClose μ6))), .int (nI (m_ran (dClose μ6)).toNat), .ref (md 23), .ref (md 24), .ref (md 25), .ref (md 26), .ref (md 27), .ref (md 28), .ref (md 29), .ref (md 30), .ref (md 31), .ref (md 32), .ref (md 33), .ref (md 34), .int (nI (m_hgt (dClose μ6)))])) := by rw [ew65, va_up_ne _ _ (hj.ne (i := 36) (j := 14) (by decide) (by decide) (by decide))]; exact r36
        refine va_get (D := (dC, dI)) (ci := 5) (v := .int (nI (m_ocached (dClose μ6)))) (C := R_D) (T := F_D) (N := 36) hx hb hg in_D hown hK (hP.one r36) 0 rfl rfl 17 (by decide) (hg _ k_608) (fun _ h9 => h9) rfl d_D_stale_136 ?_
        refine fw_put (D := (dC, dI)) (ci := 5) (v := .int (nI (m_ocached (dClose μ6)))) (ty := .int) (C := R_D) (T := F_D) (N := 36) hx hb hg in_D ft_D ft_D_ok n_D hown hK hP hS r36 rfl 16 (by decide) (hg _ k_607) (fun _ h9 => h9) rfl (by decide +kernel) rfl rfl (Nat.le_of_ble_eq_true rfl) d_D_stale_139 (fun w68 H locs ew69 hP hS => ?_)
        have r36 : w68 (md 36) = some (.inr (5, [.ref (md 0), .ref (md 1), .ref (md 2), .ref (md 3), .ref (md 4), .ref (md 5), .ref (md 6), .ref (md 7), .ref (md 8), .ref (md 9), .ref (md 10), .ref (md 11), .ref (md 12), .ref (md 13), .ref (md 14), .ref (md 15), .int (nI (m_ocached (dClose μ6))), .int (nI (m_ocached (dClose μ6))), .int (m_circ (dClose μ6)), .int (m_ocirc (dClose μ6)), .int (nI (m_thr (dClose μ6))), .int (nI (m_wkr (dClose μ6))), .int (nI (m_ran (dClose μ6)).toNat), .ref (md 23), .ref (md 24), .ref (md 25), .ref (md 26), .ref (md 27), .ref (md 28), .ref (md 29), .ref (md 30), .ref (md 31), .ref (md 32), .ref (md 33), .ref (md 34), .int (nI (m_hgt (dClose μ6)))])) := by rw [ew69]; exact va_up_self _ _ _
        have ho70 : OutD md w w68 := OutD.up ho67 ew69 (by decide)
        refine lv_aload_n hx hb d_D_stale_142 rfl (lv_at hl 1 rfl) ?_
        refine lv_aload_n hx hb d_D_stale_143 rfl (lv_at hl 1 rfl) ?_
        refine va_get (D := (dC, dI)) (ci := 5) (v := .int (m_ocirc (dClose μ6))) (C := R_D) (T := F_D) (N := 36) hx hb hg in_D hown hK (hP.one r36) 0 rfl rfl 19 (by decide) (hg _ k_610) (fun _ h9 => h9) rfl d_D_stale_144 ?_
        refine fw_put (D := (dC, dI)) (ci := 5) (v := .int (m_ocirc (dClose μ6))) (ty := .int) (C := R_D) (T := F_D) (N := 36) hx hb hg in_D ft_D ft_D_ok n_D hown hK hP hS r36 rfl 18 (by decide) (hg _ k_609) (fun _ h9 => h9) rfl (by decide +kernel) rfl rfl (Nat.le_of_ble_eq_true rfl) d_D_stale_147 (fun w71 H locs ew72 hP hS => ?_)
        have r36 : w71 (md 36) = some (.inr (5, [.ref (md 0), .ref (md 1), .ref (md 2), .ref (md 3), .ref (md 4), .ref (md 5), .ref (md 6), .ref (md 7), .ref (md 8), .ref (md 9), .ref (md 10), .ref (md 11), .ref (md 12), .ref (md 13), .ref (md 14), .ref (md 15), .int (nI (m_ocached (dClose μ6))), .int (nI (m_ocached (dClose μ6))), .int (m_ocirc (dClose μ6)), .int (m_ocirc (dClose μ6)), .int (nI (m_thr (dClose μ6))), .int (nI (m_wkr (dClose μ6))), .int (nI (m_ran (dClose μ6)).toNat), .ref (md 23), .ref (md 24), .ref (md 25), .ref (md 26), .ref (md 27), .ref (md 28), .ref (md 29), .ref (md 30), .ref (md 31), .ref (md 32), .ref (md 33), .ref (md 34), .int (nI (m_hgt (dClose μ6)))])) := by rw [ew72]; exact va_up_self _ _ _
        have ho73 : OutD md w w71 := OutD.up ho70 ew72 (by decide)
        refine lv_aload_n hx hb d_D_stale_150 rfl (lv_at hl 1 rfl) ?_
        refine lv_iconst (v := (nI 0)) hx hb d_D_stale_151 (by decide) ?_
        refine fw_put (D := (dC, dI)) (ci := 5) (v := .int (nI 0)) (ty := .int) (C := R_D) (T := F_D) (N := 36) hx hb hg in_D ft_D ft_D_ok n_D hown hK hP hS r36 rfl 17 (by decide) (hg _ k_608) (fun _ h9 => h9) rfl (by decide +kernel) rfl rfl (Nat.le_of_ble_eq_true rfl) d_D_stale_152 (fun w74 H locs ew75 hP hS => ?_)
        have r36 : w74 (md 36) = some (.inr (5, [.ref (md 0), .ref (md 1), .ref (md 2), .ref (md 3), .ref (md 4), .ref (md 5), .ref (md 6), .ref (md 7), .ref (md 8), .ref (md 9), .ref (md 10), .ref (md 11), .ref (md 12), .ref (md 13), .ref (md 14), .ref (md 15), .int (nI (m_ocached (dClose μ6))), .int (nI 0), .int (m_ocirc (dClose μ6)), .int (m_ocirc (dClose μ6)), .int (nI (m_thr (dClose μ6))), .int (nI (m_wkr (dClose μ6))), .int (nI (m_ran (dClose μ6)).toNat), .ref (md 23), .ref (md 24), .ref (md 25), .ref (md 26), .ref (md 27), .ref (md 28), .ref (md 29), .ref (md 30), .ref (md 31), .ref (md 32), .ref (md 33), .ref (md 34), .int (nI (m_hgt (dClose μ6)))])) := by rw [ew75]; exact va_up_self _ _ _
        have ho76 : OutD md w w74 := OutD.up ho73 ew75 (by decide)
        refine lv_iconst (v := (nI 0)) hx hb d_D_stale_155 (by decide) ?_
        refine lv_istore (lv' := [(5, .int (nI 0)), (3, .long r), (0, .ref (md 36)), (1, .int (nI wk)), (2, .int (nI k))]) hx hb d_D_stale_156 hl (by decide) rfl (fun ls hl => ?_)
        obtain ⟨μ7, hμ7⟩ : ∃ μ7 : MS, μ7 = (((m_sort (dClose μ6)), (m_rule (dClose μ6)), m_parts (dClose μ6), m_inp (dClose μ6)), ((m_size (dClose μ6)), (m_keys (dClose μ6)), (m_own (dClose μ6)), m_got (dClose μ6), m_came (dClose μ6)), ((fun i => if i < 24 then (m_otrc (dClose μ6)) i else (m_trc (dClose μ6)) i), (fun i => if i < 16 then (m_occh (dClose μ6)) i else (m_cch (dClose μ6)) i), m_ocached (dClose μ6), (fun i => if i < 7 then (m_ocnt (dClose μ6)) i else (m_cnt (dClose μ6)) i), (m_ocirc (dClose μ6))), (m_otrc (dClose μ6), (m_occh (dClose μ6)), 0, m_ocnt (dClose μ6), (m_ocirc (dClose μ6))), (m_thr (dClose μ6), m_wkr (dClose μ6), (m_ran (dClose μ6)), (m_st (dClose μ6)), m_val (dClose μ6)), ((m_key (dClose μ6)), (m_ph (dClose μ6)), m_chk (dClose μ6), (m_at (dClose μ6)), (m_cand (dClose μ6)), (m_cc (dClose μ6)), (m_mk (dClose μ6)), (m_asked (dClose μ6)), m_first (dClose μ6), m_sum (dClose μ6), m_hgt (dClose μ6))) := ⟨_, rfl⟩
        have hk77 : ∀ i, U37 i → i ∉ [10, 12, 14, 36] → w74 (md i) = w54 (md i) := fun i hi hn => by rw [ew75, va_up_ne _ _ (hj.ne hi (j := 36) (by decide) (fun e9 => hn (by rw [e9]; decide))), ew72, va_up_ne _ _ (hj.ne hi (j := 36) (by decide) (fun e9 => hn (by rw [e9]; decide))), ew69, va_up_ne _ _ (hj.ne hi (j := 36) (by decide) (fun e9 => hn (by rw [e9]; decide))), ew65, va_up_ne _ _ (hj.ne hi (j := 14) (by decide) (fun e9 => hn (by rw [e9]; decide))), ew61, va_up_ne _ _ (hj.ne hi (j := 12) (by decide) (fun e9 => hn (by rw [e9]; decide))), ew57, va_up_ne _ _ (hj.ne hi (j := 10) (by decide) (fun e9 => hn (by rw [e9]; decide)))]
        have hk78 : ∀ i, U37 i → i ∉ [12, 14, 36] → w74 (md i) = w56 (md i) := fun i hi hn => by rw [ew75, va_up_ne _ _ (hj.ne hi (j := 36) (by decide) (fun e9 => hn (by rw [e9]; decide))), ew72, va_up_ne _ _ (hj.ne hi (j := 36) (by decide) (fun e9 => hn (by rw [e9]; decide))), ew69, va_up_ne _ _ (hj.ne hi (j := 36) (by decide) (fun e9 => hn (by rw [e9]; decide))), ew65, va_up_ne _ _ (hj.ne hi (j := 14) (by decide) (fun e9 => hn (by rw [e9]; decide))), ew61, va_up_ne _ _ (hj.ne hi (j := 12) (by decide) (fun e9 => hn (by rw [e9]; decide)))]
        have hk79 : ∀ i, U37 i → i ∉ [14, 36] → w74 (md i) = w60 (md i) := fun i hi hn => by rw [ew75, va_up_ne _ _ (hj.ne hi (j := 36) (by decide) (fun e9 => hn (by rw [e9]; decide))), ew72, va_up_ne _ _ (hj.ne hi (j := 36) (by decide) (fun e9 => hn (by rw [e9]; decide))), ew69, va_up_ne _ _ (hj.ne hi (j := 36) (by decide) (fun e9 => hn (by rw [e9]; decide))), ew65, va_up_ne _ _ (hj.ne hi (j := 14) (by decide) (fun e9 => hn (by rw [e9]; decide)))]
        have hk80 : ∀ i, U37 i → i ∉ [36] → w74 (md i) = w64 (md i) := fun i hi hn => by rw [ew75, va_up_ne _ _ (hj.ne hi (j := 36) (by decide) (fun e9 => hn (by rw [e9]; decide))), ew72, va_up_ne _ _ (hj.ne hi (j := 36) (by decide) (fun e9 => hn (by rw [e9]; decide))), ew69, va_up_ne _ _ (hj.ne hi (j := 36) (by decide) (fun e9 => hn (by rw [e9]; decide)))]
        have hR7b : RD dA md w74 μ7 := by rw [hμ7]; exact ⟨r36, (hk77 0 (by decide) (by decide)).trans r0, (hk77 1 (by decide) (by decide)).trans r1, (hk77 2 (by decide) (by decide)).trans r2, (hk77 3 (by decide) (by decide)).trans r3, (hk77 4 (by decide) (by decide)).trans r4, (hk77 5 (by decide) (by decide)).trans r5, (hk77 6 (by decide) (by decide)).trans r6, (hk77 7 (by decide) (by decide)).trans r7, (hk77 8 (by decide) (by decide)).trans r8, ⟨_, (hk77 9 (by decide) (by decide)).trans r9⟩, (hk78 10 (by decide) (by decide)).trans r10, (hk77 11 (by decide) (by decide)).trans r11, (hk79 12 (by decide) (by decide)).trans r12, (hk78 13 (by decide) (by decide)).trans r13, (hk80 14 (by decide) (by decide)).trans r14, (hk79 15 (by decide) (by decide)).trans r15, (hk77 23 (by decide) (by decide)).trans r23, (hk77 24 (by decide) (by decide)).trans r24, (hk77 25 (by decide) (by decide)).trans r25, (hk77 26 (by decide) (by decide)).trans r26, (hk77 27 (by decide) (by decide)).trans r27, (hk77 28 (by decide) (by decide)).trans r28, (hk77 29 (by decide) (by decide)).trans r29, (hk77 30 (by decide) (by decide)).trans r30, (hk77 31 (by decide) (by decide)).trans r31, (hk77 32 (by decide) (by decide)).trans r32, (hk77 33 (by decide) (by decide)).trans r33, (hk77 34 (by decide) (by decide)).trans r34⟩
        suffices lp : ∀ (n : Nat) (i : Nat) (μl : MS), (i ≤ 24) → (LpO μ7 μl i) → (24 < i + n) → ∀ (wl : fw_W) (H : Heap) (locs : List Loc), (RD dA md wl μl) → (OutD md w wl) → fw_P (dC, dI) cls_ (AA s0) wl H → va_S (AA s0) s.heap H locs → ∀ (ls : Array Slot), lv_has ls 6 [(0, .ref (md 36)), (5, .int (nI i))] → W p l e _ s m args below meth c H locs 0 0 (MQ below _ args s 0 0 (AA s0)) (F0 m 158 ls []) from lp 25 0 μ7 (by omega) (⟨rfl, rfl, rfl, rfl, rfl, by rw [hμ7], fun j hj9 => by omega⟩) (by omega) _ _ _  hR7b ho76 hP hS ls (lv_sub hl [2, 0] rfl)
        intro n
        induction n with
        | zero => intro i μl hi hLp hbn; exact absurd hbn (by omega)
        | succ n ih =>
          intro i μl hi hLp hbn wl H locs  hR9 ho9 hP hS ls hl
          obtain ⟨r36, r0, r1, r2, r3, r4, r5, r6, r7, r8, ⟨u, r9⟩, r10, r11, r12, r13, r14, r15, r23, r24, r25, r26, r27, r28, r29, r30, r31, r32, r33, r34⟩ := (id hR9)
          refine lv_iload hx hb d_D_stale_158 (lv_at hl 1 rfl) ?_
          refine lv_bipush (v := (nI 24)) hx hb d_D_stale_160 (by decide) ?_
          refine nu_ge (tgt := 179) hx hb (by omega) (by omega) d_D_stale_162 (by decide) (fun c2 => ?_) (fun c2 => ?_)
          · refine lv_aload_n hx hb d_D_stale_179 rfl (lv_at hl 0 rfl) ?_
            refine va_get (D := (dC, dI)) (ci := 5) (v := .int (nI (m_ran μl).toNat)) (C := R_D) (T := F_D) (N := 36) hx hb hg in_D hown hK (hP.one r36) 0 rfl rfl 22 (by decide) (hg _ k_613) (fun _ h9 => h9) rfl d_D_stale_180 ?_
            have hi9 : i = 24 := by omega
            rw [hi9] at hLp
            obtain ⟨l1, l2, l3, l4, l5, l6, l7⟩ := hLp
            rw [hμ7] at l1 l2 l3 l4 l5
            obtain ⟨hq9, hth9, hra9⟩ := rq_stale (μ := dThr 0 μ) (μf := μl) hQ hZ6 l1 l2 (congrArg (fun x9 => x9.1) l3) (congrArg (fun x9 => x9.2.1) l3) (congrArg (fun x9 => x9.2.2.1) l3) (congrArg (fun x9 => x9.2.2.2.1) l3) (congrArg (fun x9 => x9.2.2.2.2) l3) l6 l7 (congrArg (fun x9 => x9.2.2.2.2.2.2.1) l5)
            have hra8 : m_ran μl = s_ran (bSess wk k β).2 := (congrArg (fun x9 => x9.2.2.1) l4).trans hra9
            have hth8 : m_thr μl = (if bFl wk k β = 0 then 0 else bFl wk k β + 1) := (congrArg (fun x9 => x9.1) l4).trans hth9
            exact W.zret (v := (nI (m_ran μl).toNat)) hx hb hr (nar_b _) (fun tS ht hW => ⟨⟨(nI (m_ran μl).toNat), wl, rfl, ⟨by rw [hra8], μl, hR9, hq9, hth8, ho9⟩, mB_of ht hP⟩, hS.F ht⟩) hS.2.2 d_D_stale_183
          · refine lv_aload_n hx hb d_D_stale_165 rfl (lv_at hl 0 rfl) ?_
            refine va_get (D := (dC, dI)) (ci := 5) (v := .ref (md 11)) (C := R_D) (T := F_D) (N := 36) hx hb hg in_D hown hK (hP.one r36) 0 rfl rfl 11 (by decide) (hg _ k_602) (fun _ h9 => h9) rfl d_D_stale_166 ?_
            refine lv_iload hx hb d_D_stale_169 (lv_at hl 1 rfl) ?_
            refine lv_iconst (v := (-1)) hx hb d_D_stale_171 (by decide) ?_
            refine fw_iast (tys := tyl dA) hx hb hK hP hS r11 0 rfl (j := i) (x := (-1)) (by omega) (by decide) d_D_stale_172 (fun w81 H locs ew82 hP hS => ?_)
            have r11 : w81 (md 11) = some (.inl (dA 0, 24, .inl (upd (m_otrc μl) i (-1)))) := by rw [ew82]; exact va_up_self _ _ _
            have ho83 : OutD md w w81 := OutD.up ho9 ew82 (by decide)
            refine lv_iinc (v := nI (i + 1)) (lv' := [(5, .int (nI (i + 1))), (0, .ref (md 36))]) hx hb d_D_stale_173 hl (k := 1) rfl (nI_add _ 1) (by decide) rfl (fun ls hl => ?_)
            refine lv_goto (tgt := 158) hx hb d_D_stale_176 (by decide) ?_
            have hk84 : ∀ i, U37 i → i ∉ [11] → w81 (md i) = wl (md i) := fun i hi hn => by rw [ew82, va_up_ne _ _ (hj.ne hi (j := 11) (by decide) (fun e9 => hn (by rw [e9]; decide)))]
            exact ih (i + 1) (u_od μl (upd (m_otrc μl) i (-1), m_occh μl, m_ocached μl, m_ocnt μl, m_ocirc μl)) (by omega) (by obtain ⟨l1, l2, l3, l4, l5, l6, l7⟩ := hLp; exact ⟨l1, l2, l3, l4, l5, l6, fun j hj9 => (Nat.lt_or_ge j i).elim (fun h9 => (show upd (m_otrc μl) i (-1) j = -1 from (pk_un (by omega)).trans (l7 j h9))) (fun h9 => (show upd (m_otrc μl) i (-1) j = -1 from by rw [show j = i by omega, pk_us]))⟩) (by omega) _ _ _  (⟨(hk84 36 (by decide) (by decide)).trans r36, (hk84 0 (by decide) (by decide)).trans r0, (hk84 1 (by decide) (by decide)).trans r1, (hk84 2 (by decide) (by decide)).trans r2, (hk84 3 (by decide) (by decide)).trans r3, (hk84 4 (by decide) (by decide)).trans r4, (hk84 5 (by decide) (by decide)).trans r5, (hk84 6 (by decide) (by decide)).trans r6, (hk84 7 (by decide) (by decide)).trans r7, (hk84 8 (by decide) (by decide)).trans r8, ⟨_, (hk84 9 (by decide) (by decide)).trans r9⟩, (hk84 10 (by decide) (by decide)).trans r10, r11, (hk84 12 (by decide) (by decide)).trans r12, (hk84 13 (by decide) (by decide)).trans r13, (hk84 14 (by decide) (by decide)).trans r14, (hk84 15 (by decide) (by decide)).trans r15, (hk84 23 (by decide) (by decide)).trans r23, (hk84 24 (by decide) (by decide)).trans r24, (hk84 25 (by decide) (by decide)).trans r25, (hk84 26 (by decide) (by decide)).trans r26, (hk84 27 (by decide) (by decide)).trans r27, (hk84 28 (by decide) (by decide)).trans r28, (hk84 29 (by decide) (by decide)).trans r29, (hk84 30 (by decide) (by decide)).trans r30, (hk84 31 (by decide) (by decide)).trans r31, (hk84 32 (by decide) (by decide)).trans r32, (hk84 33 (by decide) (by decide)).trans r33, (hk84 34 (by decide) (by decide)).trans r34⟩) ho83 hP hS ls (lv_sub hl [1, 0] rfl)
      · exact absurd c1 (by decide)
