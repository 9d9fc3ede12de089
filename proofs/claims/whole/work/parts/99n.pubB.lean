theorem in_c {c : Nat} (hc : c < 2 ^ 31) (a : Int32) : (nI 0 ≤ a ∧ a ≤ nI c - nI 1) ↔ ∃ j, j < c ∧ a = nI j := by
  cases c with
  | zero =>
    constructor
    · rintro ⟨h1, h2⟩
      have e : nI 0 - nI 1 = -1 := by decide
      rw [e, Int32.le_iff_toInt_le] at h2
      rw [Int32.le_iff_toInt_le] at h1
      have e1 : (-1 : Int32).toInt = -1 := by decide
      have e2 : (nI 0).toInt = 0 := by decide
      omega
    · rintro ⟨j, hj, -⟩; omega
  | succ c =>
    have e : nI (c + 1) - nI 1 = nI c := nI_pred c
    rw [e]
    exact (in_n (by omega) a).trans ⟨fun ⟨j, h, e⟩ => ⟨j, by omega, e⟩, fun ⟨j, h, e⟩ => ⟨j, by omega, e⟩⟩
theorem RQ.tr {β : BS} {μ : MS} (h : RQ β μ) {wk k : Nat} (hwk : wk < 2) (hk : k < 12) : SlO μ (m_trc μ (12 * wk + k)) (b_tr β (wk * 12 + k)) := by
  have := h.2.1.1 (12 * wk + k) (by omega)
  rw [show wk * 12 + k = 12 * wk + k by omega]; exact this
set_option maxHeartbeats 4000000 in
set_option maxRecDepth 100000 in
theorem c_D_traceWithX {l : Launch} {s0 : State} {dC : Nat → ClassId} {dI : Nat → Nat → Nat} {dA : Nat → ClassId} (B0 : BB s0 dC dI dA) (w : fw_W) (md : Nat → Nat) (μ : MS) (β : BS) (x1 x2 a : Int32) (hj : Inj37 md) (hD : RD dA md w μ) (hQ : RQ β μ) (ho : ¬ (okW x1 ∧ okK x2)) : Met l y_D_traceWith [.code y_D_traceWith b_D_traceWith 5 (some .int)] ({ frames := 1, cells := 0, slots := 0, locals := 40 }) (mP s0 dC dI w [.ref (md 36), .int x1, .int x2, .int a]) (mQi s0 dC dI (fun r w' => r = -1 ∧ MB dA md w w' β 1)) 0 0 (AA s0) := by
  refine mt_ofW B0 (by decide) (Nat.le_of_ble_eq_true rfl) (fun p e s m args below meth c ls hargs X hin hl hP => ?_)
  have X9 := X
  obtain ⟨hx, hb, hr, hml, hown, hg, hK, hn, hE, hlocks, hA⟩ := X9
  have hS : va_S (AA s0) s.heap s.heap [] := va_S.rf
  have hl : lv_has ls 5 [(0, .ref (md 36)), (1, .int x1), (2, .int x2), (3, .int a)] := hl
  obtain ⟨r36, r0, r1, r2, r3, r4, r5, r6, r7, r8, ⟨u, r9⟩, r10, r11, r12, r13, r14, r15, r23, r24, r25, r26, r27, r28, r29, r30, r31, r32, r33, r34⟩ := (id hD)
  refine lv_aload_n hx hb d_D_traceWith_0 rfl (lv_at hl 0 rfl) ?_
  refine lv_iload_n hx hb d_D_traceWith_1 rfl (lv_at hl 1 rfl) ?_
  refine lv_iconst (v := (nI 0)) hx hb d_D_traceWith_2 (by decide) ?_
  refine lv_iconst (v := (nI 1)) hx hb d_D_traceWith_3 (by decide) ?_
  refine va_calli (rn_S (n := 3) (As := [.int x1, .int (nI 0), .int (nI 1)]) (rest := [.ref (md 36)]) X hP hS (c_D_in B0 w x1 (nI 0) (nI 1)) k_708 k_709 k_58 k_710 (by decide +kernel) rfl rfl ⟨Nat.le_of_ble_eq_true rfl, Nat.le_of_ble_eq_true rfl⟩ rfl hl.1 rfl (Nat.le_of_ble_eq_true rfl) d_D_traceWith_4 ⟨Nat.le_of_ble_eq_true rfl, Nat.le_of_ble_eq_true rfl⟩) hS (fun q _ h => h) (fun q h => h) (fun r w1 tS H locs ht hvm hw hB hz1 hk1 hS => ?_)
  have hP : fw_P (dC, dI) cls_ (AA s0) w1 H := by rw [← ht]; exact hB
  obtain ⟨e9, b1, rfl, ib1⟩ := hw
  rw [e9] at hP
  refine nu_ifeq (tgt := 24) hx hb d_D_traceWith_7 (by decide) (fun c0 => ?_) (fun c0 => ?_)
  · refine lv_iconst (v := (nI 0)) hx hb d_D_traceWith_24 (by decide) ?_
    refine va_calli (rn_V (n := 1) (As := [.int (nI false.toNat)]) (rest := []) (C := R_D) (T := F_D) (N := 36) (ci := 5) X hP hS (c_D_bad B0 w md μ false hj hD) k_711 k_713 k_38 k_58 k_714 (by decide +kernel) rfl rfl ⟨Nat.le_of_ble_eq_true rfl, Nat.le_of_ble_eq_true rfl⟩ r36 rfl rfl hl.1 rfl (Nat.le_of_ble_eq_true rfl) d_D_traceWith_25 ⟨Nat.le_of_ble_eq_true rfl, Nat.le_of_ble_eq_true rfl⟩) hS (fun q _ h => h) (fun q h => h) (fun r w2 tS H locs ht hvm hw hB hz1 hk1 hS => ?_)
    have hP : fw_P (dC, dI) cls_ (AA s0) w2 H := by rw [← ht]; exact hB
    obtain ⟨rfl, hR8, ho8⟩ := hw
    have hD1 : RD dA md w2 (dThr 1 μ) := hR8
    have ho3 : OutD md w w2 := OutD.tr OutD.rf ho8
    obtain ⟨r36, r0, r1, r2, r3, r4, r5, r6, r7, r8, ⟨u, r9⟩, r10, r11, r12, r13, r14, r15, r23, r24, r25, r26, r27, r28, r29, r30, r31, r32, r33, r34⟩ := (id hD1)
    refine nu_ifeq (tgt := 33) hx hb d_D_traceWith_28 (by decide) (fun c1 => ?_) (fun c1 => ?_)
    · exact absurd c1 (by decide)
    · refine lv_iconst (v := (-1)) hx hb d_D_traceWith_31 (by decide) ?_
      exact W.iret (v := (-1)) hx hb hr (fun tS ht hW => ⟨⟨(-1), w2, rfl, ⟨rfl, dThr 1 μ, hD1, hQ, rfl, ho3⟩, mB_of ht hP⟩, hS.F ht⟩) hS.2.2 d_D_traceWith_32
  · refine lv_iload_n hx hb d_D_traceWith_10 rfl (lv_at hl 2 rfl) ?_
    refine lv_iconst (v := (nI 0)) hx hb d_D_traceWith_11 (by decide) ?_
    refine lv_bipush (v := (nI 11)) hx hb d_D_traceWith_12 (by decide) ?_
    refine va_calli (rn_S (n := 3) (As := [.int x2, .int (nI 0), .int (nI 11)]) (rest := [.ref (md 36)]) X hP hS (c_D_in B0 w x2 (nI 0) (nI 11)) k_708 k_709 k_58 k_710 (by decide +kernel) rfl rfl ⟨Nat.le_of_ble_eq_true rfl, Nat.le_of_ble_eq_true rfl⟩ rfl hl.1 rfl (Nat.le_of_ble_eq_true rfl) d_D_traceWith_14 ⟨Nat.le_of_ble_eq_true rfl, Nat.le_of_ble_eq_true rfl⟩) hS (fun q _ h => h) (fun q h => h) (fun r w4 tS H locs ht hvm hw hB hz1 hk1 hS => ?_)
    have hP : fw_P (dC, dI) cls_ (AA s0) w4 H := by rw [← ht]; exact hB
    obtain ⟨e9, b2, rfl, ib2⟩ := hw
    rw [e9] at hP
    refine nu_ifeq (tgt := 24) hx hb d_D_traceWith_17 (by decide) (fun c00 => ?_) (fun c00 => ?_)
    · refine lv_iconst (v := (nI 0)) hx hb d_D_traceWith_24 (by decide) ?_
      refine va_calli (rn_V (n := 1) (As := [.int (nI false.toNat)]) (rest := []) (C := R_D) (T := F_D) (N := 36) (ci := 5) X hP hS (c_D_bad B0 w md μ false hj hD) k_711 k_713 k_38 k_58 k_714 (by decide +kernel) rfl rfl ⟨Nat.le_of_ble_eq_true rfl, Nat.le_of_ble_eq_true rfl⟩ r36 rfl rfl hl.1 rfl (Nat.le_of_ble_eq_true rfl) d_D_traceWith_25 ⟨Nat.le_of_ble_eq_true rfl, Nat.le_of_ble_eq_true rfl⟩) hS (fun q _ h => h) (fun q h => h) (fun r w5 tS H locs ht hvm hw hB hz1 hk1 hS => ?_)
      have hP : fw_P (dC, dI) cls_ (AA s0) w5 H := by rw [← ht]; exact hB
      obtain ⟨rfl, hR8, ho8⟩ := hw
      have hD1 : RD dA md w5 (dThr 1 μ) := hR8
      have ho6 : OutD md w w5 := OutD.tr OutD.rf ho8
      obtain ⟨r36, r0, r1, r2, r3, r4, r5, r6, r7, r8, ⟨u, r9⟩, r10, r11, r12, r13, r14, r15, r23, r24, r25, r26, r27, r28, r29, r30, r31, r32, r33, r34⟩ := (id hD1)
      refine nu_ifeq (tgt := 33) hx hb d_D_traceWith_28 (by decide) (fun c1 => ?_) (fun c1 => ?_)
      · exact absurd c1 (by decide)
      · refine lv_iconst (v := (-1)) hx hb d_D_traceWith_31 (by decide) ?_
        exact W.iret (v := (-1)) hx hb hr (fun tS ht hW => ⟨⟨(-1), w5, rfl, ⟨rfl, dThr 1 μ, hD1, hQ, rfl, ho6⟩, mB_of ht hP⟩, hS.F ht⟩) hS.2.2 d_D_traceWith_32
    · exact absurd ⟨(in_W x1).mp (ib1.mp c0), (in_K x2).mp (ib2.mp c00)⟩ ho
set_option maxHeartbeats 4000000 in
set_option maxRecDepth 100000 in
theorem c_D_traceWithN {l : Launch} {s0 : State} {dC : Nat → ClassId} {dI : Nat → Nat → Nat} {dA : Nat → ClassId} (B0 : BB s0 dC dI dA) (w : fw_W) (md : Nat → Nat) (μ : MS) (β : BS) (wk k : Nat) (a : Int32) (hj : Inj37 md) (hD : RD dA md w μ) (hQ : RQ β μ) (hwk : wk < 2) (hk : k < 12) (hT : ∀ T, b_tr β (wk * 12 + k) = some T → ¬ okI T.2.1.length a) : Met l y_D_traceWith [.code y_D_traceWith b_D_traceWith 5 (some .int)] ({ frames := 1, cells := 0, slots := 0, locals := 40 }) (mP s0 dC dI w [.ref (md 36), .int (nI wk), .int (nI k), .int a]) (mQi s0 dC dI (fun r w' => r = -1 ∧ MB dA md w w' β 2)) 0 0 (AA s0) := by
  have hO9 := hQ.tr hwk hk
  refine mt_ofW B0 (by decide) (Nat.le_of_ble_eq_true rfl) (fun p e s m args below meth c ls hargs X hin hl hP => ?_)
  have X9 := X
  obtain ⟨hx, hb, hr, hml, hown, hg, hK, hn, hE, hlocks, hA⟩ := X9
  have hS : va_S (AA s0) s.heap s.heap [] := va_S.rf
  have hl : lv_has ls 5 [(0, .ref (md 36)), (1, .int (nI wk)), (2, .int (nI k)), (3, .int a)] := hl
  obtain ⟨r36, r0, r1, r2, r3, r4, r5, r6, r7, r8, ⟨u, r9⟩, r10, r11, r12, r13, r14, r15, r23, r24, r25, r26, r27, r28, r29, r30, r31, r32, r33, r34⟩ := (id hD)
  refine lv_aload_n hx hb d_D_traceWith_0 rfl (lv_at hl 0 rfl) ?_
  refine lv_iload_n hx hb d_D_traceWith_1 rfl (lv_at hl 1 rfl) ?_
  refine lv_iconst (v := (nI 0)) hx hb d_D_traceWith_2 (by decide) ?_
  refine lv_iconst (v := (nI 1)) hx hb d_D_traceWith_3 (by decide) ?_
  refine va_calli (rn_S (n := 3) (As := [.int (nI wk), .int (nI 0), .int (nI 1)]) (rest := [.ref (md 36)]) X hP hS (c_D_in B0 w (nI wk) (nI 0) (nI 1)) k_708 k_709 k_58 k_710 (by decide +kernel) rfl rfl ⟨Nat.le_of_ble_eq_true rfl, Nat.le_of_ble_eq_true rfl⟩ rfl hl.1 rfl (Nat.le_of_ble_eq_true rfl) d_D_traceWith_4 ⟨Nat.le_of_ble_eq_true rfl, Nat.le_of_ble_eq_true rfl⟩) hS (fun q _ h => h) (fun q h => h) (fun r w7 tS H locs ht hvm hw hB hz1 hk1 hS => ?_)
  have hP : fw_P (dC, dI) cls_ (AA s0) w7 H := by rw [← ht]; exact hB
  obtain ⟨e9, b1, rfl, ib1⟩ := hw
  rw [e9] at hP
  have hv_b1 : b1 = true := ib1.mpr ((in_W _).mpr ⟨wk, hwk, rfl⟩)
  subst hv_b1
  refine nu_ifeq (tgt := 24) hx hb d_D_traceWith_7 (by decide) (fun c0 => ?_) (fun c0 => ?_)
  · exact absurd c0 (by decide)
  · refine lv_iload_n hx hb d_D_traceWith_10 rfl (lv_at hl 2 rfl) ?_
    refine lv_iconst (v := (nI 0)) hx hb d_D_traceWith_11 (by decide) ?_
    refine lv_bipush (v := (nI 11)) hx hb d_D_traceWith_12 (by decide) ?_
    refine va_calli (rn_S (n := 3) (As := [.int (nI k), .int (nI 0), .int (nI 11)]) (rest := [.ref (md 36)]) X hP hS (c_D_in B0 w (nI k) (nI 0) (nI 11)) k_708 k_709 k_58 k_710 (by decide +kernel) rfl rfl ⟨Nat.le_of_ble_eq_true rfl, Nat.le_of_ble_eq_true rfl⟩ rfl hl.1 rfl (Nat.le_of_ble_eq_true rfl) d_D_traceWith_14 ⟨Nat.le_of_ble_eq_true rfl, Nat.le_of_ble_eq_true rfl⟩) hS (fun q _ h => h) (fun q h => h) (fun r w8 tS H locs ht hvm hw hB hz1 hk1 hS => ?_)
    have hP : fw_P (dC, dI) cls_ (AA s0) w8 H := by rw [← ht]; exact hB
    obtain ⟨e9, b2, rfl, ib2⟩ := hw
    rw [e9] at hP
    have hv_b2 : b2 = true := ib2.mpr ((in_K _).mpr ⟨k, hk, rfl⟩)
    subst hv_b2
    refine nu_ifeq (tgt := 24) hx hb d_D_traceWith_17 (by decide) (fun c0 => ?_) (fun c0 => ?_)
    · exact absurd c0 (by decide)
    · refine lv_iconst (v := (nI 1)) hx hb d_D_traceWith_20 (by decide) ?_
      refine lv_goto (tgt := 25) hx hb d_D_traceWith_21 (by decide) ?_
      refine va_calli (rn_V (n := 1) (As := [.int (nI true.toNat)]) (rest := []) (C := R_D) (T := F_D) (N := 36) (ci := 5) X hP hS (c_D_bad B0 w md μ true hj hD) k_711 k_713 k_38 k_58 k_714 (by decide +kernel) rfl rfl ⟨Nat.le_of_ble_eq_true rfl, Nat.le_of_ble_eq_true rfl⟩ r36 rfl rfl hl.1 rfl (Nat.le_of_ble_eq_true rfl) d_D_traceWith_25 ⟨Nat.le_of_ble_eq_true rfl, Nat.le_of_ble_eq_true rfl⟩) hS (fun q _ h => h) (fun q h => h) (fun r w9 tS H locs ht hvm hw hB hz1 hk1 hS => ?_)
      have hP : fw_P (dC, dI) cls_ (AA s0) w9 H := by rw [← ht]; exact hB
      obtain ⟨rfl, hR8, ho8⟩ := hw
      have hD1 : RD dA md w9 (dThr 0 μ) := hR8
      have ho10 : OutD md w w9 := OutD.tr OutD.rf ho8
      obtain ⟨r36, r0, r1, r2, r3, r4, r5, r6, r7, r8, ⟨u, r9⟩, r10, r11, r12, r13, r14, r15, r23, r24, r25, r26, r27, r28, r29, r30, r31, r32, r33, r34⟩ := (id hD1)
      refine nu_ifeq (tgt := 33) hx hb d_D_traceWith_28 (by decide) (fun c1 => ?_) (fun c1 => ?_)
      · refine lv_aload_n hx hb d_D_traceWith_33 rfl (lv_at hl 0 rfl) ?_
        have r36 : w9 (md 36) = some (.inr (5, [.ref (md 0), .ref (md 1), .ref (md 2), .ref (md 3), .ref (md 4), .ref (md 5), .ref (md 6), .ref (md 7), .ref (md 8), .ref (md 9), .ref (md 10), .ref (md 11), .ref (md 12), .ref (md 13), .ref (md 14), .ref (md 15), .int (nI (m_cached μ)), .int (nI (m_ocached μ)), .int (m_circ μ), .int (m_ocirc μ), .int (nI 0), .int (nI (m_wkr μ)), .int (nI (m_ran μ).toNat), .ref (md 23), .ref (md 24), .ref (md 25), .ref (md 26), .ref (md 27), .ref (md 28), .ref (md 29), .ref (md 30), .ref (md 31), .ref (md 32), .ref (md 33), .ref (md 34), .int (nI (m_hgt μ))])) := r36
        refine va_get (D := (dC, dI)) (ci := 5) (v := .ref (md 10)) (C := R_D) (T := F_D) (N := 36) hx hb hg in_D hown hK (hP.one r36) 0 rfl rfl 10 (by decide) (hg _ k_601) (fun _ h9 => h9) rfl d_D_traceWith_34 ?_
        refine lv_iload_n hx hb d_D_traceWith_37 rfl (lv_at hl 1 rfl) ?_
        refine lv_bipush (v := (nI 12)) hx hb d_D_traceWith_38 (by decide) ?_
        refine nu_imul (r := 12 * wk) hx hb d_D_traceWith_40 (by omega) ?_
        refine lv_iload_n hx hb d_D_traceWith_41 rfl (lv_at hl 2 rfl) ?_
        refine nu_iadd (r := 12 * wk + k) hx hb d_D_traceWith_42 (by omega) ?_
        have r10 : w9 (md 10) = some (.inl (dA 0, 24, .inl (m_trc μ))) := r10
        refine fw_iald (tys := tyl dA) hx hb hK hP r10 0 rfl (j := 12 * wk + k) (by omega) (by decide) d_D_traceWith_43 ?_
        refine lv_istore (lv' := [(4, .int ((m_trc μ) (12 * wk + k))), (0, .ref (md 36)), (1, .int (nI wk)), (2, .int (nI k)), (3, .int a)]) hx hb d_D_traceWith_44 hl (by decide) rfl (fun ls hl => ?_)
        rcases hO9 with ⟨o1, o2⟩ | ⟨t, T, o1, o2, o3⟩
        · rw [o2] at hl
          refine lv_iload hx hb d_D_traceWith_46 (lv_at hl 0 rfl) ?_
          refine lv_if_lt (tgt := 67) hx hb d_D_traceWith_48 (by decide) (fun c2 => ?_) (fun c2 => ?_)
          · refine lv_aload_n hx hb d_D_traceWith_67 rfl (lv_at hl 1 rfl) ?_
            refine lv_iconst (v := (nI 2)) hx hb d_D_traceWith_68 (by decide) ?_
            refine fw_put (D := (dC, dI)) (ci := 5) (v := .int (nI 2)) (ty := .int) (C := R_D) (T := F_D) (N := 36) hx hb hg in_D ft_D ft_D_ok n_D hown hK hP hS r36 rfl 20 (by decide) (hg _ k_611) (fun _ h9 => h9) rfl (by decide +kernel) rfl rfl (Nat.le_of_ble_eq_true rfl) d_D_traceWith_69 (fun w11 H locs ew12 hP hS => ?_)
            have r36 : w11 (md 36) = some (.inr (5, [.ref (md 0), .ref (md 1), .ref (md 2), .ref (md 3), .ref (md 4), .ref (md 5), .ref (md 6), .ref (md 7), .ref (md 8), .ref (md 9), .ref (md 10), .ref (md 11), .ref (md 12), .ref (md 13), .ref (md 14), .ref (md 15), .int (nI (m_cached μ)), .int (nI (m_ocached μ)), .int (m_circ μ), .int (m_ocirc μ), .int (nI 2), .int (nI (m_wkr μ)), .int (nI (m_ran μ).toNat), .ref (md 23), .ref (md 24), .ref (md 25), .ref (md 26), .ref (md 27), .ref (md 28), .ref (md 29), .ref (md 30), .ref (md 31), .ref (md 32), .ref (md 33), .ref (md 34), .int (nI (m_hgt μ))])) := by rw [ew12]; exact va_up_self _ _ _
            have ho13 : OutD md w w11 := OutD.up ho10 ew12 (by decide)
            refine lv_iconst (v := (-1)) hx hb d_D_traceWith_72 (by decide) ?_
            have hk14 : ∀ i, U37 i → i ∉ [36] → w11 (md i) = w9 (md i) := fun i hi hn => by rw [ew12, va_up_ne _ _ (hj.ne hi (j := 36) (by decide) (fun e9 => hn (by rw [e9]; decide)))]
            exact W.iret (v := (-1)) hx hb hr (fun tS ht hW => ⟨⟨(-1), w11, rfl, ⟨rfl, dThr 2 μ, ⟨r36, (hk14 0 (by decide) (by decide)).trans r0, (hk14 1 (by decide) (by decide)).trans r1, (hk14 2 (by decide) (by decide)).trans r2, (hk14 3 (by decide) (by decide)).trans r3, (hk14 4 (by decide) (by decide)).trans r4, (hk14 5 (by decide) (by decide)).trans r5, (hk14 6 (by decide) (by decide)).trans r6, (hk14 7 (by decide) (by decide)).trans r7, (hk14 8 (by decide) (by decide)).trans r8, ⟨_, (hk14 9 (by decide) (by decide)).trans r9⟩, (hk14 10 (by decide) (by decide)).trans r10, (hk14 11 (by decide) (by decide)).trans r11, (hk14 12 (by decide) (by decide)).trans r12, (hk14 13 (by decide) (by decide)).trans r13, (hk14 14 (by decide) (by decide)).trans r14, (hk14 15 (by decide) (by decide)).trans r15, (hk14 23 (by decide) (by decide)).trans r23, (hk14 24 (by decide) (by decide)).trans r24, (hk14 25 (by decide) (by decide)).trans r25, (hk14 26 (by decide) (by decide)).trans r26, (hk14 27 (by decide) (by decide)).trans r27, (hk14 28 (by decide) (by decide)).trans r28, (hk14 29 (by decide) (by decide)).trans r29, (hk14 30 (by decide) (by decide)).trans r30, (hk14 31 (by decide) (by decide)).trans r31, (hk14 32 (by decide) (by decide)).trans r32, (hk14 33 (by decide) (by decide)).trans r33, (hk14 34 (by decide) (by decide)).trans r34⟩, hQ, rfl, ho13⟩, mB_of ht hP⟩, hS.F ht⟩) hS.2.2 d_D_traceWith_73
          · exact absurd (show (-1 : Int32) < 0 by decide) c2
        · rw [o2] at hl
          have t320 := o3.1
          have tsz := o3.2.2.2.1
          have tl3 := o3.2.2.2.2.1
          have hT9 := hT T o1
          refine lv_iload hx hb d_D_traceWith_46 (lv_at hl 0 rfl) ?_
          refine lv_if_lt (tgt := 67) hx hb d_D_traceWith_48 (by decide) (fun c2 => absurd c2 (nI_nn (by omega))) (fun c2 => ?_)
          refine lv_iload_n hx hb d_D_traceWith_51 rfl (lv_at hl 4 rfl) ?_
          refine lv_iconst (v := (-1)) hx hb d_D_traceWith_52 (by decide) ?_
          refine lv_icmp_lt (tgt := 67) hx hb d_D_traceWith_53 (by decide) (fun c3 => ?_) (fun c3 => ?_)
          · refine lv_aload_n hx hb d_D_traceWith_67 rfl (lv_at hl 1 rfl) ?_
            refine lv_iconst (v := (nI 2)) hx hb d_D_traceWith_68 (by decide) ?_
            refine fw_put (D := (dC, dI)) (ci := 5) (v := .int (nI 2)) (ty := .int) (C := R_D) (T := F_D) (N := 36) hx hb hg in_D ft_D ft_D_ok n_D hown hK hP hS r36 rfl 20 (by decide) (hg _ k_611) (fun _ h9 => h9) rfl (by decide +kernel) rfl rfl (Nat.le_of_ble_eq_true rfl) d_D_traceWith_69 (fun w15 H locs ew16 hP hS => ?_)
            have r36 : w15 (md 36) = some (.inr (5, [.ref (md 0), .ref (md 1), .ref (md 2), .ref (md 3), .ref (md 4), .ref (md 5), .ref (md 6), .ref (md 7), .ref (md 8), .ref (md 9), .ref (md 10), .ref (md 11), .ref (md 12), .ref (md 13), .ref (md 14), .ref (md 15), .int (nI (m_cached μ)), .int (nI (m_ocached μ)), .int (m_circ μ), .int (m_ocirc μ), .int (nI 2), .int (nI (m_wkr μ)), .int (nI (m_ran μ).toNat), .ref (md 23), .ref (md 24), .ref (md 25), .ref (md 26), .ref (md 27), .ref (md 28), .ref (md 29), .ref (md 30), .ref (md 31), .ref (md 32), .ref (md 33), .ref (md 34), .int (nI (m_hgt μ))])) := by rw [ew16]; exact va_up_self _ _ _
            have ho17 : OutD md w w15 := OutD.up ho10 ew16 (by decide)
            refine lv_iconst (v := (-1)) hx hb d_D_traceWith_72 (by decide) ?_
            have hk18 : ∀ i, U37 i → i ∉ [36] → w15 (md i) = w9 (md i) := fun i hi hn => by rw [ew16, va_up_ne _ _ (hj.ne hi (j := 36) (by decide) (fun e9 => hn (by rw [e9]; decide)))]
            exact W.iret (v := (-1)) hx hb hr (fun tS ht hW => ⟨⟨(-1), w15, rfl, ⟨rfl, dThr 2 μ, ⟨r36, (hk18 0 (by decide) (by decide)).trans r0, (hk18 1 (by decide) (by decide)).trans r1, (hk18 2 (by decide) (by decide)).trans r2, (hk18 3 (by decide) (by decide)).trans r3, (hk18 4 (by decide) (by decide)).trans r4, (hk18 5 (by decide) (by decide)).trans r5, (hk18 6 (by decide) (by decide)).trans r6, (hk18 7 (by decide) (by decide)).trans r7, (hk18 8 (by decide) (by decide)).trans r8, ⟨_, (hk18 9 (by decide) (by decide)).trans r9⟩, (hk18 10 (by decide) (by decide)).trans r10, (hk18 11 (by decide) (by decide)).trans r11, (hk18 12 (by decide) (by decide)).trans r12, (hk18 13 (by decide) (by decide)).trans r13, (hk18 14 (by decide) (by decide)).trans r14, (hk18 15 (by decide) (by decide)).trans r15, (hk18 23 (by decide) (by decide)).trans r23, (hk18 24 (by decide) (by decide)).trans r24, (hk18 25 (by decide) (by decide)).trans r25, (hk18 26 (by decide) (by decide)).trans r26, (hk18 27 (by decide) (by decide)).trans r27, (hk18 28 (by decide) (by decide)).trans r28, (hk18 29 (by decide) (by decide)).trans r29, (hk18 30 (by decide) (by decide)).trans r30, (hk18 31 (by decide) (by decide)).trans r31, (hk18 32 (by decide) (by decide)).trans r32, (hk18 33 (by decide) (by decide)).trans r33, (hk18 34 (by decide) (by decide)).trans r34⟩, hQ, rfl, ho17⟩, mB_of ht hP⟩, hS.F ht⟩) hS.2.2 d_D_traceWith_73
          · refine lv_iload_n hx hb d_D_traceWith_56 rfl (lv_at hl 4 rfl) ?_
            refine lv_aload_n hx hb d_D_traceWith_57 rfl (lv_at hl 1 rfl) ?_
            refine va_get (D := (dC, dI)) (ci := 5) (v := .ref (md 4)) (C := R_D) (T := F_D) (N := 36) hx hb hg in_D hown hK (hP.one r36) 0 rfl rfl 4 (by decide) (hg _ k_595) (fun _ h9 => h9) rfl d_D_traceWith_58 ?_
            refine lv_iload hx hb d_D_traceWith_61 (lv_at hl 0 rfl) ?_
            have r4 : w9 (md 4) = some (.inl (dA 0, 320, .inl (nf (m_size μ)))) := r4
            refine fw_iald (tys := tyl dA) hx hb hK hP r4 0 rfl (j := t) t320 (by decide) d_D_traceWith_63 ?_
            refine lv_icmp_lt (tgt := 74) hx hb d_D_traceWith_64 (by decide) (fun c4 => ?_) (fun c4 => ?_)
            · exact absurd (okI_2 (by omega) c3 (by rw [← tsz]; exact c4)) hT9
            · refine lv_aload_n hx hb d_D_traceWith_67 rfl (lv_at hl 1 rfl) ?_
              refine lv_iconst (v := (nI 2)) hx hb d_D_traceWith_68 (by decide) ?_
              refine fw_put (D := (dC, dI)) (ci := 5) (v := .int (nI 2)) (ty := .int) (C := R_D) (T := F_D) (N := 36) hx hb hg in_D ft_D ft_D_ok n_D hown hK hP hS r36 rfl 20 (by decide) (hg _ k_611) (fun _ h9 => h9) rfl (by decide +kernel) rfl rfl (Nat.le_of_ble_eq_true rfl) d_D_traceWith_69 (fun w19 H locs ew20 hP hS => ?_)
              have r36 : w19 (md 36) = some (.inr (5, [.ref (md 0), .ref (md 1), .ref (md 2), .ref (md 3), .ref (md 4), .ref (md 5), .ref (md 6), .ref (md 7), .ref (md 8), .ref (md 9), .ref (md 10), .ref (md 11), .ref (md 12), .ref (md 13), .ref (md 14), .ref (md 15), .int (nI (m_cached μ)), .int (nI (m_ocached μ)), .int (m_circ μ), .int (m_ocirc μ), .int (nI 2), .int (nI (m_wkr μ)), .int (nI (m_ran μ).toNat), .ref (md 23), .ref (md 24), .ref (md 25), .ref (md 26), .ref (md 27), .ref (md 28), .ref (md 29), .ref (md 30), .ref (md 31), .ref (md 32), .ref (md 33), .ref (md 34), .int (nI (m_hgt μ))])) := by rw [ew20]; exact va_up_self _ _ _
              have ho21 : OutD md w w19 := OutD.up ho10 ew20 (by decide)
              refine lv_iconst (v := (-1)) hx hb d_D_traceWith_72 (by decide) ?_
              have hk22 : ∀ i, U37 i → i ∉ [36] → w19 (md i) = w9 (md i) := fun i hi hn => by rw [ew20, va_up_ne _ _ (hj.ne hi (j := 36) (by decide) (fun e9 => hn (by rw [e9]; decide)))]
              exact W.iret (v := (-1)) hx hb hr (fun tS ht hW => ⟨⟨(-1), w19, rfl, ⟨rfl, dThr 2 μ, ⟨r36, (hk22 0 (by decide) (by decide)).trans r0, (hk22 1 (by decide) (by decide)).trans r1, (hk22 2 (by decide) (by decide)).trans r2, (hk22 3 (by decide) (by decide)).trans r3, (hk22 4 (by decide) (by decide)).trans r4, (hk22 5 (by decide) (by decide)).trans r5, (hk22 6 (by decide) (by decide)).trans r6, (hk22 7 (by decide) (by decide)).trans r7, (hk22 8 (by decide) (by decide)).trans r8, ⟨_, (hk22 9 (by decide) (by decide)).trans r9⟩, (hk22 10 (by decide) (by decide)).trans r10, (hk22 11 (by decide) (by decide)).trans r11, (hk22 12 (by decide) (by decide)).trans r12, (hk22 13 (by decide) (by decide)).trans r13, (hk22 14 (by decide) (by decide)).trans r14, (hk22 15 (by decide) (by decide)).trans r15, (hk22 23 (by decide) (by decide)).trans r23, (hk22 24 (by decide) (by decide)).trans r24, (hk22 25 (by decide) (by decide)).trans r25, (hk22 26 (by decide) (by decide)).trans r26, (hk22 27 (by decide) (by decide)).trans r27, (hk22 28 (by decide) (by decide)).trans r28, (hk22 29 (by decide) (by decide)).trans r29, (hk22 30 (by decide) (by decide)).trans r30, (hk22 31 (by decide) (by decide)).trans r31, (hk22 32 (by decide) (by decide)).trans r32, (hk22 33 (by decide) (by decide)).trans r33, (hk22 34 (by decide) (by decide)).trans r34⟩, hQ, rfl, ho21⟩, mB_of ht hP⟩, hS.F ht⟩) hS.2.2 d_D_traceWith_73
      · exact absurd c1 (by decide)
set_option maxHeartbeats 4000000 in
set_option maxRecDepth 100000 in
theorem c_D_traceWith {l : Launch} {s0 : State} {dC : Nat → ClassId} {dI : Nat → Nat → Nat} {dA : Nat → ClassId} (B0 : BB s0 dC dI dA) (w : fw_W) (md : Nat → Nat) (μ : MS) (β : BS) (wk k : Nat) (a : Int32) (T : tv) (hj : Inj37 md) (hD : RD dA md w μ) (hQ : RQ β μ) (hwk : wk < 2) (hk : k < 12) (hT : b_tr β (wk * 12 + k) = some T) (hi : okI T.2.1.length a) : Met l y_D_traceWith [.code y_D_traceWith b_D_traceWith 5 (some .int)] ({ frames := 1, cells := 0, slots := 0, locals := 40 }) (mP s0 dC dI w [.ref (md 36), .int (nI wk), .int (nI k), .int a]) (mQi s0 dC dI (fun r w' => ∃ t, r = nI t ∧ SlT μ t T ∧ RD dA md w' (dThr 0 μ) ∧ OutD md w w')) 0 0 (AA s0) := by
  have hO9 := hQ.tr hwk hk
  rw [hT] at hO9
  refine mt_ofW B0 (by decide) (Nat.le_of_ble_eq_true rfl) (fun p e s m args below meth c ls hargs X hin hl hP => ?_)
  have X9 := X
  obtain ⟨hx, hb, hr, hml, hown, hg, hK, hn, hE, hlocks, hA⟩ := X9
  have hS : va_S (AA s0) s.heap s.heap [] := va_S.rf
  have hl : lv_has ls 5 [(0, .ref (md 36)), (1, .int (nI wk)), (2, .int (nI k)), (3, .int a)] := hl
  obtain ⟨r36, r0, r1, r2, r3, r4, r5, r6, r7, r8, ⟨u, r9⟩, r10, r11, r12, r13, r14, r15, r23, r24, r25, r26, r27, r28, r29, r30, r31, r32, r33, r34⟩ := (id hD)
  refine lv_aload_n hx hb d_D_traceWith_0 rfl (lv_at hl 0 rfl) ?_
  refine lv_iload_n hx hb d_D_traceWith_1 rfl (lv_at hl 1 rfl) ?_
  refine lv_iconst (v := (nI 0)) hx hb d_D_traceWith_2 (by decide) ?_
  refine lv_iconst (v := (nI 1)) hx hb d_D_traceWith_3 (by decide) ?_
  refine va_calli (rn_S (n := 3) (As := [.int (nI wk), .int (nI 0), .int (nI 1)]) (rest := [.ref (md 36)]) X hP hS (c_D_in B0 w (nI wk) (nI 0) (nI 1)) k_708 k_709 k_58 k_710 (by decide +kernel) rfl rfl ⟨Nat.le_of_ble_eq_true rfl, Nat.le_of_ble_eq_true rfl⟩ rfl hl.1 rfl (Nat.le_of_ble_eq_true rfl) d_D_traceWith_4 ⟨Nat.le_of_ble_eq_true rfl, Nat.le_of_ble_eq_true rfl⟩) hS (fun q _ h => h) (fun q h => h) (fun r w23 tS H locs ht hvm hw hB hz1 hk1 hS => ?_)
  have hP : fw_P (dC, dI) cls_ (AA s0) w23 H := by rw [← ht]; exact hB
  obtain ⟨e9, b1, rfl, ib1⟩ := hw
  rw [e9] at hP
  have hv_b1 : b1 = true := ib1.mpr ((in_W _).mpr ⟨wk, hwk, rfl⟩)
  subst hv_b1
  refine nu_ifeq (tgt := 24) hx hb d_D_traceWith_7 (by decide) (fun c0 => ?_) (fun c0 => ?_)
  · exact absurd c0 (by decide)
  · refine lv_iload_n hx hb d_D_traceWith_10 rfl (lv_at hl 2 rfl) ?_
    refine lv_iconst (v := (nI 0)) hx hb d_D_traceWith_11 (by decide) ?_
    refine lv_bipush (v := (nI 11)) hx hb d_D_traceWith_12 (by decide) ?_
    refine va_calli (rn_S (n := 3) (As := [.int (nI k), .int (nI 0), .int (nI 11)]) (rest := [.ref (md 36)]) X hP hS (c_D_in B0 w (nI k) (nI 0) (nI 11)) k_708 k_709 k_58 k_710 (by decide +kernel) rfl rfl ⟨Nat.le_of_ble_eq_true rfl, Nat.le_of_ble_eq_true rfl⟩ rfl hl.1 rfl (Nat.le_of_ble_eq_true rfl) d_D_traceWith_14 ⟨Nat.le_of_ble_eq_true rfl, Nat.le_of_ble_eq_true rfl⟩) hS (fun q _ h => h) (fun q h => h) (fun r w24 tS H locs ht hvm hw hB hz1 hk1 hS => ?_)
    have hP : fw_P (dC, dI) cls_ (AA s0) w24 H := by rw [← ht]; exact hB
    obtain ⟨e9, b2, rfl, ib2⟩ := hw
    rw [e9] at hP
    have hv_b2 : b2 = true := ib2.mpr ((in_K _).mpr ⟨k, hk, rfl⟩)
    subst hv_b2
    refine nu_ifeq (tgt := 24) hx hb d_D_traceWith_17 (by decide) (fun c0 => ?_) (fun c0 => ?_)
    · exact absurd c0 (by decide)
    · refine lv_iconst (v := (nI 1)) hx hb d_D_traceWith_20 (by decide) ?_
      refine lv_goto (tgt := 25) hx hb d_D_traceWith_21 (by decide) ?_
      refine va_calli (rn_V (n := 1) (As := [.int (nI true.toNat)]) (rest := []) (C := R_D) (T := F_D) (N := 36) (ci := 5) X hP hS (c_D_bad B0 w md μ true hj hD) k_711 k_713 k_38 k_58 k_714 (by decide +kernel) rfl rfl ⟨Nat.le_of_ble_eq_true rfl, Nat.le_of_ble_eq_true rfl⟩ r36 rfl rfl hl.1 rfl (Nat.le_of_ble_eq_true rfl) d_D_traceWith_25 ⟨Nat.le_of_ble_eq_true rfl, Nat.le_of_ble_eq_true rfl⟩) hS (fun q _ h => h) (fun q h => h) (fun r w25 tS H locs ht hvm hw hB hz1 hk1 hS => ?_)
      have hP : fw_P (dC, dI) cls_ (AA s0) w25 H := by rw [← ht]; exact hB
      obtain ⟨rfl, hR8, ho8⟩ := hw
      have hD1 : RD dA md w25 (dThr 0 μ) := hR8
      have ho26 : OutD md w w25 := OutD.tr OutD.rf ho8
      obtain ⟨r36, r0, r1, r2, r3, r4, r5, r6, r7, r8, ⟨u, r9⟩, r10, r11, r12, r13, r14, r15, r23, r24, r25, r26, r27, r28, r29, r30, r31, r32, r33, r34⟩ := (id hD1)
      refine nu_ifeq (tgt := 33) hx hb d_D_traceWith_28 (by decide) (fun c1 => ?_) (fun c1 => ?_)
      · refine lv_aload_n hx hb d_D_traceWith_33 rfl (lv_at hl 0 rfl) ?_
        have r36 : w25 (md 36) = some (.inr (5, [.ref (md 0), .ref (md 1), .ref (md 2), .ref (md 3), .ref (md 4), .ref (md 5), .ref (md 6), .ref (md 7), .ref (md 8), .ref (md 9), .ref (md 10), .ref (md 11), .ref (md 12), .ref (md 13), .ref (md 14), .ref (md 15), .int (nI (m_cached μ)), .int (nI (m_ocached μ)), .int (m_circ μ), .int (m_ocirc μ), .int (nI 0), .int (nI (m_wkr μ)), .int (nI (m_ran μ).toNat), .ref (md 23), .ref (md 24), .ref (md 25), .ref (md 26), .ref (md 27), .ref (md 28), .ref (md 29), .ref (md 30), .ref (md 31), .ref (md 32), .ref (md 33), .ref (md 34), .int (nI (m_hgt μ))])) := r36
        refine va_get (D := (dC, dI)) (ci := 5) (v := .ref (md 10)) (C := R_D) (T := F_D) (N := 36) hx hb hg in_D hown hK (hP.one r36) 0 rfl rfl 10 (by decide) (hg _ k_601) (fun _ h9 => h9) rfl d_D_traceWith_34 ?_
        refine lv_iload_n hx hb d_D_traceWith_37 rfl (lv_at hl 1 rfl) ?_
        refine lv_bipush (v := (nI 12)) hx hb d_D_traceWith_38 (by decide) ?_
        refine nu_imul (r := 12 * wk) hx hb d_D_traceWith_40 (by omega) ?_
        refine lv_iload_n hx hb d_D_traceWith_41 rfl (lv_at hl 2 rfl) ?_
        refine nu_iadd (r := 12 * wk + k) hx hb d_D_traceWith_42 (by omega) ?_
        have r10 : w25 (md 10) = some (.inl (dA 0, 24, .inl (m_trc μ))) := r10
        refine fw_iald (tys := tyl dA) hx hb hK hP r10 0 rfl (j := 12 * wk + k) (by omega) (by decide) d_D_traceWith_43 ?_
        refine lv_istore (lv' := [(4, .int ((m_trc μ) (12 * wk + k))), (0, .ref (md 36)), (1, .int (nI wk)), (2, .int (nI k)), (3, .int a)]) hx hb d_D_traceWith_44 hl (by decide) rfl (fun ls hl => ?_)
        obtain ⟨t, T9, o1, o2, o3⟩ : ∃ t T9, some T = some T9 ∧ m_trc μ (12 * wk + k) = nI t ∧ SlT μ t T9 := hO9.resolve_left (fun h9 => by cases h9.1)
        injection o1 with o1
        rw [← o1] at o3
        rw [o2] at hl
        have t320 := o3.1
        have tsz := o3.2.2.2.1
        have tl3 := o3.2.2.2.2.1
        obtain ⟨j1, j2⟩ := okI_1 hi (by omega)
        refine lv_iload hx hb d_D_traceWith_46 (lv_at hl 0 rfl) ?_
        refine lv_if_lt (tgt := 67) hx hb d_D_traceWith_48 (by decide) (fun c2 => absurd c2 (nI_nn (by omega))) (fun c2 => ?_)
        refine lv_iload_n hx hb d_D_traceWith_51 rfl (lv_at hl 4 rfl) ?_
        refine lv_iconst (v := (-1)) hx hb d_D_traceWith_52 (by decide) ?_
        refine lv_icmp_lt (tgt := 67) hx hb d_D_traceWith_53 (by decide) (fun c3 => ?_) (fun c3 => ?_)
        · exact absurd c3 j1
        · refine lv_iload_n hx hb d_D_traceWith_56 rfl (lv_at hl 4 rfl) ?_
          refine lv_aload_n hx hb d_D_traceWith_57 rfl (lv_at hl 1 rfl) ?_
          refine va_get (D := (dC, dI)) (ci := 5) (v := .ref (md 4)) (C := R_D) (T := F_D) (N := 36) hx hb hg in_D hown hK (hP.one r36) 0 rfl rfl 4 (by decide) (hg _ k_595) (fun _ h9 => h9) rfl d_D_traceWith_58 ?_
          refine lv_iload hx hb d_D_traceWith_61 (lv_at hl 0 rfl) ?_
          have r4 : w25 (md 4) = some (.inl (dA 0, 320, .inl (nf (m_size μ)))) := r4
          refine fw_iald (tys := tyl dA) hx hb hK hP r4 0 rfl (j := t) t320 (by decide) d_D_traceWith_63 ?_
          refine lv_icmp_lt (tgt := 74) hx hb d_D_traceWith_64 (by decide) (fun c4 => ?_) (fun c4 => ?_)
          · refine lv_iload hx hb d_D_traceWith_74 (lv_at hl 0 rfl) ?_
            exact W.iret (v := (nI t)) hx hb hr (fun tS ht hW => ⟨⟨(nI t), w25, rfl, ⟨t, rfl, o3, hD1, ho26⟩, mB_of ht hP⟩, hS.F ht⟩) hS.2.2 d_D_traceWith_76
          · exact absurd (show a < nI (m_size μ t) by rw [tsz]; exact j2) c4
      · exact absurd c1 (by decide)
set_option maxHeartbeats 4000000 in
set_option maxRecDepth 100000 in
theorem c_D_traceX {l : Launch} {s0 : State} {dC : Nat → ClassId} {dI : Nat → Nat → Nat} {dA : Nat → ClassId} (B0 : BB s0 dC dI dA) (w : fw_W) (md : Nat → Nat) (μ : MS) (β : BS) (x1 x2 a : Int32) (hj : Inj37 md) (hD : RD dA md w μ) (hQ : RQ β μ) (ho : ¬ (okW x1 ∧ okK x2)) : Met l y_D_trace [.code y_D_trace b_D_trace 5 (some .int)] ({ frames := 2, cells := 0, slots := 0, locals := 80 }) (mP s0 dC dI w [.ref (md 36), .int x1, .int x2, .int a]) (mQi s0 dC dI (fun r w' => MB dA md w w' β 1)) 0 0 (AA s0) := by
  refine mt_ofW B0 (by decide) (Nat.le_of_ble_eq_true rfl) (fun p e s m args below meth c ls hargs X hin hl hP => ?_)
  have X9 := X
  obtain ⟨hx, hb, hr, hml, hown, hg, hK, hn, hE, hlocks, hA⟩ := X9
  have hS : va_S (AA s0) s.heap s.heap [] := va_S.rf
  have hl : lv_has ls 5 [(0, .ref (md 36)), (1, .int x1), (2, .int x2), (3, .int a)] := hl
  obtain ⟨r36, r0, r1, r2, r3, r4, r5, r6, r7, r8, ⟨u, r9⟩, r10, r11, r12, r13, r14, r15, r23, r24, r25, r26, r27, r28, r29, r30, r31, r32, r33, r34⟩ := (id hD)
  refine lv_aload_n hx hb d_D_trace_0 rfl (lv_at hl 0 rfl) ?_
  refine lv_iload_n hx hb d_D_trace_1 rfl (lv_at hl 1 rfl) ?_
  refine lv_iload_n hx hb d_D_trace_2 rfl (lv_at hl 2 rfl) ?_
  refine lv_iload_n hx hb d_D_trace_3 rfl (lv_at hl 3 rfl) ?_
  refine va_calli (rn_V (n := 3) (As := [.int x1, .int x2, .int a]) (rest := []) (C := R_D) (T := F_D) (N := 36) (ci := 5) X hP hS (c_D_traceWithX B0 w md μ β x1 x2 a hj hD hQ ho) k_802 k_804 k_52 k_58 k_805 (by decide +kernel) rfl rfl ⟨Nat.le_of_ble_eq_true rfl, Nat.le_of_ble_eq_true rfl⟩ r36 rfl rfl hl.1 rfl (Nat.le_of_ble_eq_true rfl) d_D_trace_4 ⟨Nat.le_of_ble_eq_true rfl, Nat.le_of_ble_eq_true rfl⟩) hS (fun q _ h => h) (fun q h => h) (fun r w27 tS H locs ht hvm hw hB hz1 hk1 hS => ?_)
  have hP : fw_P (dC, dI) cls_ (AA s0) w27 H := by rw [← ht]; exact hB
  obtain ⟨rfl, hM8⟩ := hw
  refine lv_istore (lv' := [(4, .int (-1)), (0, .ref (md 36)), (1, .int x1), (2, .int x2), (3, .int a)]) hx hb d_D_trace_7 hl (by decide) rfl (fun ls hl => ?_)
  refine lv_iload hx hb d_D_trace_9 (lv_at hl 0 rfl) ?_
  refine lv_if_ge (tgt := 16) hx hb d_D_trace_11 (by decide) (fun c2 => ?_) (fun c2 => ?_)
  · exact absurd c2 (by decide)
  · refine lv_iconst (v := (nI 0)) hx hb d_D_trace_14 (by decide) ?_
    exact W.iret (v := (nI 0)) hx hb hr (fun tS ht hW => ⟨⟨(nI 0), w27, rfl, hM8, mB_of ht hP⟩, hS.F ht⟩) hS.2.2 d_D_trace_15
set_option maxHeartbeats 4000000 in
set_option maxRecDepth 100000 in
theorem c_D_traceN {l : Launch} {s0 : State} {dC : Nat → ClassId} {dI : Nat → Nat → Nat} {dA : Nat → ClassId} (B0 : BB s0 dC dI dA) (w : fw_W) (md : Nat → Nat) (μ : MS) (β : BS) (wk k : Nat) (a : Int32) (hj : Inj37 md) (hD : RD dA md w μ) (hQ : RQ β μ) (hwk : wk < 2) (hk : k < 12) (hT : ∀ T, b_tr β (wk * 12 + k) = some T → ¬ okI T.2.1.length a) : Met l y_D_trace [.code y_D_trace b_D_trace 5 (some .int)] ({ frames := 2, cells := 0, slots := 0, locals := 80 }) (mP s0 dC dI w [.ref (md 36), .int (nI wk), .int (nI k), .int a]) (mQi s0 dC dI (fun r w' => MB dA md w w' β 2)) 0 0 (AA s0) := by
  refine mt_ofW B0 (by decide) (Nat.le_of_ble_eq_true rfl) (fun p e s m args below meth c ls hargs X hin hl hP => ?_)
  have X9 := X
  obtain ⟨hx, hb, hr, hml, hown, hg, hK, hn, hE, hlocks, hA⟩ := X9
  have hS : va_S (AA s0) s.heap s.heap [] := va_S.rf
  have hl : lv_has ls 5 [(0, .ref (md 36)), (1, .int (nI wk)), (2, .int (nI k)), (3, .int a)] := hl
  obtain ⟨r36, r0, r1, r2, r3, r4, r5, r6, r7, r8, ⟨u, r9⟩, r10, r11, r12, r13, r14, r15, r23, r24, r25, r26, r27, r28, r29, r30, r31, r32, r33, r34⟩ := (id hD)
  refine lv_aload_n hx hb d_D_trace_0 rfl (lv_at hl 0 rfl) ?_
  refine lv_iload_n hx hb d_D_trace_1 rfl (lv_at hl 1 rfl) ?_
  refine lv_iload_n hx hb d_D_trace_2 rfl (lv_at hl 2 rfl) ?_
  refine lv_iload_n hx hb d_D_trace_3 rfl (lv_at hl 3 rfl) ?_
  refine va_calli (rn_V (n := 3) (As := [.int (nI wk), .int (nI k), .int a]) (rest := []) (C := R_D) (T := F_D) (N := 36) (ci := 5) X hP hS (c_D_traceWithN B0 w md μ β wk k a hj hD hQ hwk hk hT) k_802 k_804 k_52 k_58 k_805 (by decide +kernel) rfl rfl ⟨Nat.le_of_ble_eq_true rfl, Nat.le_of_ble_eq_true rfl⟩ r36 rfl rfl hl.1 rfl (Nat.le_of_ble_eq_true rfl) d_D_trace_4 ⟨Nat.le_of_ble_eq_true rfl, Nat.le_of_ble_eq_true rfl⟩) hS (fun q _ h => h) (fun q h => h) (fun r w28 tS H locs ht hvm hw hB hz1 hk1 hS => ?_)
  have hP : fw_P (dC, dI) cls_ (AA s0) w28 H := by rw [← ht]; exact hB
  obtain ⟨rfl, hM8⟩ := hw
  refine lv_istore (lv' := [(4, .int (-1)), (0, .ref (md 36)), (1, .int (nI wk)), (2, .int (nI k)), (3, .int a)]) hx hb d_D_trace_7 hl (by decide) rfl (fun ls hl => ?_)
  refine lv_iload hx hb d_D_trace_9 (lv_at hl 0 rfl) ?_
  refine lv_if_ge (tgt := 16) hx hb d_D_trace_11 (by decide) (fun c2 => ?_) (fun c2 => ?_)
  · exact absurd c2 (by decide)
  · refine lv_iconst (v := (nI 0)) hx hb d_D_trace_14 (by decide) ?_
    exact W.iret (v := (nI 0)) hx hb hr (fun tS ht hW => ⟨⟨(nI 0), w28, rfl, hM8, mB_of ht hP⟩, hS.F ht⟩) hS.2.2 d_D_trace_15
set_option maxHeartbeats 4000000 in
set_option maxRecDepth 100000 in
theorem c_D_trace {l : Launch} {s0 : State} {dC : Nat → ClassId} {dI : Nat → Nat → Nat} {dA : Nat → ClassId} (B0 : BB s0 dC dI dA) (w : fw_W) (md : Nat → Nat) (μ : MS) (β : BS) (wk k : Nat) (a : Int32) (T : tv) (hj : Inj37 md) (hD : RD dA md w μ) (hQ : RQ β μ) (hwk : wk < 2) (hk : k < 12) (hT : b_tr β (wk * 12 + k) = some T) (hi : okI T.2.1.length a) : Met l y_D_trace [.code y_D_trace b_D_trace 5 (some .int)] ({ frames := 2, cells := 0, slots := 0, locals := 80 }) (mP s0 dC dI w [.ref (md 36), .int (nI wk), .int (nI k), .int a]) (mQi s0 dC dI (fun r w' => r = trI T a ∧ MB dA md w w' β 0)) 0 0 (AA s0) := by
  refine mt_ofW B0 (by decide) (Nat.le_of_ble_eq_true rfl) (fun p e s m args below meth c ls hargs X hin hl hP => ?_)
  have X9 := X
  obtain ⟨hx, hb, hr, hml, hown, hg, hK, hn, hE, hlocks, hA⟩ := X9
  have hS : va_S (AA s0) s.heap s.heap [] := va_S.rf
  have hl : lv_has ls 5 [(0, .ref (md 36)), (1, .int (nI wk)), (2, .int (nI k)), (3, .int a)] := hl
  obtain ⟨r36, r0, r1, r2, r3, r4, r5, r6, r7, r8, ⟨u, r9⟩, r10, r11, r12, r13, r14, r15, r23, r24, r25, r26, r27, r28, r29, r30, r31, r32, r33, r34⟩ := (id hD)
  refine lv_aload_n hx hb d_D_trace_0 rfl (lv_at hl 0 rfl) ?_
  refine lv_iload_n hx hb d_D_trace_1 rfl (lv_at hl 1 rfl) ?_
  refine lv_iload_n hx hb d_D_trace_2 rfl (lv_at hl 2 rfl) ?_
  refine lv_iload_n hx hb d_D_trace_3 rfl (lv_at hl 3 rfl) ?_
  refine va_calli (rn_V (n := 3) (As := [.int (nI wk), .int (nI k), .int a]) (rest := []) (C := R_D) (T := F_D) (N := 36) (ci := 5) X hP hS (c_D_traceWith B0 w md μ β wk k a T hj hD hQ hwk hk hT hi) k_802 k_804 k_52 k_58 k_805 (by decide +kernel) rfl rfl ⟨Nat.le_of_ble_eq_true rfl, Nat.le_of_ble_eq_true rfl⟩ r36 rfl rfl hl.1 rfl (Nat.le_of_ble_eq_true rfl) d_D_trace_4 ⟨Nat.le_of_ble_eq_true rfl, Nat.le_of_ble_eq_true rfl⟩) hS (fun q _ h => h) (fun q h => h) (fun r w29 tS H locs ht hvm hw hB hz1 hk1 hS => ?_)
  have hP : fw_P (dC, dI) cls_ (AA s0) w29 H := by rw [← ht]; exact hB
  obtain ⟨t, rfl, o3, hD1, ho8⟩ := hw
  have ho30 : OutD md w w29 := OutD.tr OutD.rf ho8
  obtain ⟨r36, r0, r1, r2, r3, r4, r5, r6, r7, r8, ⟨u, r9⟩, r10, r11, r12, r13, r14, r15, r23, r24, r25, r26, r27, r28, r29, r30, r31, r32, r33, r34⟩ := (id hD1)
  obtain ⟨t320, t2, t3, t4, t5, t6, t7⟩ := (id o3)
  refine lv_istore (lv' := [(4, .int (nI t)), (0, .ref (md 36)), (1, .int (nI wk)), (2, .int (nI k)), (3, .int a)]) hx hb d_D_trace_7 hl (by decide) rfl (fun ls hl => ?_)
  refine lv_iload hx hb d_D_trace_9 (lv_at hl 0 rfl) ?_
  refine lv_if_ge (tgt := 16) hx hb d_D_trace_11 (by decide) (fun c2 => ?_) (fun c2 => absurd (show (0 : Int32) ≤ nI t from Int32.not_lt.mp (nI_nn (by omega))) c2)
  rcases hi with rfl | ⟨j, hj9, rfl⟩
  · refine lv_iload_n hx hb d_D_trace_16 rfl (lv_at hl 4 rfl) ?_
    refine lv_if_ge (tgt := 30) hx hb d_D_trace_17 (by decide) (fun c3 => ?_) (fun c3 => ?_)
    · exact absurd c3 (by decide)
    · refine lv_aload_n hx hb d_D_trace_20 rfl (lv_at hl 1 rfl) ?_
      have r36 : w29 (md 36) = some (.inr (5, [.ref (md 0), .ref (md 1), .ref (md 2), .ref (md 3), .ref (md 4), .ref (md 5), .ref (md 6), .ref (md 7), .ref (md 8), .ref (md 9), .ref (md 10), .ref (md 11), .ref (md 12), .ref (md 13), .ref (md 14), .ref (md 15), .int (nI (m_cached μ)), .int (nI (m_ocached μ)), .int (m_circ μ), .int (m_ocirc μ), .int (nI 0), .int (nI (m_wkr μ)), .int (nI (m_ran μ).toNat), .ref (md 23), .ref (md 24), .ref (md 25), .ref (md 26), .ref (md 27), .ref (md 28), .ref (md 29), .ref (md 30), .ref (md 31), .ref (md 32), .ref (md 33), .ref (md 34), .int (nI (m_hgt μ))])) := r36
      refine va_get (D := (dC, dI)) (ci := 5) (v := .ref (md 4)) (C := R_D) (T := F_D) (N := 36) hx hb hg in_D hown hK (hP.one r36) 0 rfl rfl 4 (by decide) (hg _ k_595) (fun _ h9 => h9) rfl d_D_trace_21 ?_
      refine lv_iload hx hb d_D_trace_24 (lv_at hl 0 rfl) ?_
      have r4 : w29 (md 4) = some (.inl (dA 0, 320, .inl (nf (m_size μ)))) := r4
      refine fw_iald (tys := tyl dA) hx hb hK hP r4 0 rfl (j := t) t320 (by decide) d_D_trace_26 ?_
      refine lv_goto (tgt := 42) hx hb d_D_trace_27 (by decide) ?_
      exact W.iret (v := (nI ((m_size μ) t))) hx hb hr (fun tS ht hW => ⟨⟨(nI ((m_size μ) t)), w29, rfl, ⟨by unfold trI; rw [if_pos rfl, t4], dThr 0 μ, hD1, hQ, rfl, ho30⟩, mB_of ht hP⟩, hS.F ht⟩) hS.2.2 d_D_trace_42
  · obtain ⟨k1, k2, k3⟩ := t6 j _ (getD_at hj9)
    refine lv_iload_n hx hb d_D_trace_16 rfl (lv_at hl 4 rfl) ?_
    refine lv_if_ge (tgt := 30) hx hb d_D_trace_17 (by decide) (fun c3 => ?_) (fun c3 => absurd (show (0 : Int32) ≤ nI j from Int32.not_lt.mp (nI_nn (by omega))) c3)
    refine lv_aload_n hx hb d_D_trace_30 rfl (lv_at hl 1 rfl) ?_
    have r36 : w29 (md 36) = some (.inr (5, [.ref (md 0), .ref (md 1), .ref (md 2), .ref (md 3), .ref (md 4), .ref (md 5), .ref (md 6), .ref (md 7), .ref (md 8), .ref (md 9), .ref (md 10), .ref (md 11), .ref (md 12), .ref (md 13), .ref (md 14), .ref (md 15), .int (nI (m_cached μ)), .int (nI (m_ocached μ)), .int (m_circ μ), .int (m_ocirc μ), .int (nI 0), .int (nI (m_wkr μ)), .int (nI (m_ran μ).toNat), .ref (md 23), .ref (md 24), .ref (md 25), .ref (md 26), .ref (md 27), .ref (md 28), .ref (md 29), .ref (md 30), .ref (md 31), .ref (md 32), .ref (md 33), .ref (md 34), .int (nI (m_hgt μ))])) := r36
    refine va_get (D := (dC, dI)) (ci := 5) (v := .ref (md 5)) (C := R_D) (T := F_D) (N := 36) hx hb hg in_D hown hK (hP.one r36) 0 rfl rfl 5 (by decide) (hg _ k_596) (fun _ h9 => h9) rfl d_D_trace_31 ?_
    refine lv_iload hx hb d_D_trace_34 (lv_at hl 0 rfl) ?_
    refine lv_bipush (v := (nI 12)) hx hb d_D_trace_36 (by decide) ?_
    refine nu_imul (r := 12 * t) hx hb d_D_trace_38 (by omega) ?_
    refine lv_iload_n hx hb d_D_trace_39 rfl (lv_at hl 4 rfl) ?_
    refine nu_iadd (r := 12 * t + j) hx hb d_D_trace_40 (by omega) ?_
    have r5 : w29 (md 5) = some (.inl (dA 0, 3840, .inl (nf (m_keys μ)))) := r5
    refine fw_iald (tys := tyl dA) hx hb hK hP r5 0 rfl (j := 12 * t + j) (by omega) (by decide) d_D_trace_41 ?_
    exact W.iret (v := (nI ((m_keys μ) (12 * t + j)))) hx hb hr (fun tS ht hW => ⟨⟨(nI ((m_keys μ) (12 * t + j))), w29, rfl, ⟨by unfold trI; rw [if_neg (nI_ne_m1 (by omega)), nI_clamp (by omega), ← k1], dThr 0 μ, hD1, hQ, rfl, ho30⟩, mB_of ht hP⟩, hS.F ht⟩) hS.2.2 d_D_trace_42
set_option maxHeartbeats 4000000 in
set_option maxRecDepth 100000 in
theorem c_D_tracedX {l : Launch} {s0 : State} {dC : Nat → ClassId} {dI : Nat → Nat → Nat} {dA : Nat → ClassId} (B0 : BB s0 dC dI dA) (w : fw_W) (md : Nat → Nat) (μ : MS) (β : BS) (x1 x2 a : Int32) (hj : Inj37 md) (hD : RD dA md w μ) (hQ : RQ β μ) (ho : ¬ (okW x1 ∧ okK x2)) : Met l y_D_traced [.code y_D_traced b_D_traced 5 (some .long)] ({ frames := 2, cells := 0, slots := 0, locals := 80 }) (mP s0 dC dI w [.ref (md 36), .int x1, .int x2, .int a]) (mQl s0 dC dI (fun r w' => MB dA md w w' β 1)) 0 0 (AA s0) := by
  refine mt_ofW B0 (by decide) (Nat.le_of_ble_eq_true rfl) (fun p e s m args below meth c ls hargs X hin hl hP => ?_)
  have X9 := X
  obtain ⟨hx, hb, hr, hml, hown, hg, hK, hn, hE, hlocks, hA⟩ := X9
  have hS : va_S (AA s0) s.heap s.heap [] := va_S.rf
  have hl : lv_has ls 5 [(0, .ref (md 36)), (1, .int x1), (2, .int x2), (3, .int a)] := hl
  obtain ⟨r36, r0, r1, r2, r3, r4, r5, r6, r7, r8, ⟨u, r9⟩, r10, r11, r12, r13, r14, r15, r23, r24, r25, r26, r27, r28, r29, r30, r31, r32, r33, r34⟩ := (id hD)
  refine lv_aload_n hx hb d_D_traced_0 rfl (lv_at hl 0 rfl) ?_
  refine lv_iload_n hx hb d_D_traced_1 rfl (lv_at hl 1 rfl) ?_
  refine lv_iload_n hx hb d_D_traced_2 rfl (lv_at hl 2 rfl) ?_
  refine lv_iload_n hx hb d_D_traced_3 rfl (lv_at hl 3 rfl) ?_
  refine va_calli (rn_V (n := 3) (As := [.int x1, .int x2, .int a]) (rest := []) (C := R_D) (T := F_D) (N := 36) (ci := 5) X hP hS (c_D_traceWithX B0 w md μ β x1 x2 a hj hD hQ ho) k_802 k_804 k_52 k_58 k_805 (by decide +kernel) rfl rfl ⟨Nat.le_of_ble_eq_true rfl, Nat.le_of_ble_eq_true rfl⟩ r36 rfl rfl hl.1 rfl (Nat.le_of_ble_eq_true rfl) d_D_traced_4 ⟨Nat.le_of_ble_eq_true rfl, Nat.le_of_ble_eq_true rfl⟩) hS (fun q _ h => h) (fun q h => h) (fun r w31 tS H locs ht hvm hw hB hz1 hk1 hS => ?_)
  have hP : fw_P (dC, dI) cls_ (AA s0) w31 H := by rw [← ht]; exact hB
  obtain ⟨rfl, hM8⟩ := hw
  refine lv_istore (lv' := [(4, .int (-1)), (0, .ref (md 36)), (1, .int x1), (2, .int x2), (3, .int a)]) hx hb d_D_traced_7 hl (by decide) rfl (fun ls hl => ?_)
  refine lv_iload hx hb d_D_traced_9 (lv_at hl 0 rfl) ?_
  refine lv_if_ge (tgt := 16) hx hb d_D_traced_11 (by decide) (fun c2 => ?_) (fun c2 => ?_)
  · exact absurd c2 (by decide)
  · refine lv_lconst (v := 0) hx hb d_D_traced_14 (by decide) ?_
    exact W.lret (v := 0) hx hb hr (fun tS ht hW => ⟨⟨0, w31, rfl, hM8, mB_of ht hP⟩, hS.F ht⟩) hS.2.2 d_D_traced_15
set_option maxHeartbeats 4000000 in
set_option maxRecDepth 100000 in
theorem c_D_tracedN {l : Launch} {s0 : State} {dC : Nat → ClassId} {dI : Nat → Nat → Nat} {dA : Nat → ClassId} (B0 : BB s0 dC dI dA) (w : fw_W) (md : Nat → Nat) (μ : MS) (β : BS) (wk k : Nat) (a : Int32) (hj : Inj37 md) (hD : RD dA md w μ) (hQ : RQ β μ) (hwk : wk < 2) (hk : k < 12) (hT : ∀ T, b_tr β (wk * 12 + k) = some T → ¬ okI T.2.1.length a) : Met l y_D_traced [.code y_D_traced b_D_traced 5 (some .long)] ({ frames := 2, cells := 0, slots := 0, locals := 80 }) (mP s0 dC dI w [.ref (md 36), .int (nI wk), .int (nI k), .int a]) (mQl s0 dC dI (fun r w' => MB dA md w w' β 2)) 0 0 (AA s0) := by
  refine mt_ofW B0 (by decide) (Nat.le_of_ble_eq_true rfl) (fun p e s m args below meth c ls hargs X hin hl hP => ?_)
  have X9 := X
  obtain ⟨hx, hb, hr, hml, hown, hg, hK, hn, hE, hlocks, hA⟩ := X9
  have hS : va_S (AA s0) s.heap s.heap [] := va_S.rf
  have hl : lv_has ls 5 [(0, .ref (md 36)), (1, .int (nI wk)), (2, .int (nI k)), (3, .int a)] := hl
  obtain ⟨r36, r0, r1, r2, r3, r4, r5, r6, r7, r8, ⟨u, r9⟩, r10, r11, r12, r13, r14, r15, r23, r24, r25, r26, r27, r28, r29, r30, r31, r32, r33, r34⟩ := (id hD)
  refine lv_aload_n hx hb d_D_traced_0 rfl (lv_at hl 0 rfl) ?_
  refine lv_iload_n hx hb d_D_traced_1 rfl (lv_at hl 1 rfl) ?_
  refine lv_iload_n hx hb d_D_traced_2 rfl (lv_at hl 2 rfl) ?_
  refine lv_iload_n hx hb d_D_traced_3 rfl (lv_at hl 3 rfl) ?_
  refine va_calli (rn_V (n := 3) (As := [.int (nI wk), .int (nI k), .int a]) (rest := []) (C := R_D) (T := F_D) (N := 36) (ci := 5) X hP hS (c_D_traceWithN B0 w md μ β wk k a hj hD hQ hwk hk hT) k_802 k_804 k_52 k_58 k_805 (by decide +kernel) rfl rfl ⟨Nat.le_of_ble_eq_true rfl, Nat.le_of_ble_eq_true rfl⟩ r36 rfl rfl hl.1 rfl (Nat.le_of_ble_eq_true rfl) d_D_traced_4 ⟨Nat.le_of_ble_eq_true rfl, Nat.le_of_ble_eq_true rfl⟩) hS (fun q _ h => h) (fun q h => h) (fun r w32 tS H locs ht hvm hw hB hz1 hk1 hS => ?_)
  have hP : fw_P (dC, dI) cls_ (AA s0) w32 H := by rw [← ht]; exact hB
  obtain ⟨rfl, hM8⟩ := hw
  refine lv_istore (lv' := [(4, .int (-1)), (0, .ref (md 36)), (1, .int (nI wk)), (2, .int (nI k)), (3, .int a)]) hx hb d_D_traced_7 hl (by decide) rfl (fun ls hl => ?_)
  refine lv_iload hx hb d_D_traced_9 (lv_at hl 0 rfl) ?_
  refine lv_if_ge (tgt := 16) hx hb d_D_traced_11 (by decide) (fun c2 => ?_) (fun c2 => ?_)
  · exact absurd c2 (by decide)
  · refine lv_lconst (v := 0) hx hb d_D_traced_14 (by decide) ?_
    exact W.lret (v := 0) hx hb hr (fun tS ht hW => ⟨⟨0, w32, rfl, hM8, mB_of ht hP⟩, hS.F ht⟩) hS.2.2 d_D_traced_15
set_option maxHeartbeats 4000000 in
set_option maxRecDepth 100000 in
theorem c_D_traced {l : Launch} {s0 : State} {dC : Nat → ClassId} {dI : Nat → Nat → Nat} {dA : Nat → ClassId} (B0 : BB s0 dC dI dA) (w : fw_W) (md : Nat → Nat) (μ : MS) (β : BS) (wk k : Nat) (a : Int32) (T : tv) (hj : Inj37 md) (hD : RD dA md w μ) (hQ : RQ β μ) (hwk : wk < 2) (hk : k < 12) (hT : b_tr β (wk * 12 + k) = some T) (hi : okI T.2.1.length a) : Met l y_D_traced [.code y_D_traced b_D_traced 5 (some .long)] ({ frames := 2, cells := 0, slots := 0, locals := 80 }) (mP s0 dC dI w [.ref (md 36), .int (nI wk), .int (nI k), .int a]) (mQl s0 dC dI (fun r w' => r = trL T a ∧ MB dA md w w' β 0)) 0 0 (AA s0) := by
  refine mt_ofW B0 (by decide) (Nat.le_of_ble_eq_true rfl) (fun p e s m args below meth c ls hargs X hin hl hP => ?_)
  have X9 := X
  obtain ⟨hx, hb, hr, hml, hown, hg, hK, hn, hE, hlocks, hA⟩ := X9
  have hS : va_S (AA s0) s.heap s.heap [] := va_S.rf
  have hl : lv_has ls 5 [(0, .ref (md 36)), (1, .int (nI wk)), (2, .int (nI k)), (3, .int a)] := hl
  obtain ⟨r36, r0, r1, r2, r3, r4, r5, r6, r7, r8, ⟨u, r9⟩, r10, r11, r12, r13, r14, r15, r23, r24, r25, r26, r27, r28, r29, r30, r31, r32, r33, r34⟩ := (id hD)
  refine lv_aload_n hx hb d_D_traced_0 rfl (lv_at hl 0 rfl) ?_
  refine lv_iload_n hx hb d_D_traced_1 rfl (lv_at hl 1 rfl) ?_
  refine lv_iload_n hx hb d_D_traced_2 rfl (lv_at hl 2 rfl) ?_
  refine lv_iload_n hx hb d_D_traced_3 rfl (lv_at hl 3 rfl) ?_
  refine va_calli (rn_V (n := 3) (As := [.int (nI wk), .int (nI k), .int a]) (rest := []) (C := R_D) (T := F_D) (N := 36) (ci := 5) X hP hS (c_D_traceWith B0 w md μ β wk k a T hj hD hQ hwk hk hT hi) k_802 k_804 k_52 k_58 k_805 (by decide +kernel) rfl rfl ⟨Nat.le_of_ble_eq_true rfl, Nat.le_of_ble_eq_true rfl⟩ r36 rfl rfl hl.1 rfl (Nat.le_of_ble_eq_true rfl) d_D_traced_4 ⟨Nat.le_of_ble_eq_true rfl, Nat.le_of_ble_eq_true rfl⟩) hS (fun q _ h => h) (fun q h => h) (fun r w33 tS H locs ht hvm hw hB hz1 hk1 hS => ?_)
  have hP : fw_P (dC, dI) cls_ (AA s0) w33 H := by rw [← ht]; exact hB
  obtain ⟨t, rfl, o3, hD1, ho8⟩ := hw
  have ho34 : OutD md w w33 := OutD.tr OutD.rf ho8
  obtain ⟨r36, r0, r1, r2, r3, r4, r5, r6, r7, r8, ⟨u, r9⟩, r10, r11, r12, r13, r14, r15, r23, r24, r25, r26, r27, r28, r29, r30, r31, r32, r33, r34⟩ := (id hD1)
  obtain ⟨t320, t2, t3, t4, t5, t6, t7⟩ := (id o3)
  refine lv_istore (lv' := [(4, .int (nI t)), (0, .ref (md 36)), (1, .int (nI wk)), (2, .int (nI k)), (3, .int a)]) hx hb d_D_traced_7 hl (by decide) rfl (fun ls hl => ?_)
  refine lv_iload hx hb d_D_traced_9 (lv_at hl 0 rfl) ?_
  refine lv_if_ge (tgt := 16) hx hb d_D_traced_11 (by decide) (fun c2 => ?_) (fun c2 => absurd (show (0 : Int32) ≤ nI t from Int32.not_lt.mp (nI_nn (by omega))) c2)
  rcases hi with rfl | ⟨j, hj9, rfl⟩
  · refine lv_iload_n hx hb d_D_traced_16 rfl (lv_at hl 4 rfl) ?_
    refine lv_if_ge (tgt := 30) hx hb d_D_traced_17 (by decide) (fun c3 => ?_) (fun c3 => ?_)
    · exact absurd c3 (by decide)
    · refine lv_aload_n hx hb d_D_traced_20 rfl (lv_at hl 1 rfl) ?_
      have r36 : w33 (md 36) = some (.inr (5, [.ref (md 0), .ref (md 1), .ref (md 2), .ref (md 3), .ref (md 4), .ref (md 5), .ref (md 6), .ref (md 7), .ref (md 8), .ref (md 9), .ref (md 10), .ref (md 11), .ref (md 12), .ref (md 13), .ref (md 14), .ref (md 15), .int (nI (m_cached μ)), .int (nI (m_ocached μ)), .int (m_circ μ), .int (m_ocirc μ), .int (nI 0), .int (nI (m_wkr μ)), .int (nI (m_ran μ).toNat), .ref (md 23), .ref (md 24), .ref (md 25), .ref (md 26), .ref (md 27), .ref (md 28), .ref (md 29), .ref (md 30), .ref (md 31), .ref (md 32), .ref (md 33), .ref (md 34), .int (nI (m_hgt μ))])) := r36
      refine va_get (D := (dC, dI)) (ci := 5) (v := .ref (md 8)) (C := R_D) (T := F_D) (N := 36) hx hb hg in_D hown hK (hP.one r36) 0 rfl rfl 8 (by decide) (hg _ k_599) (fun _ h9 => h9) rfl d_D_traced_21 ?_
      refine lv_iload hx hb d_D_traced_24 (lv_at hl 0 rfl) ?_
      have r8 : w33 (md 8) = some (.inl (dA 1, 320, .inr (.inl (m_came μ)))) := r8
      refine fw_lald (tys := tyl dA) hx hb hK hP r8 1 rfl (j := t) t320 (by decide) d_D_traced_26 ?_
      refine lv_goto (tgt := 42) hx hb d_D_traced_27 (by decide) ?_
      exact W.lret (v := (m_came μ) t) hx hb hr (fun tS ht hW => ⟨⟨(m_came μ) t, w33, rfl, ⟨by unfold trL; rw [if_pos rfl]; exact t7, dThr 0 μ, hD1, hQ, rfl, ho34⟩, mB_of ht hP⟩, hS.F ht⟩) hS.2.2 d_D_traced_42
  · obtain ⟨k1, k2, k3⟩ := t6 j _ (getD_at hj9)
    refine lv_iload_n hx hb d_D_traced_16 rfl (lv_at hl 4 rfl) ?_
    refine lv_if_ge (tgt := 30) hx hb d_D_traced_17 (by decide) (fun c3 => ?_) (fun c3 => absurd (show (0 : Int32) ≤ nI j from Int32.not_lt.mp (nI_nn (by omega))) c3)
    refine lv_aload_n hx hb d_D_traced_30 rfl (lv_at hl 1 rfl) ?_
    have r36 : w33 (md 36) = some (.inr (5, [.ref (md 0), .ref (md 1), .ref (md 2), .ref (md 3), .ref (md 4), .ref (md 5), .ref (md 6), .ref (md 7), .ref (md 8), .ref (md 9), .ref (md 10), .ref (md 11), .ref (md 12), .ref (md 13), .ref (md 14), .ref (md 15), .int (nI (m_cached μ)), .int (nI (m_ocached μ)), .int (m_circ μ), .int (m_ocirc μ), .int (nI 0), .int (nI (m_wkr μ)), .int (nI (m_ran μ).toNat), .ref (md 23), .ref (md 24), .ref (md 25), .ref (md 26), .ref (md 27), .ref (md 28), .ref (md 29), .ref (md 30), .ref (md 31), .ref (md 32), .ref (md 33), .ref (md 34), .int (nI (m_hgt μ))])) := r36
    refine va_get (D := (dC, dI)) (ci := 5) (v := .ref (md 7)) (C := R_D) (T := F_D) (N := 36) hx hb hg in_D hown hK (hP.one r36) 0 rfl rfl 7 (by decide) (hg _ k_598) (fun _ h9 => h9) rfl d_D_traced_31 ?_
    refine lv_iload hx hb d_D_traced_34 (lv_at hl 0 rfl) ?_
    refine lv_bipush (v := (nI 12)) hx hb d_D_traced_36 (by decide) ?_
    refine nu_imul (r := 12 * t) hx hb d_D_traced_38 (by omega) ?_
    refine lv_iload_n hx hb d_D_traced_39 rfl (lv_at hl 4 rfl) ?_
    refine nu_iadd (r := 12 * t + j) hx hb d_D_traced_40 (by omega) ?_
    have r7 : w33 (md 7) = some (.inl (dA 1, 3840, .inr (.inl (m_got μ)))) := r7
    refine fw_lald (tys := tyl dA) hx hb hK hP r7 1 rfl (j := 12 * t + j) (by omega) (by decide) d_D_traced_41 ?_
    exact W.lret (v := (m_got μ) (12 * t + j)) hx hb hr (fun tS ht hW => ⟨⟨(m_got μ) (12 * t + j), w33, rfl, ⟨by unfold trL; rw [if_neg (nI_ne_m1 (by omega)), nI_clamp (by omega)]; exact k3, dThr 0 μ, hD1, hQ, rfl, ho34⟩, mB_of ht hP⟩, hS.F ht⟩) hS.2.2 d_D_traced_42
set_option maxHeartbeats 4000000 in
set_option maxRecDepth 100000 in
theorem c_D_cachedX {l : Launch} {s0 : State} {dC : Nat → ClassId} {dI : Nat → Nat → Nat} {dA : Nat → ClassId} (B0 : BB s0 dC dI dA) (w : fw_W) (md : Nat → Nat) (μ : MS) (β : BS) (a : Int32) (hj : Inj37 md) (hD : RD dA md w μ) (hQ : RQ β μ) (ho : ¬ ∃ j, j < (b_cl β).length ∧ a = nI j) : Met l y_D_cached [.code y_D_cached b_D_cached 2 (some .int)] ({ frames := 1, cells := 0, slots := 0, locals := 40 }) (mP s0 dC dI w [.ref (md 36), .int a]) (mQi s0 dC dI (fun r w' => MB dA md w w' β 1)) 0 0 (AA s0) := by
  have hc16 := hQ.c16
  have hlen : (b_cl β).length = m_cached μ := hQ.2.1.2.2.1
  refine mt_ofW B0 (by decide) (Nat.le_of_ble_eq_true rfl) (fun p e s m args below meth c ls hargs X hin hl hP => ?_)
  have X9 := X
  obtain ⟨hx, hb, hr, hml, hown, hg, hK, hn, hE, hlocks, hA⟩ := X9
  have hS : va_S (AA s0) s.heap s.heap [] := va_S.rf
  have hl : lv_has ls 2 [(0, .ref (md 36)), (1, .int a)] := hl
  obtain ⟨r36, r0, r1, r2, r3, r4, r5, r6, r7, r8, ⟨u, r9⟩, r10, r11, r12, r13, r14, r15, r23, r24, r25, r26, r27, r28, r29, r30, r31, r32, r33, r34⟩ := (id hD)
  refine lv_aload_n hx hb d_D_cached_0 rfl (lv_at hl 0 rfl) ?_
  refine lv_iload_n hx hb d_D_cached_1 rfl (lv_at hl 1 rfl) ?_
  refine lv_iconst (v := (nI 0)) hx hb d_D_cached_2 (by decide) ?_
  refine lv_aload_n hx hb d_D_cached_3 rfl (lv_at hl 0 rfl) ?_
  refine va_get (D := (dC, dI)) (ci := 5) (v := .int (nI (m_cached μ))) (C := R_D) (T := F_D) (N := 36) hx hb hg in_D hown hK (hP.one r36) 0 rfl rfl 16 (by decide) (hg _ k_607) (fun _ h9 => h9) rfl d_D_cached_4 ?_
  refine lv_iconst (v := (nI 1)) hx hb d_D_cached_7 (by decide) ?_
  refine lv_isub hx hb d_D_cached_8 ?_
  refine va_calli (rn_S (n := 3) (As := [.int a, .int (nI 0), .int ((nI (m_cached μ)) - (nI 1))]) (rest := [.ref (md 36)]) X hP hS (c_D_in B0 w a (nI 0) (nI (m_cached μ) - nI 1)) k_708 k_709 k_58 k_710 (by decide +kernel) rfl rfl ⟨Nat.le_of_ble_eq_true rfl, Nat.le_of_ble_eq_true rfl⟩ rfl hl.1 rfl (Nat.le_of_ble_eq_true rfl) d_D_cached_9 ⟨Nat.le_of_ble_eq_true rfl, Nat.le_of_ble_eq_true rfl⟩) hS (fun q _ h => h) (fun q h => h) (fun r w35 tS H locs ht hvm hw hB hz1 hk1 hS => ?_)
  have hP : fw_P (dC, dI) cls_ (AA s0) w35 H := by rw [← ht]; exact hB
  obtain ⟨e9, b1, rfl, ib1⟩ := hw
  rw [e9] at hP
  have hv_b1 : b1 = false := bF ib1 (fun h9 => ho (by rw [hlen]; exact (in_c (by omega) a).mp h9))
  subst hv_b1
  refine nu_ifeq (tgt := 19) hx hb d_D_cached_12 (by decide) (fun c0 => ?_) (fun c0 => ?_)
  · refine lv_iconst (v := (nI 1)) hx hb d_D_cached_19 (by decide) ?_
    refine fw_put (D := (dC, dI)) (ci := 5) (v := .int (nI 1)) (ty := .int) (C := R_D) (T := F_D) (N := 36) hx hb hg in_D ft_D ft_D_ok n_D hown hK hP hS r36 rfl 20 (by decide) (hg _ k_611) (fun _ h9 => h9) rfl (by decide +kernel) rfl rfl (Nat.le_of_ble_eq_true rfl) d_D_cached_20 (fun w36 H locs ew37 hP hS => ?_)
    have r36 : w36 (md 36) = some (.inr (5, [.ref (md 0), .ref (md 1), .ref (md 2), .ref (md 3), .ref (md 4), .ref (md 5), .ref (md 6), .ref (md 7), .ref (md 8), .ref (md 9), .ref (md 10), .ref (md 11), .ref (md 12), .ref (md 13), .ref (md 14), .ref (md 15), .int (nI (m_cached μ)), .int (nI (m_ocached μ)), .int (m_circ μ), .int (m_ocirc μ), .int (nI 1), .int (nI (m_wkr μ)), .int (nI (m_ran μ).toNat), .ref (md 23), .ref (md 24), .ref (md 25), .ref (md 26), .ref (md 27), .ref (md 28), .ref (md 29), .ref (md 30), .ref (md 31), .ref (md 32), .ref (md 33), .ref (md 34), .int (nI (m_hgt μ))])) := by rw [ew37]; exact va_up_self _ _ _
    have ho38 : OutD md w w36 := OutD.up OutD.rf ew37 (by decide)
    refine lv_aload_n hx hb d_D_cached_23 rfl (lv_at hl 0 rfl) ?_
    refine va_get (D := (dC, dI)) (ci := 5) (v := .int (nI 1)) (C := R_D) (T := F_D) (N := 36) hx hb hg in_D hown hK (hP.one r36) 0 rfl rfl 20 (by decide) (hg _ k_611) (fun _ h9 => h9) rfl d_D_cached_24 ?_
    refine nu_zle (tgt := 34) hx hb (by omega) d_D_cached_27 (by decide) (fun c1 => ?_) (fun c1 => ?_)
    · exact absurd c1 (by decide)
    · refine lv_iconst (v := (nI 0)) hx hb d_D_cached_30 (by decide) ?_
      refine lv_goto (tgt := 45) hx hb d_D_cached_31 (by decide) ?_
      have hk39 : ∀ i, U37 i → i ∉ [36] → w36 (md i) = w (md i) := fun i hi hn => by rw [ew37, va_up_ne _ _ (hj.ne hi (j := 36) (by decide) (fun e9 => hn (by rw [e9]; decide)))]
      exact W.iret (v := (nI 0)) hx hb hr (fun tS ht hW => ⟨⟨(nI 0), w36, rfl, ⟨dThr 1 μ, ⟨r36, (hk39 0 (by decide) (by decide)).trans r0, (hk39 1 (by decide) (by decide)).trans r1, (hk39 2 (by decide) (by decide)).trans r2, (hk39 3 (by decide) (by decide)).trans r3, (hk39 4 (by decide) (by decide)).trans r4, (hk39 5 (by decide) (by decide)).trans r5, (hk39 6 (by decide) (by decide)).trans r6, (hk39 7 (by decide) (by decide)).trans r7, (hk39 8 (by decide) (by decide)).trans r8, ⟨_, (hk39 9 (by decide) (by decide)).trans r9⟩, (hk39 10 (by decide) (by decide)).trans r10, (hk39 11 (by decide) (by decide)).trans r11, (hk39 12 (by decide) (by decide)).trans r12, (hk39 13 (by decide) (by decide)).trans r13, (hk39 14 (by decide) (by decide)).trans r14, (hk39 15 (by decide) (by decide)).trans r15, (hk39 23 (by decide) (by decide)).trans r23, (hk39 24 (by decide) (by decide)).trans r24, (hk39 25 (by decide) (by decide)).trans r25, (hk39 26 (by decide) (by decide)).trans r26, (hk39 27 (by decide) (by decide)).trans r27, (hk39 28 (by decide) (by decide)).trans r28, (hk39 29 (by decide) (by decide)).trans r29, (hk39 30 (by decide) (by decide)).trans r30, (hk39 31 (by decide) (by decide)).trans r31, (hk39 32 (by decide) (by decide)).trans r32, (hk39 33 (by decide) (by decide)).trans r33, (hk39 34 (by decide) (by decide)).trans r34⟩, hQ, rfl, ho38⟩, mB_of ht hP⟩, hS.F ht⟩) hS.2.2 d_D_cached_45
  · exact absurd c0 (by decide)
set_option maxHeartbeats 4000000 in
set_option maxRecDepth 100000 in
theorem c_D_cached {l : Launch} {s0 : State} {dC : Nat → ClassId} {dI : Nat → Nat → Nat} {dA : Nat → ClassId} (B0 : BB s0 dC dI dA) (w : fw_W) (md : Nat → Nat) (μ : MS) (β : BS) (j : Nat) (T : tv) (hj : Inj37 md) (hD : RD dA md w μ) (hQ : RQ β μ) (hT : (b_cl β)[j]? = some T) : Met l y_D_cached [.code y_D_cached b_D_cached 2 (some .int)] ({ frames := 1, cells := 0, slots := 0, locals := 40 }) (mP s0 dC dI w [.ref (md 36), .int (nI j)]) (mQi s0 dC dI (fun r w' => r = nI T.1 ∧ MB dA md w w' β 0)) 0 0 (AA s0) := by
  have hc16 := hQ.c16
  have hlen : (b_cl β).length = m_cached μ := hQ.2.1.2.2.1
  have hS9 : SlT μ (m_cch μ j) T := hQ.2.1.2.2.2 j T hT
  have s320 := hS9.1
  have hown9 := hS9.2.1
  have hjc : j < m_cached μ := by rw [← hlen]; exact (List.getElem?_eq_some_iff.mp hT).1
  refine mt_ofW B0 (by decide) (Nat.le_of_ble_eq_true rfl) (fun p e s m args below meth c ls hargs X hin hl hP => ?_)
  have X9 := X
  obtain ⟨hx, hb, hr, hml, hown, hg, hK, hn, hE, hlocks, hA⟩ := X9
  have hS : va_S (AA s0) s.heap s.heap [] := va_S.rf
  have hl : lv_has ls 2 [(0, .ref (md 36)), (1, .int (nI j))] := hl
  obtain ⟨r36, r0, r1, r2, r3, r4, r5, r6, r7, r8, ⟨u, r9⟩, r10, r11, r12, r13, r14, r15, r23, r24, r25, r26, r27, r28, r29, r30, r31, r32, r33, r34⟩ := (id hD)
  refine lv_aload_n hx hb d_D_cached_0 rfl (lv_at hl 0 rfl) ?_
  refine lv_iload_n hx hb d_D_cached_1 rfl (lv_at hl 1 rfl) ?_
  refine lv_iconst (v := (nI 0)) hx hb d_D_cached_2 (by decide) ?_
  refine lv_aload_n hx hb d_D_cached_3 rfl (lv_at hl 0 rfl) ?_
  refine va_get (D := (dC, dI)) (ci := 5) (v := .int (nI (m_cached μ))) (C := R_D) (T := F_D) (N := 36) hx hb hg in_D hown hK (hP.one r36) 0 rfl rfl 16 (by decide) (hg _ k_607) (fun _ h9 => h9) rfl d_D_cached_4 ?_
  refine lv_iconst (v := (nI 1)) hx hb d_D_cached_7 (by decide) ?_
  refine lv_isub hx hb d_D_cached_8 ?_
  refine va_calli (rn_S (n := 3) (As := [.int (nI j), .int (nI 0), .int ((nI (m_cached μ)) - (nI 1))]) (rest := [.ref (md 36)]) X hP hS (c_D_in B0 w (nI j) (nI 0) (nI (m_cached μ) - nI 1)) k_708 k_709 k_58 k_710 (by decide +kernel) rfl rfl ⟨Nat.le_of_ble_eq_true rfl, Nat.le_of_ble_eq_true rfl⟩ rfl hl.1 rfl (Nat.le_of_ble_eq_true rfl) d_D_cached_9 ⟨Nat.le_of_ble_eq_true rfl, Nat.le_of_ble_eq_true rfl⟩) hS (fun q _ h => h) (fun q h => h) (fun r w40 tS H locs ht hvm hw hB hz1 hk1 hS => ?_)
  have hP : fw_P (dC, dI) cls_ (AA s0) w40 H := by rw [← ht]; exact hB
  obtain ⟨e9, b1, rfl, ib1⟩ := hw
  rw [e9] at hP
  have hv_b1 : b1 = true := ib1.mpr ((in_c (by omega) _).mpr ⟨j, hjc, rfl⟩)
  subst hv_b1
  refine nu_ifeq (tgt := 19) hx hb d_D_cached_12 (by decide) (fun c0 => ?_) (fun c0 => ?_)
  · exact absurd c0 (by decide)
  · refine lv_iconst (v := (nI 0)) hx hb d_D_cached_15 (by decide) ?_
    refine lv_goto (tgt := 20) hx hb d_D_cached_16 (by decide) ?_
    refine fw_put (D := (dC, dI)) (ci := 5) (v := .int (nI 0)) (ty := .int) (C := R_D) (T := F_D) (N := 36) hx hb hg in_D ft_D ft_D_ok n_D hown hK hP hS r36 rfl 20 (by decide) (hg _ k_611) (fun _ h9 => h9) rfl (by decide +kernel) rfl rfl (Nat.le_of_ble_eq_true rfl) d_D_cached_20 (fun w41 H locs ew42 hP hS => ?_)
    have r36 : w41 (md 36) = some (.inr (5, [.ref (md 0), .ref (md 1), .ref (md 2), .ref (md 3), .ref (md 4), .ref (md 5), .ref (md 6), .ref (md 7), .ref (md 8), .ref (md 9), .ref (md 10), .ref (md 11), .ref (md 12), .ref (md 13), .ref (md 14), .ref (md 15), .int (nI (m_cached μ)), .int (nI (m_ocached μ)), .int (m_circ μ), .int (m_ocirc μ), .int (nI 0), .int (nI (m_wkr μ)), .int (nI (m_ran μ).toNat), .ref (md 23), .ref (md 24), .ref (md 25), .ref (md 26), .ref (md 27), .ref (md 28), .ref (md 29), .ref (md 30), .ref (md 31), .ref (md 32), .ref (md 33), .ref (md 34), .int (nI (m_hgt μ))])) := by rw [ew42]; exact va_up_self _ _ _
    have ho43 : OutD md w w41 := OutD.up OutD.rf ew42 (by decide)
    refine lv_aload_n hx hb d_D_cached_23 rfl (lv_at hl 0 rfl) ?_
    refine va_get (D := (dC, dI)) (ci := 5) (v := .int (nI 0)) (C := R_D) (T := F_D) (N := 36) hx hb hg in_D hown hK (hP.one r36) 0 rfl rfl 20 (by decide) (hg _ k_611) (fun _ h9 => h9) rfl d_D_cached_24 ?_
    refine nu_zle (tgt := 34) hx hb (by omega) d_D_cached_27 (by decide) (fun c1 => ?_) (fun c1 => ?_)
    · refine lv_aload_n hx hb d_D_cached_34 rfl (lv_at hl 0 rfl) ?_
      refine va_get (D := (dC, dI)) (ci := 5) (v := .ref (md 6)) (C := R_D) (T := F_D) (N := 36) hx hb hg in_D hown hK (hP.one r36) 0 rfl rfl 6 (by decide) (hg _ k_597) (fun _ h9 => h9) rfl d_D_cached_35 ?_
      refine lv_aload_n hx hb d_D_cached_38 rfl (lv_at hl 0 rfl) ?_
      refine va_get (D := (dC, dI)) (ci := 5) (v := .ref (md 12)) (C := R_D) (T := F_D) (N := 36) hx hb hg in_D hown hK (hP.one r36) 0 rfl rfl 12 (by decide) (hg _ k_603) (fun _ h9 => h9) rfl d_D_cached_39 ?_
      refine lv_iload_n hx hb d_D_cached_42 rfl (lv_at hl 1 rfl) ?_
      have r12 : w41 (md 12) = some (.inl (dA 0, 17, .inl (nf (m_cch μ)))) := by rw [ew42, va_up_ne _ _ (hj.ne (i := 12) (j := 36) (by decide) (by decide) (by decide))]; exact r12
      refine fw_iald (tys := tyl dA) hx hb hK hP r12 0 rfl (j := j) (by omega) (by decide) d_D_cached_43 ?_
      have r6 : w41 (md 6) = some (.inl (dA 0, 320, .inl (nf (m_own μ)))) := by rw [ew42, va_up_ne _ _ (hj.ne (i := 6) (j := 36) (by decide) (by decide) (by decide))]; exact r6
      refine fw_iald (tys := tyl dA) hx hb hK hP r6 0 rfl (j := (m_cch μ) j) (by omega) (by decide) d_D_cached_44 ?_
      have hk44 : ∀ i, U37 i → i ∉ [36] → w41 (md i) = w (md i) := fun i hi hn => by rw [ew42, va_up_ne _ _ (hj.ne hi (j := 36) (by decide) (fun e9 => hn (by rw [e9]; decide)))]
      exact W.iret (v := (nI ((m_own μ) ((m_cch μ) j)))) hx hb hr (fun tS ht hW => ⟨⟨(nI ((m_own μ) ((m_cch μ) j))), w41, rfl, ⟨by rw [← hown9], dThr 0 μ, ⟨r36, (hk44 0 (by decide) (by decide)).trans r0, (hk44 1 (by decide) (by decide)).trans r1, (hk44 2 (by decide) (by decide)).trans r2, (hk44 3 (by decide) (by decide)).trans r3, (hk44 4 (by decide) (by decide)).trans r4, (hk44 5 (by decide) (by decide)).trans r5, r6, (hk44 7 (by decide) (by decide)).trans r7, (hk44 8 (by decide) (by decide)).trans r8, ⟨_, (hk44 9 (by decide) (by decide)).trans r9⟩, (hk44 10 (by decide) (by decide)).trans r10, (hk44 11 (by decide) (by decide)).trans r11, r12, (hk44 13 (by decide) (by decide)).trans r13, (hk44 14 (by decide) (by decide)).trans r14, (hk44 15 (by decide) (by decide)).trans r15, (hk44 23 (by decide) (by decide)).trans r23, (hk44 24 (by decide) (by decide)).trans r24, (hk44 25 (by decide) (by decide)).trans r25, (hk44 26 (by decide) (by decide)).trans r26, (hk44 27 (by decide) (by decide)).trans r27, (hk44 28 (by decide) (by decide)).trans r28, (hk44 29 (by decide) (by decide)).trans r29, (hk44 30 (by decide) (by decide)).trans r30, (hk44 31 (by decide) (by decide)).trans r31, (hk44 32 (by decide) (by decide)).trans r32, (hk44 33 (by decide) (by decide)).trans r33, (hk44 34 (by decide) (by decide)).trans r34⟩, hQ, rfl, ho43⟩, mB_of ht hP⟩, hS.F ht⟩) hS.2.2 d_D_cached_45
    · exact absurd c1 (by decide)
set_option maxHeartbeats 4000000 in
set_option maxRecDepth 100000 in
theorem c_D_countNo {l : Launch} {s0 : State} {dC : Nat → ClassId} {dI : Nat → Nat → Nat} {dA : Nat → ClassId} (B0 : BB s0 dC dI dA) (w : fw_W) (md : Nat → Nat) (μ : MS) (β : BS) (a : Int32) (hj : Inj37 md) (hD : RD dA md w μ) (hQ : RQ β μ) (ho : ¬ ∃ j, j < 11 ∧ a = nI j) : Met l y_D_count [.code y_D_count b_D_count 2 (some .int)] ({ frames := 1, cells := 0, slots := 0, locals := 40 }) (mP s0 dC dI w [.ref (md 36), .int a]) (mQi s0 dC dI (fun r w' => r = -1 ∧ MB dA md w w' β 0)) 0 0 (AA s0) := by
  refine mt_ofW B0 (by decide) (Nat.le_of_ble_eq_true rfl) (fun p e s m args below meth c ls hargs X hin hl hP => ?_)
  have X9 := X
  obtain ⟨hx, hb, hr, hml, hown, hg, hK, hn, hE, hlocks, hA⟩ := X9
  have hS : va_S (AA s0) s.heap s.heap [] := va_S.rf
  have hl : lv_has ls 2 [(0, .ref (md 36)), (1, .int a)] := hl
  obtain ⟨r36, r0, r1, r2, r3, r4, r5, r6, r7, r8, ⟨u, r9⟩, r10, r11, r12, r13, r14, r15, r23, r24, r25, r26, r27, r28, r29, r30, r31, r32, r33, r34⟩ := (id hD)
  by_cases h0 : a < 0
  · have n7 : a ≠ nI 7 := fun e9 => absurd (e9 ▸ h0) (nI_nn (by omega))
    have n8 : a ≠ nI 8 := fun e9 => absurd (e9 ▸ h0) (nI_nn (by omega))
    have n9 : a ≠ nI 9 := fun e9 => absurd (e9 ▸ h0) (nI_nn (by omega))
    have n10 : a ≠ nI 10 := fun e9 => absurd (e9 ▸ h0) (nI_nn (by omega))
    refine lv_aload_n hx hb d_D_count_0 rfl (lv_at hl 0 rfl) ?_
    refine lv_iconst (v := (nI 0)) hx hb d_D_count_1 (by decide) ?_
    refine fw_put (D := (dC, dI)) (ci := 5) (v := .int (nI 0)) (ty := .int) (C := R_D) (T := F_D) (N := 36) hx hb hg in_D ft_D ft_D_ok n_D hown hK hP hS r36 rfl 20 (by decide) (hg _ k_611) (fun _ h9 => h9) rfl (by decide +kernel) rfl rfl (Nat.le_of_ble_eq_true rfl) d_D_count_2 (fun w45 H locs ew46 hP hS => ?_)
    have r36 : w45 (md 36) = some (.inr (5, [.ref (md 0), .ref (md 1), .ref (md 2), .ref (md 3), .ref (md 4), .ref (md 5), .ref (md 6), .ref (md 7), .ref (md 8), .ref (md 9), .ref (md 10), .ref (md 11), .ref (md 12), .ref (md 13), .ref (md 14), .ref (md 15), .int (nI (m_cached μ)), .int (nI (m_ocached μ)), .int (m_circ μ), .int (m_ocirc μ), .int (nI 0), .int (nI (m_wkr μ)), .int (nI (m_ran μ).toNat), .ref (md 23), .ref (md 24), .ref (md 25), .ref (md 26), .ref (md 27), .ref (md 28), .ref (md 29), .ref (md 30), .ref (md 31), .ref (md 32), .ref (md 33), .ref (md 34), .int (nI (m_hgt μ))])) := by rw [ew46]; exact va_up_self _ _ _
    have ho47 : OutD md w w45 := OutD.up OutD.rf ew46 (by decide)
    refine lv_iload_n hx hb d_D_count_5 rfl (lv_at hl 1 rfl) ?_
    refine lv_if_lt (tgt := 22) hx hb d_D_count_6 (by decide) (fun d0 => ?_) (fun d0 => ?_)
    · refine lv_iload_n hx hb d_D_count_22 rfl (lv_at hl 1 rfl) ?_
      refine lv_bipush (v := (nI 7)) hx hb d_D_count_23 (by decide) ?_
      refine lv_icmp_ne (tgt := 35) hx hb d_D_count_25 (by decide) (fun d1 => ?_) (fun d1 => ?_)
      · refine lv_iload_n hx hb d_D_count_35 rfl (lv_at hl 1 rfl) ?_
        refine lv_bipush (v := (nI 8)) hx hb d_D_count_36 (by decide) ?_
        refine lv_icmp_eq (tgt := 47) hx hb d_D_count_38 (by decide) (fun d2 => ?_) (fun d2 => ?_)
        · exact absurd d2 n8
        · refine lv_iload_n hx hb d_D_count_41 rfl (lv_at hl 1 rfl) ?_
          refine lv_bipush (v := (nI 9)) hx hb d_D_count_42 (by decide) ?_
          refine lv_icmp_ne (tgt := 58) hx hb d_D_count_44 (by decide) (fun d3 => ?_) (fun d3 => ?_)
          · refine lv_iload_n hx hb d_D_count_58 rfl (lv_at hl 1 rfl) ?_
            refine lv_bipush (v := (nI 10)) hx hb d_D_count_59 (by decide) ?_
            refine lv_icmp_ne (tgt := 71) hx hb d_D_count_61 (by decide) (fun d4 => ?_) (fun d4 => ?_)
            · refine lv_iconst (v := (-1)) hx hb d_D_count_71 (by decide) ?_
              have hk48 : ∀ i, U37 i → i ∉ [36] → w45 (md i) = w (md i) := fun i hi hn => by rw [ew46, va_up_ne _ _ (hj.ne hi (j := 36) (by decide) (fun e9 => hn (by rw [e9]; decide)))]
              exact W.iret (v := (-1)) hx hb hr (fun tS ht hW => ⟨⟨(-1), w45, rfl, ⟨rfl, dThr 0 μ, ⟨r36, (hk48 0 (by decide) (by decide)).trans r0, (hk48 1 (by decide) (by decide)).trans r1, (hk48 2 (by decide) (by decide)).trans r2, (hk48 3 (by decide) (by decide)).trans r3, (hk48 4 (by decide) (by decide)).trans r4, (hk48 5 (by decide) (by decide)).trans r5, (hk48 6 (by decide) (by decide)).trans r6, (hk48 7 (by decide) (by decide)).trans r7, (hk48 8 (by decide) (by decide)).trans r8, ⟨_, (hk48 9 (by decide) (by decide)).trans r9⟩, (hk48 10 (by decide) (by decide)).trans r10, (hk48 11 (by decide) (by decide)).trans r11, (hk48 12 (by decide) (by decide)).trans r12, (hk48 13 (by decide) (by decide)).trans r13, (hk48 14 (by decide) (by decide)).trans r14, (hk48 15 (by decide) (by decide)).trans r15, (hk48 23 (by decide) (by decide)).trans r23, (hk48 24 (by decide) (by decide)).trans r24, (hk48 25 (by decide) (by decide)).trans r25, (hk48 26 (by decide) (by decide)).trans r26, (hk48 27 (by decide) (by decide)).trans r27, (hk48 28 (by decide) (by decide)).trans r28, (hk48 29 (by decide) (by decide)).trans r29, (hk48 30 (by decide) (by decide)).trans r30, (hk48 31 (by decide) (by decide)).trans r31, (hk48 32 (by decide) (by decide)).trans r32, (hk48 33 (by decide) (by decide)).trans r33, (hk48 34 (by decide) (by decide)).trans r34⟩, hQ, rfl, ho47⟩, mB_of ht hP⟩, hS.F ht⟩) hS.2.2 d_D_count_72
            · exact absurd d4 n10
          · exact absurd d3 n9
      · exact absurd d1 n7
    · exact absurd h0 d0
  · obtain ⟨j, hj9, rfl⟩ := nI_of h0
    have hj11 : 11 ≤ j := Nat.le_of_not_lt (fun h9 => ho ⟨j, h9, rfl⟩)
    refine lv_aload_n hx hb d_D_count_0 rfl (lv_at hl 0 rfl) ?_
    refine lv_iconst (v := (nI 0)) hx hb d_D_count_1 (by decide) ?_
    refine fw_put (D := (dC, dI)) (ci := 5) (v := .int (nI 0)) (ty := .int) (C := R_D) (T := F_D) (N := 36) hx hb hg in_D ft_D ft_D_ok n_D hown hK hP hS r36 rfl 20 (by decide) (hg _ k_611) (fun _ h9 => h9) rfl (by decide +kernel) rfl rfl (Nat.le_of_ble_eq_true rfl) d_D_count_2 (fun w49 H locs ew50 hP hS => ?_)
    have r36 : w49 (md 36) = some (.inr (5, [.ref (md 0), .ref (md 1), .ref (md 2), .ref (md 3), .ref (md 4), .ref (md 5), .ref (md 6), .ref (md 7), .ref (md 8), .ref (md 9), .ref (md 10), .ref (md 11), .ref (md 12), .ref (md 13), .ref (md 14), .ref (md 15), .int (nI (m_cached μ)), .int (nI (m_ocached μ)), .int (m_circ μ), .int (m_ocirc μ), .int (nI 0), .int (nI (m_wkr μ)), .int (nI (m_ran μ).toNat), .ref (md 23), .ref (md 24), .ref (md 25), .ref (md 26), .ref (md 27), .ref (md 28), .ref (md 29), .ref (md 30), .ref (md 31), .ref (md 32), .ref (md 33), .ref (md 34), .int (nI (m_hgt μ))])) := by rw [ew50]; exact va_up_self _ _ _
    have ho51 : OutD md w w49 := OutD.up OutD.rf ew50 (by decide)
    refine lv_iload_n hx hb d_D_count_5 rfl (lv_at hl 1 rfl) ?_
    refine lv_if_lt (tgt := 22) hx hb d_D_count_6 (by decide) (fun d0 => absurd d0 h0) (fun d0 => ?_)
    refine lv_iload_n hx hb d_D_count_9 rfl (lv_at hl 1 rfl) ?_
    refine lv_bipush (v := (nI 7)) hx hb d_D_count_10 (by decide) ?_
    refine nu_ge (tgt := 22) hx hb (by omega) (by omega) d_D_count_12 (by decide) (fun d1 => ?_) (fun d1 => ?_)
    · refine lv_iload_n hx hb d_D_count_22 rfl (lv_at hl 1 rfl) ?_
      refine lv_bipush (v := (nI 7)) hx hb d_D_count_23 (by decide) ?_
      refine nu_ne (tgt := 35) hx hb (by omega) (by omega) d_D_count_25 (by decide) (fun d1 => ?_) (fun d1 => ?_)
      · refine lv_iload_n hx hb d_D_count_35 rfl (lv_at hl 1 rfl) ?_
        refine lv_bipush (v := (nI 8)) hx hb d_D_count_36 (by decide) ?_
        refine nu_eq (tgt := 47) hx hb (by omega) (by omega) d_D_count_38 (by decide) (fun d1 => ?_) (fun d1 => ?_)
        · exact absurd d1 (by omega)
        · refine lv_iload_n hx hb d_D_count_41 rfl (lv_at hl 1 rfl) ?_
          refine lv_bipush (v := (nI 9)) hx hb d_D_count_42 (by decide) ?_
          refine nu_ne (tgt := 58) hx hb (by omega) (by omega) d_D_count_44 (by decide) (fun d1 => ?_) (fun d1 => ?_)
          · refine lv_iload_n hx hb d_D_count_58 rfl (lv_at hl 1 rfl) ?_
            refine lv_bipush (v := (nI 10)) hx hb d_D_count_59 (by decide) ?_
            refine nu_ne (tgt := 71) hx hb (by omega) (by omega) d_D_count_61 (by decide) (fun d1 => ?_) (fun d1 => ?_)
            · refine lv_iconst (v := (-1)) hx hb d_D_count_71 (by decide) ?_
              have hk52 : ∀ i, U37 i → i ∉ [36] → w49 (md i) = w (md i) := fun i hi hn => by rw [ew50, va_up_ne _ _ (hj.ne hi (j := 36) (by decide) (fun e9 => hn (by rw [e9]; decide)))]
              exact W.iret (v := (-1)) hx hb hr (fun tS ht hW => ⟨⟨(-1), w49, rfl, ⟨rfl, dThr 0 μ, ⟨r36, (hk52 0 (by decide) (by decide)).trans r0, (hk52 1 (by decide) (by decide)).trans r1, (hk52 2 (by decide) (by decide)).trans r2, (hk52 3 (by decide) (by decide)).trans r3, (hk52 4 (by decide) (by decide)).trans r4, (hk52 5 (by decide) (by decide)).trans r5, (hk52 6 (by decide) (by decide)).trans r6, (hk52 7 (by decide) (by decide)).trans r7, (hk52 8 (by decide) (by decide)).trans r8, ⟨_, (hk52 9 (by decide) (by decide)).trans r9⟩, (hk52 10 (by decide) (by decide)).trans r10, (hk52 11 (by decide) (by decide)).trans r11, (hk52 12 (by decide) (by decide)).trans r12, (hk52 13 (by decide) (by decide)).trans r13, (hk52 14 (by decide) (by decide)).trans r14, (hk52 15 (by decide) (by decide)).trans r15, (hk52 23 (by decide) (by decide)).trans r23, (hk52 24 (by decide) (by decide)).trans r24, (hk52 25 (by decide) (by decide)).trans r25, (hk52 26 (by decide) (by decide)).trans r26, (hk52 27 (by decide) (by decide)).trans r27, (hk52 28 (by decide) (by decide)).trans r28, (hk52 29 (by decide) (by decide)).trans r29, (hk52 30 (by decide) (by decide)).trans r30, (hk52 31 (by decide) (by decide)).trans r31, (hk52 32 (by decide) (by decide)).trans r32, (hk52 33 (by decide) (by decide)).trans r33, (hk52 34 (by decide) (by decide)).trans r34⟩, hQ, rfl, ho51⟩, mB_of ht hP⟩, hS.F ht⟩) hS.2.2 d_D_count_72
            · exact absurd d1 (by omega)
          · exact absurd d1 (by omega)
      · exact absurd d1 (by omega)
    · exact absurd d1 (by omega)
set_option maxHeartbeats 4000000 in
set_option maxRecDepth 100000 in
theorem c_D_count {l : Launch} {s0 : State} {dC : Nat → ClassId} {dI : Nat → Nat → Nat} {dA : Nat → ClassId} (B0 : BB s0 dC dI dA) (w : fw_W) (md : Nat → Nat) (μ : MS) (β : BS) (j : Nat) (hj : Inj37 md) (hD : RD dA md w μ) (hQ : RQ β μ) (hj9 : j < 11) : Met l y_D_count [.code y_D_count b_D_count 2 (some .int)] ({ frames := 1, cells := 0, slots := 0, locals := 40 }) (mP s0 dC dI w [.ref (md 36), .int (nI j)]) (mQi s0 dC dI (fun r w' => r = bCount j β ∧ MB dA md w w' β 0)) 0 0 (AA s0) := by
  have hc16 := hQ.c16
  have hlen : (b_cl β).length = m_cached μ := hQ.2.1.2.2.1
  refine mt_ofW B0 (by decide) (Nat.le_of_ble_eq_true rfl) (fun p e s m args below meth c ls hargs X hin hl hP => ?_)
  have X9 := X
  obtain ⟨hx, hb, hr, hml, hown, hg, hK, hn, hE, hlocks, hA⟩ := X9
  have hS : va_S (AA s0) s.heap s.heap [] := va_S.rf
  have hl : lv_has ls 2 [(0, .ref (md 36)), (1, .int (nI j))] := hl
  obtain ⟨r36, r0, r1, r2, r3, r4, r5, r6, r7, r8, ⟨u, r9⟩, r10, r11, r12, r13, r14, r15, r23, r24, r25, r26, r27, r28, r29, r30, r31, r32, r33, r34⟩ := (id hD)
  rcases (show j < 7 ∨ j = 7 ∨ j = 8 ∨ j = 9 ∨ j = 10 by omega) with h7 | rfl | rfl | rfl | rfl
  · refine lv_aload_n hx hb d_D_count_0 rfl (lv_at hl 0 rfl) ?_
    refine lv_iconst (v := (nI 0)) hx hb d_D_count_1 (by decide) ?_
    refine fw_put (D := (dC, dI)) (ci := 5) (v := .int (nI 0)) (ty := .int) (C := R_D) (T := F_D) (N := 36) hx hb hg in_D ft_D ft_D_ok n_D hown hK hP hS r36 rfl 20 (by decide) (hg _ k_611) (fun _ h9 => h9) rfl (by decide +kernel) rfl rfl (Nat.le_of_ble_eq_true rfl) d_D_count_2 (fun w53 H locs ew54 hP hS => ?_)
    have r36 : w53 (md 36) = some (.inr (5, [.ref (md 0), .ref (md 1), .ref (md 2), .ref (md 3), .ref (md 4), .ref (md 5), .ref (md 6), .ref (md 7), .ref (md 8), .ref (md 9), .ref (md 10), .ref (md 11), .ref (md 12), .ref (md 13), .ref (md 14), .ref (md 15), .int (nI (m_cached μ)), .int (nI (m_ocached μ)), .int (m_circ μ), .int (m_ocirc μ), .int (nI 0), .int (nI (m_wkr μ)), .int (nI (m_ran μ).toNat), .ref (md 23), .ref (md 24), .ref (md 25), .ref (md 26), .ref (md 27), .ref (md 28), .ref (md 29), .ref (md 30), .ref (md 31), .ref (md 32), .ref (md 33), .ref (md 34), .int (nI (m_hgt μ))])) := by rw [ew54]; exact va_up_self _ _ _
    have ho55 : OutD md w w53 := OutD.up OutD.rf ew54 (by decide)
    refine lv_iload_n hx hb d_D_count_5 rfl (lv_at hl 1 rfl) ?_
    refine lv_if_lt (tgt := 22) hx hb d_D_count_6 (by decide) (fun d0 => absurd d0 (nI_nn (by omega))) (fun d0 => ?_)
    refine lv_iload_n hx hb d_D_count_9 rfl (lv_at hl 1 rfl) ?_
    refine lv_bipush (v := (nI 7)) hx hb d_D_count_10 (by decide) ?_
    refine nu_ge (tgt := 22) hx hb (by omega) (by omega) d_D_count_12 (by decide) (fun d1 => ?_) (fun d1 => ?_)
    · exact absurd d1 (by omega)
    · refine lv_aload_n hx hb d_D_count_15 rfl (lv_at hl 0 rfl) ?_
      refine va_get (D := (dC, dI)) (ci := 5) (v := .ref (md 14)) (C := R_D) (T := F_D) (N := 36) hx hb hg in_D hown hK (hP.one r36) 0 rfl rfl 14 (by decide) (hg _ k_605) (fun _ h9 => h9) rfl d_D_count_16 ?_
      refine lv_iload_n hx hb d_D_count_19 rfl (lv_at hl 1 rfl) ?_
      have r14 : w53 (md 14) = some (.inl (dA 0, 7, .inl (m_cnt μ))) := by rw [ew54, va_up_ne _ _ (hj.ne (i := 14) (j := 36) (by decide) (by decide) (by decide))]; exact r14
      refine fw_iald (tys := tyl dA) hx hb hK hP r14 0 rfl (j := j) (by omega) (by decide) d_D_count_20 ?_
      have hk56 : ∀ i, U37 i → i ∉ [36] → w53 (md i) = w (md i) := fun i hi hn => by rw [ew54, va_up_ne _ _ (hj.ne hi (j := 36) (by decide) (fun e9 => hn (by rw [e9]; decide)))]
      exact W.iret (v := ((m_cnt μ) j)) hx hb hr (fun tS ht hW => ⟨⟨((m_cnt μ) j), w53, rfl, ⟨by unfold bCount; rw [if_neg (by omega), if_neg (by omega), if_neg (by omega)]; exact hQ.2.2.1.1 j h7, dThr 0 μ, ⟨r36, (hk56 0 (by decide) (by decide)).trans r0, (hk56 1 (by decide) (by decide)).trans r1, (hk56 2 (by decide) (by decide)).trans r2, (hk56 3 (by decide) (by decide)).trans r3, (hk56 4 (by decide) (by decide)).trans r4, (hk56 5 (by decide) (by decide)).trans r5, (hk56 6 (by decide) (by decide)).trans r6, (hk56 7 (by decide) (by decide)).trans r7, (hk56 8 (by decide) (by decide)).trans r8, ⟨_, (hk56 9 (by decide) (by decide)).trans r9⟩, (hk56 10 (by decide) (by decide)).trans r10, (hk56 11 (by decide) (by decide)).trans r11, (hk56 12 (by decide) (by decide)).trans r12, (hk56 13 (by decide) (by decide)).trans r13, r14, (hk56 15 (by decide) (by decide)).trans r15, (hk56 23 (by decide) (by decide)).trans r23, (hk56 24 (by decide) (by decide)).trans r24, (hk56 25 (by decide) (by decide)).trans r25, (hk56 26 (by decide) (by decide)).trans r26, (hk56 27 (by decide) (by decide)).trans r27, (hk56 28 (by decide) (by decide)).trans r28, (hk56 29 (by decide) (by decide)).trans r29, (hk56 30 (by decide) (by decide)).trans r30, (hk56 31 (by decide) (by decide)).trans r31, (hk56 32 (by decide) (by decide)).trans r32, (hk56 33 (by decide) (by decide)).trans r33, (hk56 34 (by decide) (by decide)).trans r34⟩, hQ, rfl, ho55⟩, mB_of ht hP⟩, hS.F ht⟩) hS.2.2 d_D_count_21
  · refine lv_aload_n hx hb d_D_count_0 rfl (lv_at hl 0 rfl) ?_
    refine lv_iconst (v := (nI 0)) hx hb d_D_count_1 (by decide) ?_
    refine fw_put (D := (dC, dI)) (ci := 5) (v := .int (nI 0)) (ty := .int) (C := R_D) (T := F_D) (N := 36) hx hb hg in_D ft_D ft_D_ok n_D hown hK hP hS r36 rfl 20 (by decide) (hg _ k_611) (fun _ h9 => h9) rfl (by decide +kernel) rfl rfl (Nat.le_of_ble_eq_true rfl) d_D_count_2 (fun w57 H locs ew58 hP hS => ?_)
    have r36 : w57 (md 36) = some (.inr (5, [.ref (md 0), .ref (md 1), .ref (md 2), .ref (md 3), .ref (md 4), .ref (md 5), .ref (md 6), .ref (md 7), .ref (md 8), .ref (md 9), .ref (md 10), .ref (md 11), .ref (md 12), .ref (md 13), .ref (md 14), .ref (md 15), .int (nI (m_cached μ)), .int (nI (m_ocached μ)), .int (m_circ μ), .int (m_ocirc μ), .int (nI 0), .int (nI (m_wkr μ)), .int (nI (m_ran μ).toNat), .ref (md 23), .ref (md 24), .ref (md 25), .ref (md 26), .ref (md 27), .ref (md 28), .ref (md 29), .ref (md 30), .ref (md 31), .ref (md 32), .ref (md 33), .ref (md 34), .int (nI (m_hgt μ))])) := by rw [ew58]; exact va_up_self _ _ _
    have ho59 : OutD md w w57 := OutD.up OutD.rf ew58 (by decide)
    refine lv_iload_n hx hb d_D_count_5 rfl (lv_at hl 1 rfl) ?_
    refine lv_if_lt (tgt := 22) hx hb d_D_count_6 (by decide) (fun d0 => absurd d0 (nI_nn (by omega))) (fun d0 => ?_)
    refine lv_iload_n hx hb d_D_count_9 rfl (lv_at hl 1 rfl) ?_
    refine lv_bipush (v := (nI 7)) hx hb d_D_count_10 (by decide) ?_
    refine nu_ge (tgt := 22) hx hb (by omega) (by omega) d_D_count_12 (by decide) (fun d1 => ?_) (fun d1 => ?_)
    · refine lv_iload_n hx hb d_D_count_22 rfl (lv_at hl 1 rfl) ?_
      refine lv_bipush (v := (nI 7)) hx hb d_D_count_23 (by decide) ?_
      refine nu_ne (tgt := 35) hx hb (by omega) (by omega) d_D_count_25 (by decide) (fun d1 => ?_) (fun d1 => ?_)
      · exact absurd d1 (by omega)
      · refine lv_aload_n hx hb d_D_count_28 rfl (lv_at hl 0 rfl) ?_
        refine va_get (D := (dC, dI)) (ci := 5) (v := .int (nI (m_cached μ))) (C := R_D) (T := F_D) (N := 36) hx hb hg in_D hown hK (hP.one r36) 0 rfl rfl 16 (by decide) (hg _ k_607) (fun _ h9 => h9) rfl d_D_count_29 ?_
        refine lv_goto (tgt := 72) hx hb d_D_count_32 (by decide) ?_
        have hk60 : ∀ i, U37 i → i ∉ [36] → w57 (md i) = w (md i) := fun i hi hn => by rw [ew58, va_up_ne _ _ (hj.ne hi (j := 36) (by decide) (fun e9 => hn (by rw [e9]; decide)))]
        exact W.iret (v := (nI (m_cached μ))) hx hb hr (fun tS ht hW => ⟨⟨(nI (m_cached μ)), w57, rfl, ⟨by unfold bCount; rw [if_pos rfl, hlen], dThr 0 μ, ⟨r36, (hk60 0 (by decide) (by decide)).trans r0, (hk60 1 (by decide) (by decide)).trans r1, (hk60 2 (by decide) (by decide)).trans r2, (hk60 3 (by decide) (by decide)).trans r3, (hk60 4 (by decide) (by decide)).trans r4, (hk60 5 (by decide) (by decide)).trans r5, (hk60 6 (by decide) (by decide)).trans r6, (hk60 7 (by decide) (by decide)).trans r7, (hk60 8 (by decide) (by decide)).trans r8, ⟨_, (hk60 9 (by decide) (by decide)).trans r9⟩, (hk60 10 (by decide) (by decide)).trans r10, (hk60 11 (by decide) (by decide)).trans r11, (hk60 12 (by decide) (by decide)).trans r12, (hk60 13 (by decide) (by decide)).trans r13, (hk60 14 (by decide) (by decide)).trans r14, (hk60 15 (by decide) (by decide)).trans r15, (hk60 23 (by decide) (by decide)).trans r23, (hk60 24 (by decide) (by decide)).trans r24, (hk60 25 (by decide) (by decide)).trans r25, (hk60 26 (by decide) (by decide)).trans r26, (hk60 27 (by decide) (by decide)).trans r27, (hk60 28 (by decide) (by decide)).trans r28, (hk60 29 (by decide) (by decide)).trans r29, (hk60 30 (by decide) (by decide)).trans r30, (hk60 31 (by decide) (by decide)).trans r31, (hk60 32 (by decide) (by decide)).trans r32, (hk60 33 (by decide) (by decide)).trans r33, (hk60 34 (by decide) (by decide)).trans r34⟩, hQ, rfl, ho59⟩, mB_of ht hP⟩, hS.F ht⟩) hS.2.2 d_D_count_72
    · exact absurd d1 (by omega)
  · refine lv_aload_n hx hb d_D_count_0 rfl (lv_at hl 0 rfl) ?_
    refine lv_iconst (v := (nI 0)) hx hb d_D_count_1 (by decide) ?_
    refine fw_put (D := (dC, dI)) (ci := 5) (v := .int (nI 0)) (ty := .int) (C := R_D) (T := F_D) (N := 36) hx hb hg in_D ft_D ft_D_ok n_D hown hK hP hS r36 rfl 20 (by decide) (hg _ k_611) (fun _ h9 => h9) rfl (by decide +kernel) rfl rfl (Nat.le_of_ble_eq_true rfl) d_D_count_2 (fun w61 H locs ew62 hP hS => ?_)
    have r36 : w61 (md 36) = some (.inr (5, [.ref (md 0), .ref (md 1), .ref (md 2), .ref (md 3), .ref (md 4), .ref (md 5), .ref (md 6), .ref (md 7), .ref (md 8), .ref (md 9), .ref (md 10), .ref (md 11), .ref (md 12), .ref (md 13), .ref (md 14), .ref (md 15), .int (nI (m_cached μ)), .int (nI (m_ocached μ)), .int (m_circ μ), .int (m_ocirc μ), .int (nI 0), .int (nI (m_wkr μ)), .int (nI (m_ran μ).toNat), .ref (md 23), .ref (md 24), .ref (md 25), .ref (md 26), .ref (md 27), .ref (md 28), .ref (md 29), .ref (md 30), .ref (md 31), .ref (md 32), .ref (md 33), .ref (md 34), .int (nI (m_hgt μ))])) := by rw [ew62]; exact va_up_self _ _ _
    have ho63 : OutD md w w61 := OutD.up OutD.rf ew62 (by decide)
    refine lv_iload_n hx hb d_D_count_5 rfl (lv_at hl 1 rfl) ?_
    refine lv_if_lt (tgt := 22) hx hb d_D_count_6 (by decide) (fun d0 => absurd d0 (nI_nn (by omega))) (fun d0 => ?_)
    refine lv_iload_n hx hb d_D_count_9 rfl (lv_at hl 1 rfl) ?_
    refine lv_bipush (v := (nI 7)) hx hb d_D_count_10 (by decide) ?_
    refine nu_ge (tgt := 22) hx hb (by omega) (by omega) d_D_count_12 (by decide) (fun d1 => ?_) (fun d1 => ?_)
    · refine lv_iload_n hx hb d_D_count_22 rfl (lv_at hl 1 rfl) ?_
      refine lv_bipush (v := (nI 7)) hx hb d_D_count_23 (by decide) ?_
      refine nu_ne (tgt := 35) hx hb (by omega) (by omega) d_D_count_25 (by decide) (fun d1 => ?_) (fun d1 => ?_)
      · refine lv_iload_n hx hb d_D_count_35 rfl (lv_at hl 1 rfl) ?_
        refine lv_bipush (v := (nI 8)) hx hb d_D_count_36 (by decide) ?_
        refine nu_eq (tgt := 47) hx hb (by omega) (by omega) d_D_count_38 (by decide) (fun d1 => ?_) (fun d1 => ?_)
        · refine lv_aload_n hx hb d_D_count_47 rfl (lv_at hl 0 rfl) ?_
          refine lv_iload_n hx hb d_D_count_48 rfl (lv_at hl 1 rfl) ?_
          refine lv_bipush (v := (nI 8)) hx hb d_D_count_49 (by decide) ?_
          refine nu_isub (r := 8 - 8) hx hb d_D_count_51 (by omega) ?_
          have hk64 : ∀ i, U37 i → i ∉ [36] → w61 (md i) = w (md i) := fun i hi hn => by rw [ew62, va_up_ne _ _ (hj.ne hi (j := 36) (by decide) (fun e9 => hn (by rw [e9]; decide)))]
          have hDq : RD dA md w61 (dThr 0 μ) := ⟨r36, (hk64 0 (by decide) (by decide)).trans r0, (hk64 1 (by decide) (by decide)).trans r1, (hk64 2 (by decide) (by decide)).trans r2, (hk64 3 (by decide) (by decide)).trans r3, (hk64 4 (by decide) (by decide)).trans r4, (hk64 5 (by decide) (by decide)).trans r5, (hk64 6 (by decide) (by decide)).trans r6, (hk64 7 (by decide) (by decide)).trans r7, (hk64 8 (by decide) (by decide)).trans r8, ⟨_, (hk64 9 (by decide) (by decide)).trans r9⟩, (hk64 10 (by decide) (by decide)).trans r10, (hk64 11 (by decide) (by decide)).trans r11, (hk64 12 (by decide) (by decide)).trans r12, (hk64 13 (by decide) (by decide)).trans r13, (hk64 14 (by decide) (by decide)).trans r14, (hk64 15 (by decide) (by decide)).trans r15, (hk64 23 (by decide) (by decide)).trans r23, (hk64 24 (by decide) (by decide)).trans r24, (hk64 25 (by decide) (by decide)).trans r25, (hk64 26 (by decide) (by decide)).trans r26, (hk64 27 (by decide) (by decide)).trans r27, (hk64 28 (by decide) (by decide)).trans r28, (hk64 29 (by decide) (by decide)).trans r29, (hk64 30 (by decide) (by decide)).trans r30, (hk64 31 (by decide) (by decide)).trans r31, (hk64 32 (by decide) (by decide)).trans r32, (hk64 33 (by decide) (by decide)).trans r33, (hk64 34 (by decide) (by decide)).trans r34⟩
          refine va_calli (rn_V (n := 1) (As := [.int (nI 0)]) (rest := []) (C := R_D) (T := F_D) (N := 36) (ci := 5) X hP hS (c_D_tracesOf B0 w61 md (dThr 0 μ) 0 hj hDq (by omega)) k_790 k_792 k_51 k_58 k_793 (by decide +kernel) rfl rfl ⟨Nat.le_of_ble_eq_true rfl, Nat.le_of_ble_eq_true rfl⟩ r36 rfl rfl hl.1 rfl (Nat.le_of_ble_eq_true rfl) d_D_count_52 ⟨Nat.le_of_ble_eq_true rfl, Nat.le_of_ble_eq_true rfl⟩) hS (fun q _ h => h) (fun q h => h) (fun r w65 tS H locs ht hvm hw hB hz1 hk1 hS => ?_)
          have hP : fw_P (dC, dI) cls_ (AA s0) w65 H := by rw [← ht]; exact hB
          obtain ⟨e9, rfl⟩ := hw
          rw [e9] at hP
          refine lv_goto (tgt := 72) hx hb d_D_count_55 (by decide) ?_
          have hk66 : ∀ i, U37 i → i ∉ [36] → w61 (md i) = w (md i) := fun i hi hn => by rw [ew62, va_up_ne _ _ (hj.ne hi (j := 36) (by decide) (fun e9 => hn (by rw [e9]; decide)))]
          exact W.iret (v := (nI (cntR (m_trc μ) 0 12))) hx hb hr (fun tS ht hW => ⟨⟨(nI (cntR (m_trc μ) 0 12)), w61, rfl, ⟨by unfold bCount; rw [if_neg (by omega), if_pos rfl, ← cnt_RT hQ (by omega) 12 (by omega)], dThr 0 μ, ⟨r36, (hk66 0 (by decide) (by decide)).trans r0, (hk66 1 (by decide) (by decide)).trans r1, (hk66 2 (by decide) (by decide)).trans r2, (hk66 3 (by decide) (by decide)).trans r3, (hk66 4 (by decide) (by decide)).trans r4, (hk66 5 (by decide) (by decide)).trans r5, (hk66 6 (by decide) (by decide)).trans r6, (hk66 7 (by decide) (by decide)).trans r7, (hk66 8 (by decide) (by decide)).trans r8, ⟨_, (hk66 9 (by decide) (by decide)).trans r9⟩, (hk66 10 (by decide) (by decide)).trans r10, (hk66 11 (by decide) (by decide)).trans r11, (hk66 12 (by decide) (by decide)).trans r12, (hk66 13 (by decide) (by decide)).trans r13, (hk66 14 (by decide) (by decide)).trans r14, (hk66 15 (by decide) (by decide)).trans r15, (hk66 23 (by decide) (by decide)).trans r23, (hk66 24 (by decide) (by decide)).trans r24, (hk66 25 (by decide) (by decide)).trans r25, (hk66 26 (by decide) (by decide)).trans r26, (hk66 27 (by decide) (by decide)).trans r27, (hk66 28 (by decide) (by decide)).trans r28, (hk66 29 (by decide) (by decide)).trans r29, (hk66 30 (by decide) (by decide)).trans r30, (hk66 31 (by decide) (by decide)).trans r31, (hk66 32 (by decide) (by decide)).trans r32, (hk66 33 (by decide) (by decide)).trans r33, (hk66 34 (by decide) (by decide)).trans r34⟩, hQ, rfl, ho63⟩, mB_of ht hP⟩, hS.F ht⟩) hS.2.2 d_D_count_72
        · exact absurd d1 (by omega)
      · exact absurd d1 (by omega)
    · exact absurd d1 (by omega)
  · refine lv_aload_n hx hb d_D_count_0 rfl (lv_at hl 0 rfl) ?_
    refine lv_iconst (v := (nI 0)) hx hb d_D_count_1 (by decide) ?_
    refine fw_put (D := (dC, dI)) (ci := 5) (v := .int (nI 0)) (ty := .int) (C := R_D) (T := F_D) (N := 36) hx hb hg in_D ft_D ft_D_ok n_D hown hK hP hS r36 rfl 20 (by decide) (hg _ k_611) (fun _ h9 => h9) rfl (by decide +kernel) rfl rfl (Nat.le_of_ble_eq_true rfl) d_D_count_2 (fun w67 H locs ew68 hP hS => ?_)
    have r36 : w67 (md 36) = some (.inr (5, [.ref (md 0), .ref (md 1), .ref (md 2), .ref (md 3), .ref (md 4), .ref (md 5), .ref (md 6), .ref (md 7), .ref (md 8), .ref (md 9), .ref (md 10), .ref (md 11), .ref (md 12), .ref (md 13), .ref (md 14), .ref (md 15), .int (nI (m_cached μ)), .int (nI (m_ocached μ)), .int (m_circ μ), .int (m_ocirc μ), .int (nI 0), .int (nI (m_wkr μ)), .int (nI (m_ran μ).toNat), .ref (md 23), .ref (md 24), .ref (md 25), .ref (md 26), .ref (md 27), .ref (md 28), .ref (md 29), .ref (md 30), .ref (md 31), .ref (md 32), .ref (md 33), .ref (md 34), .int (nI (m_hgt μ))])) := by rw [ew68]; exact va_up_self _ _ _
    have ho69 : OutD md w w67 := OutD.up OutD.rf ew68 (by decide)
    refine lv_iload_n hx hb d_D_count_5 rfl (lv_at hl 1 rfl) ?_
    refine lv_if_lt (tgt := 22) hx hb d_D_count_6 (by decide) (fun d0 => absurd d0 (nI_nn (by omega))) (fun d0 => ?_)
    refine lv_iload_n hx hb d_D_count_9 rfl (lv_at hl 1 rfl) ?_
    refine lv_bipush (v := (nI 7)) hx hb d_D_count_10 (by decide) ?_
    refine nu_ge (tgt := 22) hx hb (by omega) (by omega) d_D_count_12 (by decide) (fun d1 => ?_) (fun d1 => ?_)
    · refine lv_iload_n hx hb d_D_count_22 rfl (lv_at hl 1 rfl) ?_
      refine lv_bipush (v := (nI 7)) hx hb d_D_count_23 (by decide) ?_
      refine nu_ne (tgt := 35) hx hb (by omega) (by omega) d_D_count_25 (by decide) (fun d1 => ?_) (fun d1 => ?_)
      · refine lv_iload_n hx hb d_D_count_35 rfl (lv_at hl 1 rfl) ?_
        refine lv_bipush (v := (nI 8)) hx hb d_D_count_36 (by decide) ?_
        refine nu_eq (tgt := 47) hx hb (by omega) (by omega) d_D_count_38 (by decide) (fun d1 => ?_) (fun d1 => ?_)
        · exact absurd d1 (by omega)
        · refine lv_iload_n hx hb d_D_count_41 rfl (lv_at hl 1 rfl) ?_
          refine lv_bipush (v := (nI 9)) hx hb d_D_count_42 (by decide) ?_
          refine nu_ne (tgt := 58) hx hb (by omega) (by omega) d_D_count_44 (by decide) (fun d1 => ?_) (fun d1 => ?_)
          · exact absurd d1 (by omega)
          · refine lv_aload_n hx hb d_D_count_47 rfl (lv_at hl 0 rfl) ?_
            refine lv_iload_n hx hb d_D_count_48 rfl (lv_at hl 1 rfl) ?_
            refine lv_bipush (v := (nI 8)) hx hb d_D_count_49 (by decide) ?_
            refine nu_isub (r := 9 - 8) hx hb d_D_count_51 (by omega) ?_
            have hk70 : ∀ i, U37 i → i ∉ [36] → w67 (md i) = w (md i) := fun i hi hn => by rw [ew68, va_up_ne _ _ (hj.ne hi (j := 36) (by decide) (fun e9 => hn (by rw [e9]; decide)))]
            have hDq : RD dA md w67 (dThr 0 μ) := ⟨r36, (hk70 0 (by decide) (by decide)).trans r0, (hk70 1 (by decide) (by decide)).trans r1, (hk70 2 (by decide) (by decide)).trans r2, (hk70 3 (by decide) (by decide)).trans r3, (hk70 4 (by decide) (by decide)).trans r4, (hk70 5 (by decide) (by decide)).trans r5, (hk70 6 (by decide) (by decide)).trans r6, (hk70 7 (by decide) (by decide)).trans r7, (hk70 8 (by decide) (by decide)).trans r8, ⟨_, (hk70 9 (by decide) (by decide)).trans r9⟩, (hk70 10 (by decide) (by decide)).trans r10, (hk70 11 (by decide) (by decide)).trans r11, (hk70 12 (by decide) (by decide)).trans r12, (hk70 13 (by decide) (by decide)).trans r13, (hk70 14 (by decide) (by decide)).trans r14, (hk70 15 (by decide) (by decide)).trans r15, (hk70 23 (by decide) (by decide)).trans r23, (hk70 24 (by decide) (by decide)).trans r24, (hk70 25 (by decide) (by decide)).trans r25, (hk70 26 (by decide) (by decide)).trans r26, (hk70 27 (by decide) (by decide)).trans r27, (hk70 28 (by decide) (by decide)).trans r28, (hk70 29 (by decide) (by decide)).trans r29, (hk70 30 (by decide) (by decide)).trans r30, (hk70 31 (by decide) (by decide)).trans r31, (hk70 32 (by decide) (by decide)).trans r32, (hk70 33 (by decide) (by decide)).trans r33, (hk70 34 (by decide) (by decide)).trans r34⟩
            refine va_calli (rn_V (n := 1) (As := [.int (nI 1)]) (rest := []) (C := R_D) (T := F_D) (N := 36) (ci := 5) X hP hS (c_D_tracesOf B0 w67 md (dThr 0 μ) 1 hj hDq (by omega)) k_790 k_792 k_51 k_58 k_793 (by decide +kernel) rfl rfl ⟨Nat.le_of_ble_eq_true rfl, Nat.le_of_ble_eq_true rfl⟩ r36 rfl rfl hl.1 rfl (Nat.le_of_ble_eq_true rfl) d_D_count_52 ⟨Nat.le_of_ble_eq_true rfl, Nat.le_of_ble_eq_true rfl⟩) hS (fun q _ h => h) (fun q h => h) (fun r w71 tS H locs ht hvm hw hB hz1 hk1 hS => ?_)
            have hP : fw_P (dC, dI) cls_ (AA s0) w71 H := by rw [← ht]; exact hB
            obtain ⟨e9, rfl⟩ := hw
            rw [e9] at hP
            refine lv_goto (tgt := 72) hx hb d_D_count_55 (by decide) ?_
            have hk72 : ∀ i, U37 i → i ∉ [36] → w67 (md i) = w (md i) := fun i hi hn => by rw [ew68, va_up_ne _ _ (hj.ne hi (j := 36) (by decide) (fun e9 => hn (by rw [e9]; decide)))]
            exact W.iret (v := (nI (cntR (m_trc μ) 1 12))) hx hb hr (fun tS ht hW => ⟨⟨(nI (cntR (m_trc μ) 1 12)), w67, rfl, ⟨by unfold bCount; rw [if_neg (by omega), if_neg (by omega), if_pos rfl, ← cnt_RT hQ (by omega) 12 (by omega)], dThr 0 μ, ⟨r36, (hk72 0 (by decide) (by decide)).trans r0, (hk72 1 (by decide) (by decide)).trans r1, (hk72 2 (by decide) (by decide)).trans r2, (hk72 3 (by decide) (by decide)).trans r3, (hk72 4 (by decide) (by decide)).trans r4, (hk72 5 (by decide) (by decide)).trans r5, (hk72 6 (by decide) (by decide)).trans r6, (hk72 7 (by decide) (by decide)).trans r7, (hk72 8 (by decide) (by decide)).trans r8, ⟨_, (hk72 9 (by decide) (by decide)).trans r9⟩, (hk72 10 (by decide) (by decide)).trans r10, (hk72 11 (by decide) (by decide)).trans r11, (hk72 12 (by decide) (by decide)).trans r12, (hk72 13 (by decide) (by decide)).trans r13, (hk72 14 (by decide) (by decide)).trans r14, (hk72 15 (by decide) (by decide)).trans r15, (hk72 23 (by decide) (by decide)).trans r23, (hk72 24 (by decide) (by decide)).trans r24, (hk72 25 (by decide) (by decide)).trans r25, (hk72 26 (by decide) (by decide)).trans r26, (hk72 27 (by decide) (by decide)).trans r27, (hk72 28 (by decide) (by decide)).trans r28, (hk72 29 (by decide) (by decide)).trans r29, (hk72 30 (by decide) (by decide)).trans r30, (hk72 31 (by decide) (by decide)).trans r31, (hk72 32 (by decide) (by decide)).trans r32, (hk72 33 (by decide) (by decide)).trans r33, (hk72 34 (by decide) (by decide)).trans r34⟩, hQ, rfl, ho69⟩, mB_of ht hP⟩, hS.F ht⟩) hS.2.2 d_D_count_72
      · exact absurd d1 (by omega)
    · exact absurd d1 (by omega)
  · refine lv_aload_n hx hb d_D_count_0 rfl (lv_at hl 0 rfl) ?_
    refine lv_iconst (v := (nI 0)) hx hb d_D_count_1 (by decide) ?_
    refine fw_put (D := (dC, dI)) (ci := 5) (v := .int (nI 0)) (ty := .int) (C := R_D) (T := F_D) (N := 36) hx hb hg in_D ft_D ft_D_ok n_D hown hK hP hS r36 rfl 20 (by decide) (hg _ k_611) (fun _ h9 => h9) rfl (by decide +kernel) rfl rfl (Nat.le_of_ble_eq_true rfl) d_D_count_2 (fun w73 H locs ew74 hP hS => ?_)
    have r36 : w73 (md 36) = some (.inr (5, [.ref (md 0), .ref (md 1), .ref (md 2), .ref (md 3), .ref (md 4), .ref (md 5), .ref (md 6), .ref (md 7), .ref (md 8), .ref (md 9), .ref (md 10), .ref (md 11), .ref (md 12), .ref (md 13), .ref (md 14), .ref (md 15), .int (nI (m_cached μ)), .int (nI (m_ocached μ)), .int (m_circ μ), .int (m_ocirc μ), .int (nI 0), .int (nI (m_wkr μ)), .int (nI (m_ran μ).toNat), .ref (md 23), .ref (md 24), .ref (md 25), .ref (md 26), .ref (md 27), .ref (md 28), .ref (md 29), .ref (md 30), .ref (md 31), .ref (md 32), .ref (md 33), .ref (md 34), .int (nI (m_hgt μ))])) := by rw [ew74]; exact va_up_self _ _ _
    have ho75 : OutD md w w73 := OutD.up OutD.rf ew74 (by decide)
    refine lv_iload_n hx hb d_D_count_5 rfl (lv_at hl 1 rfl) ?_
    refine lv_if_lt (tgt := 22) hx hb d_D_count_6 (by decide) (fun d0 => absurd d0 (nI_nn (by omega))) (fun d0 => ?_)
    refine lv_iload_n hx hb d_D_count_9 rfl (lv_at hl 1 rfl) ?_
    refine lv_bipush (v := (nI 7)) hx hb d_D_count_10 (by decide) ?_
    refine nu_ge (tgt := 22) hx hb (by omega) (by omega) d_D_count_12 (by decide) (fun d1 => ?_) (fun d1 => ?_)
    · refine lv_iload_n hx hb d_D_count_22 rfl (lv_at hl 1 rfl) ?_
      refine lv_bipush (v := (nI 7)) hx hb d_D_count_23 (by decide) ?_
      refine nu_ne (tgt := 35) hx hb (by omega) (by omega) d_D_count_25 (by decide) (fun d1 => ?_) (fun d1 => ?_)
      · refine lv_iload_n hx hb d_D_count_35 rfl (lv_at hl 1 rfl) ?_
        refine lv_bipush (v := (nI 8)) hx hb d_D_count_36 (by decide) ?_
        refine nu_eq (tgt := 47) hx hb (by omega) (by omega) d_D_count_38 (by decide) (fun d1 => ?_) (fun d1 => ?_)
        · exact absurd d1 (by omega)
        · refine lv_iload_n hx hb d_D_count_41 rfl (lv_at hl 1 rfl) ?_
          refine lv_bipush (v := (nI 9)) hx hb d_D_count_42 (by decide) ?_
          refine nu_ne (tgt := 58) hx hb (by omega) (by omega) d_D_count_44 (by decide) (fun d1 => ?_) (fun d1 => ?_)
          · refine lv_iload_n hx hb d_D_count_58 rfl (lv_at hl 1 rfl) ?_
            refine lv_bipush (v := (nI 10)) hx hb d_D_count_59 (by decide) ?_
            refine nu_ne (tgt := 71) hx hb (by omega) (by omega) d_D_count_61 (by decide) (fun d1 => ?_) (fun d1 => ?_)
            · exact absurd d1 (by omega)
            · refine lv_aload_n hx hb d_D_count_64 rfl (lv_at hl 0 rfl) ?_
              refine va_get (D := (dC, dI)) (ci := 5) (v := .int (m_circ μ)) (C := R_D) (T := F_D) (N := 36) hx hb hg in_D hown hK (hP.one r36) 0 rfl rfl 18 (by decide) (hg _ k_609) (fun _ h9 => h9) rfl d_D_count_65 ?_
              refine lv_goto (tgt := 72) hx hb d_D_count_68 (by decide) ?_
              have hk76 : ∀ i, U37 i → i ∉ [36] → w73 (md i) = w (md i) := fun i hi hn => by rw [ew74, va_up_ne _ _ (hj.ne hi (j := 36) (by decide) (fun e9 => hn (by rw [e9]; decide)))]
              exact W.iret (v := (m_circ μ)) hx hb hr (fun tS ht hW => ⟨⟨(m_circ μ), w73, rfl, ⟨by unfold bCount; rw [if_neg (by omega), if_neg (by omega), if_neg (by omega)]; exact hQ.2.2.1.2, dThr 0 μ, ⟨r36, (hk76 0 (by decide) (by decide)).trans r0, (hk76 1 (by decide) (by decide)).trans r1, (hk76 2 (by decide) (by decide)).trans r2, (hk76 3 (by decide) (by decide)).trans r3, (hk76 4 (by decide) (by decide)).trans r4, (hk76 5 (by decide) (by decide)).trans r5, (hk76 6 (by decide) (by decide)).trans r6, (hk76 7 (by decide) (by decide)).trans r7, (hk76 8 (by decide) (by decide)).trans r8, ⟨_, (hk76 9 (by decide) (by decide)).trans r9⟩, (hk76 10 (by decide) (by decide)).trans r10, (hk76 11 (by decide) (by decide)).trans r11, (hk76 12 (by decide) (by decide)).trans r12, (hk76 13 (by decide) (by decide)).trans r13, (hk76 14 (by decide) (by decide)).trans r14, (hk76 15 (by decide) (by decide)).trans r15, (hk76 23 (by decide) (by decide)).trans r23, (hk76 24 (by decide) (by decide)).trans r24, (hk76 25 (by decide) (by decide)).trans r25, (hk76 26 (by decide) (by decide)).trans r26, (hk76 27 (by decide) (by decide)).trans r27, (hk76 28 (by decide) (by decide)).trans r28, (hk76 29 (by decide) (by decide)).trans r29, (hk76 30 (by decide) (by decide)).trans r30, (hk76 31 (by decide) (by decide)).trans r31, (hk76 32 (by decide) (by decide)).trans r32, (hk76 33 (by decide) (by decide)).trans r33, (hk76 34 (by decide) (by decide)).trans r34⟩, hQ, rfl, ho75⟩, mB_of ht hP⟩, hS.F ht⟩) hS.2.2 d_D_count_72
          · exact absurd d1 (by omega)
      · exact absurd d1 (by omega)
    · exact absurd d1 (by omega)
