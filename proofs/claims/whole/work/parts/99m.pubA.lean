theorem in_n {n : Nat} (hn : n < 2 ^ 31) (a : Int32) : (nI 0 ≤ a ∧ a ≤ nI n) ↔ ∃ j, j ≤ n ∧ a = nI j := by
  constructor
  · rintro ⟨h1, h2⟩
    obtain ⟨j, hj, rfl⟩ := nI_of (x := a) (le_not_lt h1)
    exact ⟨j, (nI_leI hj hn).mp h2, rfl⟩
  · rintro ⟨j, hj, rfl⟩
    exact ⟨(nI_leI (by omega) (by omega)).mpr (by omega), (nI_leI (by omega) hn).mpr hj⟩
theorem in_K (a : Int32) : (nI 0 ≤ a ∧ a ≤ nI 11) ↔ okK a := (in_n (by omega) a).trans ⟨fun ⟨j, h, e⟩ => ⟨j, by omega, e⟩, fun ⟨j, h, e⟩ => ⟨j, by omega, e⟩⟩
theorem in_W (a : Int32) : (nI 0 ≤ a ∧ a ≤ nI 1) ↔ okW a := (in_n (by omega) a).trans ⟨fun ⟨j, h, e⟩ => ⟨j, by omega, e⟩, fun ⟨j, h, e⟩ => ⟨j, by omega, e⟩⟩
theorem bF {b : Bool} {p : Prop} (h : b = true ↔ p) (hp : ¬ p) : b = false := by cases b with
  | false => rfl
  | true => exact absurd (h.mp rfl) hp
def MB (dA : Nat → ClassId) (md : Nat → Nat) (w w' : fw_W) (β : BS) (n : Nat) : Prop := ∃ μ', RD dA md w' μ' ∧ RQ β μ' ∧ m_thr μ' = n ∧ OutD md w w'
section RQS
variable {β : BS} {μ : MS}
theorem RQ.so3 (hp : p_ok (b_P β)) (h : RQ β μ) {k : Nat} (hk : k < 12) : m_sort μ k < 3 := by
  rw [(h.1 k hk).1]; exact (hp k hk).1
theorem RQ.c16 (h : RQ β μ) : m_cached μ ≤ 16 := h.2.1.2.1
theorem RQ.cs (h : RQ β μ) : ∀ i, i < m_cached μ → m_cch μ i < 320 := fun i hi => by obtain ⟨T, -, hT⟩ := h.2.1.2.2.lt hi; exact hT.1
theorem RQ.co (h : RQ β μ) : ∀ i, i < m_cached μ → m_own μ (m_cch μ i) < 12 := fun i hi => by
  obtain ⟨T, -, hT⟩ := h.2.1.2.2.lt hi
  rw [hT.2.1]; exact hT.2.2.1
end RQS
set_option maxHeartbeats 4000000 in
set_option maxRecDepth 100000 in
theorem c_D_inputX {l : Launch} {s0 : State} {dC : Nat → ClassId} {dI : Nat → Nat → Nat} {dA : Nat → ClassId} (B0 : BB s0 dC dI dA) (w : fw_W) (md : Nat → Nat) (μ : MS) (β : BS) (a : Int32) (v : Int64) (hj : Inj37 md) (hD : RD dA md w μ) (hQ : RQ β μ) (ho : ¬ okK a) : Met l y_D_input [.code y_D_input b_D_input 4 none] ({ frames := 1, cells := 0, slots := 0, locals := 40 }) (mP s0 dC dI w [.ref (md 36), .int a, .long v]) (mQv s0 dC dI (fun w' => MB dA md w w' β 1)) 0 0 (AA s0) := by
  refine mt_ofW B0 (by decide) (Nat.le_of_ble_eq_true rfl) (fun p e s m args below meth c ls hargs X hin hl hP => ?_)
  have X9 := X
  obtain ⟨hx, hb, hr, hml, hown, hg, hK, hn, hE, hlocks, hA⟩ := X9
  have hS : va_S (AA s0) s.heap s.heap [] := va_S.rf
  have hl : lv_has ls 4 [(0, .ref (md 36)), (1, .int a), (2, .long v)] := hl
  obtain ⟨r36, r0, r1, r2, r3, r4, r5, r6, r7, r8, ⟨u, r9⟩, r10, r11, r12, r13, r14, r15, r23, r24, r25, r26, r27, r28, r29, r30, r31, r32, r33, r34⟩ := (id hD)
  refine lv_aload_n hx hb d_D_input_0 rfl (lv_at hl 0 rfl) ?_
  refine lv_iload_n hx hb d_D_input_1 rfl (lv_at hl 1 rfl) ?_
  refine lv_iconst (v := (nI 0)) hx hb d_D_input_2 (by decide) ?_
  refine lv_bipush (v := (nI 11)) hx hb d_D_input_3 (by decide) ?_
  refine va_calli (rn_S (n := 3) (As := [.int a, .int (nI 0), .int (nI 11)]) (rest := [.ref (md 36)]) X hP hS (c_D_in B0 w a (nI 0) (nI 11)) k_708 k_709 k_58 k_710 (by decide +kernel) rfl rfl ⟨Nat.le_of_ble_eq_true rfl, Nat.le_of_ble_eq_true rfl⟩ rfl hl.1 rfl (Nat.le_of_ble_eq_true rfl) d_D_input_5 ⟨Nat.le_of_ble_eq_true rfl, Nat.le_of_ble_eq_true rfl⟩) hS (fun q _ h => h) (fun q h => h) (fun r w1 tS H locs ht hvm hw hB hz1 hk1 hS => ?_)
  have hP : fw_P (dC, dI) cls_ (AA s0) w1 H := by rw [← ht]; exact hB
  obtain ⟨e9, b1, rfl, ib1⟩ := hw
  rw [e9] at hP
  have hv_b1 : b1 = false := bF ib1 (fun h9 => ho ((in_K a).mp h9))
  subst hv_b1
  refine va_calli (rn_V (n := 1) (As := [.int (nI false.toNat)]) (rest := []) (C := R_D) (T := F_D) (N := 36) (ci := 5) X hP hS (c_D_bad B0 w md μ false hj hD) k_711 k_713 k_38 k_58 k_714 (by decide +kernel) rfl rfl ⟨Nat.le_of_ble_eq_true rfl, Nat.le_of_ble_eq_true rfl⟩ r36 rfl rfl hl.1 rfl (Nat.le_of_ble_eq_true rfl) d_D_input_8 ⟨Nat.le_of_ble_eq_true rfl, Nat.le_of_ble_eq_true rfl⟩) hS (fun q _ h => h) (fun q h => h) (fun r w2 tS H locs ht hvm hw hB hz1 hk1 hS => ?_)
  have hP : fw_P (dC, dI) cls_ (AA s0) w2 H := by rw [← ht]; exact hB
  obtain ⟨rfl, hR8, ho8⟩ := hw
  have hD1 : RD dA md w2 (dThr 1 μ) := hR8
  have ho3 : OutD md w w2 := OutD.tr OutD.rf ho8
  obtain ⟨r36, r0, r1, r2, r3, r4, r5, r6, r7, r8, ⟨u, r9⟩, r10, r11, r12, r13, r14, r15, r23, r24, r25, r26, r27, r28, r29, r30, r31, r32, r33, r34⟩ := (id hD1)
  refine nu_ifeq (tgt := 15) hx hb d_D_input_11 (by decide) (fun c1 => ?_) (fun c1 => ?_)
  · exact absurd c1 (by decide)
  · exact W.vret hx hb hr (fun tS ht hW => ⟨⟨w2, rfl, ⟨dThr 1 μ, hD1, hQ, rfl, ho3⟩, mB_of ht hP⟩, hS.F ht⟩) hS.2.2 d_D_input_14
set_option maxHeartbeats 4000000 in
set_option maxRecDepth 100000 in
theorem c_D_input {l : Launch} {s0 : State} {dC : Nat → ClassId} {dI : Nat → Nat → Nat} {dA : Nat → ClassId} (B0 : BB s0 dC dI dA) (w : fw_W) (md : Nat → Nat) (μ : MS) (β : BS) (k : Nat) (v : Int64) (hj : Inj37 md) (hD : RD dA md w μ) (hQ : RQ β μ) (hp : p_ok (b_P β)) (hk : k < 12) : Met l y_D_input [.code y_D_input b_D_input 4 none] ({ frames := 1, cells := 0, slots := 0, locals := 40 }) (mP s0 dC dI w [.ref (md 36), .int (nI k), .long v]) (mQv s0 dC dI (fun w' => MB dA md w w' (bInput k v β) 0)) 0 0 (AA s0) := by
  have so3 := hQ.so3 hp hk
  obtain ⟨q1, q2, -⟩ := hQ.1 k hk
  refine mt_ofW B0 (by decide) (Nat.le_of_ble_eq_true rfl) (fun p e s m args below meth c ls hargs X hin hl hP => ?_)
  have X9 := X
  obtain ⟨hx, hb, hr, hml, hown, hg, hK, hn, hE, hlocks, hA⟩ := X9
  have hS : va_S (AA s0) s.heap s.heap [] := va_S.rf
  have hl : lv_has ls 4 [(0, .ref (md 36)), (1, .int (nI k)), (2, .long v)] := hl
  obtain ⟨r36, r0, r1, r2, r3, r4, r5, r6, r7, r8, ⟨u, r9⟩, r10, r11, r12, r13, r14, r15, r23, r24, r25, r26, r27, r28, r29, r30, r31, r32, r33, r34⟩ := (id hD)
  refine lv_aload_n hx hb d_D_input_0 rfl (lv_at hl 0 rfl) ?_
  refine lv_iload_n hx hb d_D_input_1 rfl (lv_at hl 1 rfl) ?_
  refine lv_iconst (v := (nI 0)) hx hb d_D_input_2 (by decide) ?_
  refine lv_bipush (v := (nI 11)) hx hb d_D_input_3 (by decide) ?_
  refine va_calli (rn_S (n := 3) (As := [.int (nI k), .int (nI 0), .int (nI 11)]) (rest := [.ref (md 36)]) X hP hS (c_D_in B0 w (nI k) (nI 0) (nI 11)) k_708 k_709 k_58 k_710 (by decide +kernel) rfl rfl ⟨Nat.le_of_ble_eq_true rfl, Nat.le_of_ble_eq_true rfl⟩ rfl hl.1 rfl (Nat.le_of_ble_eq_true rfl) d_D_input_5 ⟨Nat.le_of_ble_eq_true rfl, Nat.le_of_ble_eq_true rfl⟩) hS (fun q _ h => h) (fun q h => h) (fun r w4 tS H locs ht hvm hw hB hz1 hk1 hS => ?_)
  have hP : fw_P (dC, dI) cls_ (AA s0) w4 H := by rw [← ht]; exact hB
  obtain ⟨e9, b1, rfl, ib1⟩ := hw
  rw [e9] at hP
  have hv_b1 : b1 = true := ib1.mpr ((in_K _).mpr ⟨k, hk, rfl⟩)
  subst hv_b1
  refine va_calli (rn_V (n := 1) (As := [.int (nI true.toNat)]) (rest := []) (C := R_D) (T := F_D) (N := 36) (ci := 5) X hP hS (c_D_bad B0 w md μ true hj hD) k_711 k_713 k_38 k_58 k_714 (by decide +kernel) rfl rfl ⟨Nat.le_of_ble_eq_true rfl, Nat.le_of_ble_eq_true rfl⟩ r36 rfl rfl hl.1 rfl (Nat.le_of_ble_eq_true rfl) d_D_input_8 ⟨Nat.le_of_ble_eq_true rfl, Nat.le_of_ble_eq_true rfl⟩) hS (fun q _ h => h) (fun q h => h) (fun r w5 tS H locs ht hvm hw hB hz1 hk1 hS => ?_)
  have hP : fw_P (dC, dI) cls_ (AA s0) w5 H := by rw [← ht]; exact hB
  obtain ⟨rfl, hR8, ho8⟩ := hw
  have hD1 : RD dA md w5 (dThr 0 μ) := hR8
  have ho6 : OutD md w w5 := OutD.tr OutD.rf ho8
  obtain ⟨r36, r0, r1, r2, r3, r4, r5, r6, r7, r8, ⟨u, r9⟩, r10, r11, r12, r13, r14, r15, r23, r24, r25, r26, r27, r28, r29, r30, r31, r32, r33, r34⟩ := (id hD1)
  refine nu_ifeq (tgt := 15) hx hb d_D_input_11 (by decide) (fun c1 => ?_) (fun c1 => ?_)
  · refine lv_aload_n hx hb d_D_input_15 rfl (lv_at hl 0 rfl) ?_
    have r36 : w5 (md 36) = some (.inr (5, [.ref (md 0), .ref (md 1), .ref (md 2), .ref (md 3), .ref (md 4), .ref (md 5), .ref (md 6), .ref (md 7), .ref (md 8), .ref (md 9), .ref (md 10), .ref (md 11), .ref (md 12), .ref (md 13), .ref (md 14), .ref (md 15), .int (nI (m_cached μ)), .int (nI (m_ocached μ)), .int (m_circ μ), .int (m_ocirc μ), .int (nI 0), .int (nI (m_wkr μ)), .int (nI (m_ran μ).toNat), .ref (md 23), .ref (md 24), .ref (md 25), .ref (md 26), .ref (md 27), .ref (md 28), .ref (md 29), .ref (md 30), .ref (md 31), .ref (md 32), .ref (md 33), .ref (md 34), .int (nI (m_hgt μ))])) := r36
    refine va_get (D := (dC, dI)) (ci := 5) (v := .ref (md 0)) (C := R_D) (T := F_D) (N := 36) hx hb hg in_D hown hK (hP.one r36) 0 rfl rfl 0 (by decide) (hg _ k_591) (fun _ h9 => h9) rfl d_D_input_16 ?_
    refine lv_iload_n hx hb d_D_input_19 rfl (lv_at hl 1 rfl) ?_
    have r0 : w5 (md 0) = some (.inl (dA 0, 12, .inl (nf (m_sort μ)))) := r0
    refine fw_iald (tys := tyl dA) hx hb hK hP r0 0 rfl (j := k) (by omega) (by decide) d_D_input_20 ?_
    refine lv_iconst (v := (nI 1)) hx hb d_D_input_21 (by decide) ?_
    refine nu_ne (tgt := 37) hx hb (by omega) (by omega) d_D_input_22 (by decide) (fun c2 => ?_) (fun c2 => ?_)
    · refine lv_aload_n hx hb d_D_input_37 rfl (lv_at hl 0 rfl) ?_
      refine lv_iload_n hx hb d_D_input_38 rfl (lv_at hl 1 rfl) ?_
      refine va_callv (rn_V (n := 1) (As := [.int (nI k)]) (rest := []) (C := R_D) (T := F_D) (N := 36) (ci := 5) X hP hS (c_D_forgetKey B0 w5 md (dThr 0 μ) k hj hD1 hk (by have := hQ.c16; show m_cached μ ≤ 17; omega) hQ.cs hQ.co) k_715 k_717 k_39 k_58 k_718 (by decide +kernel) rfl rfl ⟨Nat.le_of_ble_eq_true rfl, Nat.le_of_ble_eq_true rfl⟩ r36 rfl rfl hl.1 rfl (Nat.le_of_ble_eq_true rfl) d_D_input_39 ⟨Nat.le_of_ble_eq_true rfl, Nat.le_of_ble_eq_true rfl⟩) hS (fun q _ h => h) (fun q h => h) (fun w7 tS H locs ht hvm hw hB hz1 hk1 hS => ?_)
      have hP : fw_P (dC, dI) cls_ (AA s0) w7 H := by rw [← ht]; exact hB
      obtain ⟨x9, c9, hR7, hx9, ho7⟩ := hw
      have ho8 : OutD md w w7 := OutD.tr ho6 ho7
      obtain ⟨r36, r0, r1, r2, r3, r4, r5, r6, r7, r8, ⟨u, r9⟩, r10, r11, r12, r13, r14, r15, r23, r24, r25, r26, r27, r28, r29, r30, r31, r32, r33, r34⟩ := (id hR7)
      refine lv_aload_n hx hb d_D_input_42 rfl (lv_at hl 0 rfl) ?_
      have r36 : w7 (md 36) = some (.inr (5, [.ref (md 0), .ref (md 1), .ref (md 2), .ref (md 3), .ref (md 4), .ref (md 5), .ref (md 6), .ref (md 7), .ref (md 8), .ref (md 9), .ref (md 10), .ref (md 11), .ref (md 12), .ref (md 13), .ref (md 14), .ref (md 15), .int (nI c9), .int (nI (m_ocached μ)), .int (m_circ μ), .int (m_ocirc μ), .int (nI 0), .int (nI (m_wkr μ)), .int (nI (m_ran μ).toNat), .ref (md 23), .ref (md 24), .ref (md 25), .ref (md 26), .ref (md 27), .ref (md 28), .ref (md 29), .ref (md 30), .ref (md 31), .ref (md 32), .ref (md 33), .ref (md 34), .int (nI (m_hgt μ))])) := r36
      refine va_get (D := (dC, dI)) (ci := 5) (v := .ref (md 0)) (C := R_D) (T := F_D) (N := 36) hx hb hg in_D hown hK (hP.one r36) 0 rfl rfl 0 (by decide) (hg _ k_591) (fun _ h9 => h9) rfl d_D_input_43 ?_
      refine lv_iload_n hx hb d_D_input_46 rfl (lv_at hl 1 rfl) ?_
      refine lv_iconst (v := (nI 1)) hx hb d_D_input_47 (by decide) ?_
      have r0 : w7 (md 0) = some (.inl (dA 0, 12, .inl (nf (m_sort μ)))) := r0
      refine fw_iast (tys := tyl dA) hx hb hK hP hS r0 0 rfl (j := k) (x := (nI 1)) (by omega) (by decide) d_D_input_48 (fun w9 H locs ew10 hP hS => ?_)
      rw [nf_up] at ew10
      have r0 : w9 (md 0) = some (.inl (dA 0, 12, .inl (nf (va_up (m_sort μ) k 1)))) := by rw [ew10]; exact va_up_self _ _ _
      have ho11 : OutD md w w9 := OutD.up ho8 ew10 (by decide)
      refine lv_aload_n hx hb d_D_input_49 rfl (lv_at hl 0 rfl) ?_
      have r36 : w9 (md 36) = some (.inr (5, [.ref (md 0), .ref (md 1), .ref (md 2), .ref (md 3), .ref (md 4), .ref (md 5), .ref (md 6), .ref (md 7), .ref (md 8), .ref (md 9), .ref (md 10), .ref (md 11), .ref (md 12), .ref (md 13), .ref (md 14), .ref (md 15), .int (nI c9), .int (nI (m_ocached μ)), .int (m_circ μ), .int (m_ocirc μ), .int (nI 0), .int (nI (m_wkr μ)), .int (nI (m_ran μ).toNat), .ref (md 23), .ref (md 24), .ref (md 25), .ref (md 26), .ref (md 27), .ref (md 28), .ref (md 29), .ref (md 30), .ref (md 31), .ref (md 32), .ref (md 33), .ref (md 34), .int (nI (m_hgt μ))])) := by rw [ew10, va_up_ne _ _ (hj.ne (i := 36) (j := 0) (by decide) (by decide) (by decide))]; exact r36
      refine va_get (D := (dC, dI)) (ci := 5) (v := .ref (md 3)) (C := R_D) (T := F_D) (N := 36) hx hb hg in_D hown hK (hP.one r36) 0 rfl rfl 3 (by decide) (hg _ k_594) (fun _ h9 => h9) rfl d_D_input_50 ?_
      refine lv_iload_n hx hb d_D_input_53 rfl (lv_at hl 1 rfl) ?_
      refine lv_lload_n hx hb d_D_input_54 rfl (lv_at hl 2 rfl) ?_
      have r3 : w9 (md 3) = some (.inl (dA 1, 12, .inr (.inl (m_inp μ)))) := by rw [ew10, va_up_ne _ _ (hj.ne (i := 3) (j := 0) (by decide) (by decide) (by decide))]; exact r3
      refine fw_last (tys := tyl dA) hx hb hK hP hS r3 1 rfl (j := k) (by omega) (by decide) d_D_input_55 (fun w12 H locs ew13 hP hS => ?_)
      have r3 : w12 (md 3) = some (.inl (dA 1, 12, .inr (.inl (vp_updL (m_inp μ) k v)))) := by rw [ew13]; exact va_up_self _ _ _
      have ho14 : OutD md w w12 := OutD.up ho11 ew13 (by decide)
      have hB9 : bInput k v β = bDrop (pIn (b_P β) k v) k β := if_neg (fun h9 => c2 (q1.trans h9.1))
      have hq9 : RQ (bInput k v β) (((va_up (m_sort μ) k 1), (m_rule μ), m_parts μ, vp_updL (m_inp μ) k v), ((m_size μ), (m_keys μ), (m_own μ), m_got μ, m_came μ), (upd (upd (m_trc μ) k (-1)) (12 + k) (-1), x9, c9, m_cnt μ, (m_circ μ)), (m_otrc μ, (m_occh μ), m_ocached μ, m_ocnt μ, (m_ocirc μ)), (0, m_wkr μ, (m_ran μ), (m_st μ), m_val μ), ((m_key μ), (m_ph μ), m_chk μ, (m_at μ), (m_cand μ), (m_cc μ), (m_mk μ), (m_asked μ), m_first μ, m_sum μ, m_hgt μ)) := by rw [hB9]; exact rq_drop (μ := dThr 0 μ) hQ hk hx9 (pl := (va_up (m_sort μ) k 1, m_rule μ, m_parts μ, vp_updL (m_inp μ) k v)) (plq_in (β := β) (μ := μ) hQ.1 rfl)
      have hk15 : ∀ i, U37 i → i ∉ [3] → w12 (md i) = w9 (md i) := fun i hi hn => by rw [ew13, va_up_ne _ _ (hj.ne hi (j := 3) (by decide) (fun e9 => hn (by rw [e9]; decide)))]
      have hk16 : ∀ i, U37 i → i ∉ [0, 3] → w12 (md i) = w7 (md i) := fun i hi hn => by rw [ew13, va_up_ne _ _ (hj.ne hi (j := 3) (by decide) (fun e9 => hn (by rw [e9]; decide))), ew10, va_up_ne _ _ (hj.ne hi (j := 0) (by decide) (fun e9 => hn (by rw [e9]; decide)))]
      exact W.vret hx hb hr (fun tS ht hW => ⟨⟨w12, rfl, ⟨(((va_up (m_sort μ) k 1), (m_rule μ), m_parts μ, vp_updL (m_inp μ) k v), ((m_size μ), (m_keys μ), (m_own μ), m_got μ, m_came μ), (upd (upd (m_trc μ) k (-1)) (12 + k) (-1), x9, c9, m_cnt μ, (m_circ μ)), (m_otrc μ, (m_occh μ), m_ocached μ, m_ocnt μ, (m_ocirc μ)), (0, m_wkr μ, (m_ran μ), (m_st μ), m_val μ), ((m_key μ), (m_ph μ), m_chk μ, (m_at μ), (m_cand μ), (m_cc μ), (m_mk μ), (m_asked μ), m_first μ, m_sum μ, m_hgt μ)), ⟨(hk15 36 (by decide) (by decide)).trans r36, (hk15 0 (by decide) (by decide)).trans r0, (hk16 1 (by decide) (by decide)).trans r1, (hk16 2 (by decide) (by decide)).trans r2, r3, (hk16 4 (by decide) (by decide)).trans r4, (hk16 5 (by decide) (by decide)).trans r5, (hk16 6 (by decide) (by decide)).trans r6, (hk16 7 (by decide) (by decide)).trans r7, (hk16 8 (by decide) (by decide)).trans r8, ⟨_, (hk16 9 (by decide) (by decide)).trans r9⟩, (hk16 10 (by decide) (by decide)).trans r10, (hk16 11 (by decide) (by decide)).trans r11, (hk16 12 (by decide) (by decide)).trans r12, (hk16 13 (by decide) (by decide)).trans r13, (hk16 14 (by decide) (by decide)).trans r14, (hk16 15 (by decide) (by decide)).trans r15, (hk16 23 (by decide) (by decide)).trans r23, (hk16 24 (by decide) (by decide)).trans r24, (hk16 25 (by decide) (by decide)).trans r25, (hk16 26 (by decide) (by decide)).trans r26, (hk16 27 (by decide) (by decide)).trans r27, (hk16 28 (by decide) (by decide)).trans r28, (hk16 29 (by decide) (by decide)).trans r29, (hk16 30 (by decide) (by decide)).trans r30, (hk16 31 (by decide) (by decide)).trans r31, (hk16 32 (by decide) (by decide)).trans r32, (hk16 33 (by decide) (by decide)).trans r33, (hk16 34 (by decide) (by decide)).trans r34⟩, hq9, rfl, ho14⟩, mB_of ht hP⟩, hS.F ht⟩) hS.2.2 d_D_input_56
    · refine lv_aload_n hx hb d_D_input_25 rfl (lv_at hl 0 rfl) ?_
      refine va_get (D := (dC, dI)) (ci := 5) (v := .ref (md 3)) (C := R_D) (T := F_D) (N := 36) hx hb hg in_D hown hK (hP.one r36) 0 rfl rfl 3 (by decide) (hg _ k_594) (fun _ h9 => h9) rfl d_D_input_26 ?_
      refine lv_iload_n hx hb d_D_input_29 rfl (lv_at hl 1 rfl) ?_
      have r3 : w5 (md 3) = some (.inl (dA 1, 12, .inr (.inl (m_inp μ)))) := r3
      refine fw_lald (tys := tyl dA) hx hb hK hP r3 1 rfl (j := k) (by omega) (by decide) d_D_input_30 ?_
      refine lv_lload_n hx hb d_D_input_31 rfl (lv_at hl 2 rfl) ?_
      refine W.lcmp hx hb d_D_input_32 ?_
      refine lv_if_ne (tgt := 37) hx hb d_D_input_33 (by decide) (fun c3 => ?_) (fun c3 => ?_)
      · refine lv_aload_n hx hb d_D_input_37 rfl (lv_at hl 0 rfl) ?_
        refine lv_iload_n hx hb d_D_input_38 rfl (lv_at hl 1 rfl) ?_
        refine va_callv (rn_V (n := 1) (As := [.int (nI k)]) (rest := []) (C := R_D) (T := F_D) (N := 36) (ci := 5) X hP hS (c_D_forgetKey B0 w5 md (dThr 0 μ) k hj hD1 hk (by have := hQ.c16; show m_cached μ ≤ 17; omega) hQ.cs hQ.co) k_715 k_717 k_39 k_58 k_718 (by decide +kernel) rfl rfl ⟨Nat.le_of_ble_eq_true rfl, Nat.le_of_ble_eq_true rfl⟩ r36 rfl rfl hl.1 rfl (Nat.le_of_ble_eq_true rfl) d_D_input_39 ⟨Nat.le_of_ble_eq_true rfl, Nat.le_of_ble_eq_true rfl⟩) hS (fun q _ h => h) (fun q h => h) (fun w17 tS H locs ht hvm hw hB hz1 hk1 hS => ?_)
        have hP : fw_P (dC, dI) cls_ (AA s0) w17 H := by rw [← ht]; exact hB
        obtain ⟨x9, c9, hR7, hx9, ho7⟩ := hw
        have ho18 : OutD md w w17 := OutD.tr ho6 ho7
        obtain ⟨r36, r0, r1, r2, r3, r4, r5, r6, r7, r8, ⟨u, r9⟩, r10, r11, r12, r13, r14, r15, r23, r24, r25, r26, r27, r28, r29, r30, r31, r32, r33, r34⟩ := (id hR7)
        refine lv_aload_n hx hb d_D_input_42 rfl (lv_at hl 0 rfl) ?_
        have r36 : w17 (md 36) = some (.inr (5, [.ref (md 0), .ref (md 1), .ref (md 2), .ref (md 3), .ref (md 4), .ref (md 5), .ref (md 6), .ref (md 7), .ref (md 8), .ref (md 9), .ref (md 10), .ref (md 11), .ref (md 12), .ref (md 13), .ref (md 14), .ref (md 15), .int (nI c9), .int (nI (m_ocached μ)), .int (m_circ μ), .int (m_ocirc μ), .int (nI 0), .int (nI (m_wkr μ)), .int (nI (m_ran μ).toNat), .ref (md 23), .ref (md 24), .ref (md 25), .ref (md 26), .ref (md 27), .ref (md 28), .ref (md 29), .ref (md 30), .ref (md 31), .ref (md 32), .ref (md 33), .ref (md 34), .int (nI (m_hgt μ))])) := r36
        refine va_get (D := (dC, dI)) (ci := 5) (v := .ref (md 0)) (C := R_D) (T := F_D) (N := 36) hx hb hg in_D hown hK (hP.one r36) 0 rfl rfl 0 (by decide) (hg _ k_591) (fun _ h9 => h9) rfl d_D_input_43 ?_
        refine lv_iload_n hx hb d_D_input_46 rfl (lv_at hl 1 rfl) ?_
        refine lv_iconst (v := (nI 1)) hx hb d_D_input_47 (by decide) ?_
        have r0 : w17 (md 0) = some (.inl (dA 0, 12, .inl (nf (m_sort μ)))) := r0
        refine fw_iast (tys := tyl dA) hx hb hK hP hS r0 0 rfl (j := k) (x := (nI 1)) (by omega) (by decide) d_D_input_48 (fun w19 H locs ew20 hP hS => ?_)
        rw [nf_up] at ew20
        have r0 : w19 (md 0) = some (.inl (dA 0, 12, .inl (nf (va_up (m_sort μ) k 1)))) := by rw [ew20]; exact va_up_self _ _ _
        have ho21 : OutD md w w19 := OutD.up ho18 ew20 (by decide)
        refine lv_aload_n hx hb d_D_input_49 rfl (lv_at hl 0 rfl) ?_
        have r36 : w19 (md 36) = some (.inr (5, [.ref (md 0), .ref (md 1), .ref (md 2), .ref (md 3), .ref (md 4), .ref (md 5), .ref (md 6), .ref (md 7), .ref (md 8), .ref (md 9), .ref (md 10), .ref (md 11), .ref (md 12), .ref (md 13), .ref (md 14), .ref (md 15), .int (nI c9), .int (nI (m_ocached μ)), .int (m_circ μ), .int (m_ocirc μ), .int (nI 0), .int (nI (m_wkr μ)), .int (nI (m_ran μ).toNat), .ref (md 23), .ref (md 24), .ref (md 25), .ref (md 26), .ref (md 27), .ref (md 28), .ref (md 29), .ref (md 30), .ref (md 31), .ref (md 32), .ref (md 33), .ref (md 34), .int (nI (m_hgt μ))])) := by rw [ew20, va_up_ne _ _ (hj.ne (i := 36) (j := 0) (by decide) (by decide) (by decide))]; exact r36
        refine va_get (D := (dC, dI)) (ci := 5) (v := .ref (md 3)) (C := R_D) (T := F_D) (N := 36) hx hb hg in_D hown hK (hP.one r36) 0 rfl rfl 3 (by decide) (hg _ k_594) (fun _ h9 => h9) rfl d_D_input_50 ?_
        refine lv_iload_n hx hb d_D_input_53 rfl (lv_at hl 1 rfl) ?_
        refine lv_lload_n hx hb d_D_input_54 rfl (lv_at hl 2 rfl) ?_
        have r3 : w19 (md 3) = some (.inl (dA 1, 12, .inr (.inl (m_inp μ)))) := by rw [ew20, va_up_ne _ _ (hj.ne (i := 3) (j := 0) (by decide) (by decide) (by decide))]; exact r3
        refine fw_last (tys := tyl dA) hx hb hK hP hS r3 1 rfl (j := k) (by omega) (by decide) d_D_input_55 (fun w22 H locs ew23 hP hS => ?_)
        have r3 : w22 (md 3) = some (.inl (dA 1, 12, .inr (.inl (vp_updL (m_inp μ) k v)))) := by rw [ew23]; exact va_up_self _ _ _
        have ho24 : OutD md w w22 := OutD.up ho21 ew23 (by decide)
        have hB9 : bInput k v β = bDrop (pIn (b_P β) k v) k β := if_neg (fun h9 => c3 ((lg_cmp_eq _ _).mpr ((q2 h9.1).trans h9.2)))
        have hq9 : RQ (bInput k v β) (((va_up (m_sort μ) k 1), (m_rule μ), m_parts μ, vp_updL (m_inp μ) k v), ((m_size μ), (m_keys μ), (m_own μ), m_got μ, m_came μ), (upd (upd (m_trc μ) k (-1)) (12 + k) (-1), x9, c9, m_cnt μ, (m_circ μ)), (m_otrc μ, (m_occh μ), m_ocached μ, m_ocnt μ, (m_ocirc μ)), (0, m_wkr μ, (m_ran μ), (m_st μ), m_val μ), ((m_key μ), (m_ph μ), m_chk μ, (m_at μ), (m_cand μ), (m_cc μ), (m_mk μ), (m_asked μ), m_first μ, m_sum μ, m_hgt μ)) := by rw [hB9]; exact rq_drop (μ := dThr 0 μ) hQ hk hx9 (pl := (va_up (m_sort μ) k 1, m_rule μ, m_parts μ, vp_updL (m_inp μ) k v)) (plq_in (β := β) (μ := μ) hQ.1 rfl)
        have hk25 : ∀ i, U37 i → i ∉ [3] → w22 (md i) = w19 (md i) := fun i hi hn => by rw [ew23, va_up_ne _ _ (hj.ne hi (j := 3) (by decide) (fun e9 => hn (by rw [e9]; decide)))]
        have hk26 : ∀ i, U37 i → i ∉ [0, 3] → w22 (md i) = w17 (md i) := fun i hi hn => by rw [ew23, va_up_ne _ _ (hj.ne hi (j := 3) (by decide) (fun e9 => hn (by rw [e9]; decide))), ew20, va_up_ne _ _ (hj.ne hi (j := 0) (by decide) (fun e9 => hn (by rw [e9]; decide)))]
        exact W.vret hx hb hr (fun tS ht hW => ⟨⟨w22, rfl, ⟨(((va_up (m_sort μ) k 1), (m_rule μ), m_parts μ, vp_updL (m_inp μ) k v), ((m_size μ), (m_keys μ), (m_own μ), m_got μ, m_came μ), (upd (upd (m_trc μ) k (-1)) (12 + k) (-1), x9, c9, m_cnt μ, (m_circ μ)), (m_otrc μ, (m_occh μ), m_ocached μ, m_ocnt μ, (m_ocirc μ)), (0, m_wkr μ, (m_ran μ), (m_st μ), m_val μ), ((m_key μ), (m_ph μ), m_chk μ, (m_at μ), (m_cand μ), (m_cc μ), (m_mk μ), (m_asked μ), m_first μ, m_sum μ, m_hgt μ)), ⟨(hk25 36 (by decide) (by decide)).trans r36, (hk25 0 (by decide) (by decide)).trans r0, (hk26 1 (by decide) (by decide)).trans r1, (hk26 2 (by decide) (by decide)).trans r2, r3, (hk26 4 (by decide) (by decide)).trans r4, (hk26 5 (by decide) (by decide)).trans r5, (hk26 6 (by decide) (by decide)).trans r6, (hk26 7 (by decide) (by decide)).trans r7, (hk26 8 (by decide) (by decide)).trans r8, ⟨_, (hk26 9 (by decide) (by decide)).trans r9⟩, (hk26 10 (by decide) (by decide)).trans r10, (hk26 11 (by decide) (by decide)).trans r11, (hk26 12 (by decide) (by decide)).trans r12, (hk26 13 (by decide) (by decide)).trans r13, (hk26 14 (by decide) (by decide)).trans r14, (hk26 15 (by decide) (by decide)).trans r15, (hk26 23 (by decide) (by decide)).trans r23, (hk26 24 (by decide) (by decide)).trans r24, (hk26 25 (by decide) (by decide)).trans r25, (hk26 26 (by decide) (by decide)).trans r26, (hk26 27 (by decide) (by decide)).trans r27, (hk26 28 (by decide) (by decide)).trans r28, (hk26 29 (by decide) (by decide)).trans r29, (hk26 30 (by decide) (by decide)).trans r30, (hk26 31 (by decide) (by decide)).trans r31, (hk26 32 (by decide) (by decide)).trans r32, (hk26 33 (by decide) (by decide)).trans r33, (hk26 34 (by decide) (by decide)).trans r34⟩, hq9, rfl, ho24⟩, mB_of ht hP⟩, hS.F ht⟩) hS.2.2 d_D_input_56
      · have hB9 : bInput k v β = β := if_pos ⟨q1.symm.trans c2, (q2 (q1.symm.trans c2)).symm.trans ((lg_cmp_eq _ _).mp c3)⟩
        exact W.vret hx hb hr (fun tS ht hW => ⟨⟨w5, rfl, (by rw [hB9]; exact ⟨dThr 0 μ, hD1, hQ, rfl, ho6⟩), mB_of ht hP⟩, hS.F ht⟩) hS.2.2 d_D_input_36
  · exact absurd c1 (by decide)
set_option maxHeartbeats 4000000 in
set_option maxRecDepth 100000 in
theorem c_D_removeX {l : Launch} {s0 : State} {dC : Nat → ClassId} {dI : Nat → Nat → Nat} {dA : Nat → ClassId} (B0 : BB s0 dC dI dA) (w : fw_W) (md : Nat → Nat) (μ : MS) (β : BS) (a : Int32) (hj : Inj37 md) (hD : RD dA md w μ) (hQ : RQ β μ) (ho : ¬ okK a) : Met l y_D_remove [.code y_D_remove b_D_remove 2 none] ({ frames := 1, cells := 0, slots := 0, locals := 40 }) (mP s0 dC dI w [.ref (md 36), .int a]) (mQv s0 dC dI (fun w' => MB dA md w w' β 1)) 0 0 (AA s0) := by
  refine mt_ofW B0 (by decide) (Nat.le_of_ble_eq_true rfl) (fun p e s m args below meth c ls hargs X hin hl hP => ?_)
  have X9 := X
  obtain ⟨hx, hb, hr, hml, hown, hg, hK, hn, hE, hlocks, hA⟩ := X9
  have hS : va_S (AA s0) s.heap s.heap [] := va_S.rf
  have hl : lv_has ls 2 [(0, .ref (md 36)), (1, .int a)] := hl
  obtain ⟨r36, r0, r1, r2, r3, r4, r5, r6, r7, r8, ⟨u, r9⟩, r10, r11, r12, r13, r14, r15, r23, r24, r25, r26, r27, r28, r29, r30, r31, r32, r33, r34⟩ := (id hD)
  refine lv_aload_n hx hb d_D_remove_0 rfl (lv_at hl 0 rfl) ?_
  refine lv_iload_n hx hb d_D_remove_1 rfl (lv_at hl 1 rfl) ?_
  refine lv_iconst (v := (nI 0)) hx hb d_D_remove_2 (by decide) ?_
  refine lv_bipush (v := (nI 11)) hx hb d_D_remove_3 (by decide) ?_
  refine va_calli (rn_S (n := 3) (As := [.int a, .int (nI 0), .int (nI 11)]) (rest := [.ref (md 36)]) X hP hS (c_D_in B0 w a (nI 0) (nI 11)) k_708 k_709 k_58 k_710 (by decide +kernel) rfl rfl ⟨Nat.le_of_ble_eq_true rfl, Nat.le_of_ble_eq_true rfl⟩ rfl hl.1 rfl (Nat.le_of_ble_eq_true rfl) d_D_remove_5 ⟨Nat.le_of_ble_eq_true rfl, Nat.le_of_ble_eq_true rfl⟩) hS (fun q _ h => h) (fun q h => h) (fun r w27 tS H locs ht hvm hw hB hz1 hk1 hS => ?_)
  have hP : fw_P (dC, dI) cls_ (AA s0) w27 H := by rw [← ht]; exact hB
  obtain ⟨e9, b1, rfl, ib1⟩ := hw
  rw [e9] at hP
  have hv_b1 : b1 = false := bF ib1 (fun h9 => ho ((in_K a).mp h9))
  subst hv_b1
  refine va_calli (rn_V (n := 1) (As := [.int (nI false.toNat)]) (rest := []) (C := R_D) (T := F_D) (N := 36) (ci := 5) X hP hS (c_D_bad B0 w md μ false hj hD) k_711 k_713 k_38 k_58 k_714 (by decide +kernel) rfl rfl ⟨Nat.le_of_ble_eq_true rfl, Nat.le_of_ble_eq_true rfl⟩ r36 rfl rfl hl.1 rfl (Nat.le_of_ble_eq_true rfl) d_D_remove_8 ⟨Nat.le_of_ble_eq_true rfl, Nat.le_of_ble_eq_true rfl⟩) hS (fun q _ h => h) (fun q h => h) (fun r w28 tS H locs ht hvm hw hB hz1 hk1 hS => ?_)
  have hP : fw_P (dC, dI) cls_ (AA s0) w28 H := by rw [← ht]; exact hB
  obtain ⟨rfl, hR8, ho8⟩ := hw
  have hD1 : RD dA md w28 (dThr 1 μ) := hR8
  have ho29 : OutD md w w28 := OutD.tr OutD.rf ho8
  obtain ⟨r36, r0, r1, r2, r3, r4, r5, r6, r7, r8, ⟨u, r9⟩, r10, r11, r12, r13, r14, r15, r23, r24, r25, r26, r27, r28, r29, r30, r31, r32, r33, r34⟩ := (id hD1)
  refine nu_ifeq (tgt := 15) hx hb d_D_remove_11 (by decide) (fun c1 => ?_) (fun c1 => ?_)
  · exact absurd c1 (by decide)
  · exact W.vret hx hb hr (fun tS ht hW => ⟨⟨w28, rfl, ⟨dThr 1 μ, hD1, hQ, rfl, ho29⟩, mB_of ht hP⟩, hS.F ht⟩) hS.2.2 d_D_remove_14
set_option maxHeartbeats 4000000 in
set_option maxRecDepth 100000 in
theorem c_D_remove {l : Launch} {s0 : State} {dC : Nat → ClassId} {dI : Nat → Nat → Nat} {dA : Nat → ClassId} (B0 : BB s0 dC dI dA) (w : fw_W) (md : Nat → Nat) (μ : MS) (β : BS) (k : Nat) (hj : Inj37 md) (hD : RD dA md w μ) (hQ : RQ β μ) (hp : p_ok (b_P β)) (hk : k < 12) (hkd : p_kd (b_P β) k ≠ 0) : Met l y_D_remove [.code y_D_remove b_D_remove 2 none] ({ frames := 1, cells := 0, slots := 0, locals := 40 }) (mP s0 dC dI w [.ref (md 36), .int (nI k)]) (mQv s0 dC dI (fun w' => MB dA md w w' (bRemove k β) 0)) 0 0 (AA s0) := by
  have so3 := hQ.so3 hp hk
  obtain ⟨q1, -, -⟩ := hQ.1 k hk
  refine mt_ofW B0 (by decide) (Nat.le_of_ble_eq_true rfl) (fun p e s m args below meth c ls hargs X hin hl hP => ?_)
  have X9 := X
  obtain ⟨hx, hb, hr, hml, hown, hg, hK, hn, hE, hlocks, hA⟩ := X9
  have hS : va_S (AA s0) s.heap s.heap [] := va_S.rf
  have hl : lv_has ls 2 [(0, .ref (md 36)), (1, .int (nI k))] := hl
  obtain ⟨r36, r0, r1, r2, r3, r4, r5, r6, r7, r8, ⟨u, r9⟩, r10, r11, r12, r13, r14, r15, r23, r24, r25, r26, r27, r28, r29, r30, r31, r32, r33, r34⟩ := (id hD)
  refine lv_aload_n hx hb d_D_remove_0 rfl (lv_at hl 0 rfl) ?_
  refine lv_iload_n hx hb d_D_remove_1 rfl (lv_at hl 1 rfl) ?_
  refine lv_iconst (v := (nI 0)) hx hb d_D_remove_2 (by decide) ?_
  refine lv_bipush (v := (nI 11)) hx hb d_D_remove_3 (by decide) ?_
  refine va_calli (rn_S (n := 3) (As := [.int (nI k), .int (nI 0), .int (nI 11)]) (rest := [.ref (md 36)]) X hP hS (c_D_in B0 w (nI k) (nI 0) (nI 11)) k_708 k_709 k_58 k_710 (by decide +kernel) rfl rfl ⟨Nat.le_of_ble_eq_true rfl, Nat.le_of_ble_eq_true rfl⟩ rfl hl.1 rfl (Nat.le_of_ble_eq_true rfl) d_D_remove_5 ⟨Nat.le_of_ble_eq_true rfl, Nat.le_of_ble_eq_true rfl⟩) hS (fun q _ h => h) (fun q h => h) (fun r w30 tS H locs ht hvm hw hB hz1 hk1 hS => ?_)
  have hP : fw_P (dC, dI) cls_ (AA s0) w30 H := by rw [← ht]; exact hB
  obtain ⟨e9, b1, rfl, ib1⟩ := hw
  rw [e9] at hP
  have hv_b1 : b1 = true := ib1.mpr ((in_K _).mpr ⟨k, hk, rfl⟩)
  subst hv_b1
  refine va_calli (rn_V (n := 1) (As := [.int (nI true.toNat)]) (rest := []) (C := R_D) (T := F_D) (N := 36) (ci := 5) X hP hS (c_D_bad B0 w md μ true hj hD) k_711 k_713 k_38 k_58 k_714 (by decide +kernel) rfl rfl ⟨Nat.le_of_ble_eq_true rfl, Nat.le_of_ble_eq_true rfl⟩ r36 rfl rfl hl.1 rfl (Nat.le_of_ble_eq_true rfl) d_D_remove_8 ⟨Nat.le_of_ble_eq_true rfl, Nat.le_of_ble_eq_true rfl⟩) hS (fun q _ h => h) (fun q h => h) (fun r w31 tS H locs ht hvm hw hB hz1 hk1 hS => ?_)
  have hP : fw_P (dC, dI) cls_ (AA s0) w31 H := by rw [← ht]; exact hB
  obtain ⟨rfl, hR8, ho8⟩ := hw
  have hD1 : RD dA md w31 (dThr 0 μ) := hR8
  have ho32 : OutD md w w31 := OutD.tr OutD.rf ho8
  obtain ⟨r36, r0, r1, r2, r3, r4, r5, r6, r7, r8, ⟨u, r9⟩, r10, r11, r12, r13, r14, r15, r23, r24, r25, r26, r27, r28, r29, r30, r31, r32, r33, r34⟩ := (id hD1)
  refine nu_ifeq (tgt := 15) hx hb d_D_remove_11 (by decide) (fun c1 => ?_) (fun c1 => ?_)
  · refine lv_aload_n hx hb d_D_remove_15 rfl (lv_at hl 0 rfl) ?_
    have r36 : w31 (md 36) = some (.inr (5, [.ref (md 0), .ref (md 1), .ref (md 2), .ref (md 3), .ref (md 4), .ref (md 5), .ref (md 6), .ref (md 7), .ref (md 8), .ref (md 9), .ref (md 10), .ref (md 11), .ref (md 12), .ref (md 13), .ref (md 14), .ref (md 15), .int (nI (m_cached μ)), .int (nI (m_ocached μ)), .int (m_circ μ), .int (m_ocirc μ), .int (nI 0), .int (nI (m_wkr μ)), .int (nI (m_ran μ).toNat), .ref (md 23), .ref (md 24), .ref (md 25), .ref (md 26), .ref (md 27), .ref (md 28), .ref (md 29), .ref (md 30), .ref (md 31), .ref (md 32), .ref (md 33), .ref (md 34), .int (nI (m_hgt μ))])) := r36
    refine va_get (D := (dC, dI)) (ci := 5) (v := .ref (md 0)) (C := R_D) (T := F_D) (N := 36) hx hb hg in_D hown hK (hP.one r36) 0 rfl rfl 0 (by decide) (hg _ k_591) (fun _ h9 => h9) rfl d_D_remove_16 ?_
    refine lv_iload_n hx hb d_D_remove_19 rfl (lv_at hl 1 rfl) ?_
    have r0 : w31 (md 0) = some (.inl (dA 0, 12, .inl (nf (m_sort μ)))) := r0
    refine fw_iald (tys := tyl dA) hx hb hK hP r0 0 rfl (j := k) (by omega) (by decide) d_D_remove_20 ?_
    refine nu_zne (tgt := 29) hx hb (by omega) d_D_remove_21 (by decide) (fun c2 => ?_) (fun c2 => ?_)
    · refine lv_aload_n hx hb d_D_remove_29 rfl (lv_at hl 0 rfl) ?_
      refine lv_iload_n hx hb d_D_remove_30 rfl (lv_at hl 1 rfl) ?_
      refine va_callv (rn_V (n := 1) (As := [.int (nI k)]) (rest := []) (C := R_D) (T := F_D) (N := 36) (ci := 5) X hP hS (c_D_forgetKey B0 w31 md (dThr 0 μ) k hj hD1 hk (by have := hQ.c16; show m_cached μ ≤ 17; omega) hQ.cs hQ.co) k_715 k_717 k_39 k_58 k_718 (by decide +kernel) rfl rfl ⟨Nat.le_of_ble_eq_true rfl, Nat.le_of_ble_eq_true rfl⟩ r36 rfl rfl hl.1 rfl (Nat.le_of_ble_eq_true rfl) d_D_remove_31 ⟨Nat.le_of_ble_eq_true rfl, Nat.le_of_ble_eq_true rfl⟩) hS (fun q _ h => h) (fun q h => h) (fun w33 tS H locs ht hvm hw hB hz1 hk1 hS => ?_)
      have hP : fw_P (dC, dI) cls_ (AA s0) w33 H := by rw [← ht]; exact hB
      obtain ⟨x9, c9, hR7, hx9, ho7⟩ := hw
      have ho34 : OutD md w w33 := OutD.tr ho32 ho7
      obtain ⟨r36, r0, r1, r2, r3, r4, r5, r6, r7, r8, ⟨u, r9⟩, r10, r11, r12, r13, r14, r15, r23, r24, r25, r26, r27, r28, r29, r30, r31, r32, r33, r34⟩ := (id hR7)
      refine lv_aload_n hx hb d_D_remove_34 rfl (lv_at hl 0 rfl) ?_
      have r36 : w33 (md 36) = some (.inr (5, [.ref (md 0), .ref (md 1), .ref (md 2), .ref (md 3), .ref (md 4), .ref (md 5), .ref (md 6), .ref (md 7), .ref (md 8), .ref (md 9), .ref (md 10), .ref (md 11), .ref (md 12), .ref (md 13), .ref (md 14), .ref (md 15), .int (nI c9), .int (nI (m_ocached μ)), .int (m_circ μ), .int (m_ocirc μ), .int (nI 0), .int (nI (m_wkr μ)), .int (nI (m_ran μ).toNat), .ref (md 23), .ref (md 24), .ref (md 25), .ref (md 26), .ref (md 27), .ref (md 28), .ref (md 29), .ref (md 30), .ref (md 31), .ref (md 32), .ref (md 33), .ref (md 34), .int (nI (m_hgt μ))])) := r36
      refine va_get (D := (dC, dI)) (ci := 5) (v := .ref (md 0)) (C := R_D) (T := F_D) (N := 36) hx hb hg in_D hown hK (hP.one r36) 0 rfl rfl 0 (by decide) (hg _ k_591) (fun _ h9 => h9) rfl d_D_remove_35 ?_
      refine lv_iload_n hx hb d_D_remove_38 rfl (lv_at hl 1 rfl) ?_
      refine lv_iconst (v := (nI 0)) hx hb d_D_remove_39 (by decide) ?_
      have r0 : w33 (md 0) = some (.inl (dA 0, 12, .inl (nf (m_sort μ)))) := r0
      refine fw_iast (tys := tyl dA) hx hb hK hP hS r0 0 rfl (j := k) (x := (nI 0)) (by omega) (by decide) d_D_remove_40 (fun w35 H locs ew36 hP hS => ?_)
      rw [nf_up] at ew36
      have r0 : w35 (md 0) = some (.inl (dA 0, 12, .inl (nf (va_up (m_sort μ) k 0)))) := by rw [ew36]; exact va_up_self _ _ _
      have ho37 : OutD md w w35 := OutD.up ho34 ew36 (by decide)
      have hq9 : RQ (bDrop (pNo (b_P β) k) k β) (((va_up (m_sort μ) k 0), (m_rule μ), m_parts μ, m_inp μ), ((m_size μ), (m_keys μ), (m_own μ), m_got μ, m_came μ), (upd (upd (m_trc μ) k (-1)) (12 + k) (-1), x9, c9, m_cnt μ, (m_circ μ)), (m_otrc μ, (m_occh μ), m_ocached μ, m_ocnt μ, (m_ocirc μ)), (0, m_wkr μ, (m_ran μ), (m_st μ), m_val μ), ((m_key μ), (m_ph μ), m_chk μ, (m_at μ), (m_cand μ), (m_cc μ), (m_mk μ), (m_asked μ), m_first μ, m_sum μ, m_hgt μ)) := rq_drop (μ := dThr 0 μ) hQ hk hx9 (pl := (va_up (m_sort μ) k 0, m_rule μ, m_parts μ, m_inp μ)) (plq_no (β := β) (μ := μ) hQ.1 rfl)
      have hk38 : ∀ i, U37 i → i ∉ [0] → w35 (md i) = w33 (md i) := fun i hi hn => by rw [ew36, va_up_ne _ _ (hj.ne hi (j := 0) (by decide) (fun e9 => hn (by rw [e9]; decide)))]
      exact W.vret hx hb hr (fun tS ht hW => ⟨⟨w35, rfl, ⟨(((va_up (m_sort μ) k 0), (m_rule μ), m_parts μ, m_inp μ), ((m_size μ), (m_keys μ), (m_own μ), m_got μ, m_came μ), (upd (upd (m_trc μ) k (-1)) (12 + k) (-1), x9, c9, m_cnt μ, (m_circ μ)), (m_otrc μ, (m_occh μ), m_ocached μ, m_ocnt μ, (m_ocirc μ)), (0, m_wkr μ, (m_ran μ), (m_st μ), m_val μ), ((m_key μ), (m_ph μ), m_chk μ, (m_at μ), (m_cand μ), (m_cc μ), (m_mk μ), (m_asked μ), m_first μ, m_sum μ, m_hgt μ)), ⟨(hk38 36 (by decide) (by decide)).trans r36, r0, (hk38 1 (by decide) (by decide)).trans r1, (hk38 2 (by decide) (by decide)).trans r2, (hk38 3 (by decide) (by decide)).trans r3, (hk38 4 (by decide) (by decide)).trans r4, (hk38 5 (by decide) (by decide)).trans r5, (hk38 6 (by decide) (by decide)).trans r6, (hk38 7 (by decide) (by decide)).trans r7, (hk38 8 (by decide) (by decide)).trans r8, ⟨_, (hk38 9 (by decide) (by decide)).trans r9⟩, (hk38 10 (by decide) (by decide)).trans r10, (hk38 11 (by decide) (by decide)).trans r11, (hk38 12 (by decide) (by decide)).trans r12, (hk38 13 (by decide) (by decide)).trans r13, (hk38 14 (by decide) (by decide)).trans r14, (hk38 15 (by decide) (by decide)).trans r15, (hk38 23 (by decide) (by decide)).trans r23, (hk38 24 (by decide) (by decide)).trans r24, (hk38 25 (by decide) (by decide)).trans r25, (hk38 26 (by decide) (by decide)).trans r26, (hk38 27 (by decide) (by decide)).trans r27, (hk38 28 (by decide) (by decide)).trans r28, (hk38 29 (by decide) (by decide)).trans r29, (hk38 30 (by decide) (by decide)).trans r30, (hk38 31 (by decide) (by decide)).trans r31, (hk38 32 (by decide) (by decide)).trans r32, (hk38 33 (by decide) (by decide)).trans r33, (hk38 34 (by decide) (by decide)).trans r34⟩, hq9, rfl, ho37⟩, mB_of ht hP⟩, hS.F ht⟩) hS.2.2 d_D_remove_41
    · exact absurd c2 (by omega)
  · exact absurd c1 (by decide)
set_option maxHeartbeats 4000000 in
set_option maxRecDepth 100000 in
theorem c_D_remove0 {l : Launch} {s0 : State} {dC : Nat → ClassId} {dI : Nat → Nat → Nat} {dA : Nat → ClassId} (B0 : BB s0 dC dI dA) (w : fw_W) (md : Nat → Nat) (μ : MS) (β : BS) (k : Nat) (hj : Inj37 md) (hD : RD dA md w μ) (hQ : RQ β μ) (hp : p_ok (b_P β)) (hk : k < 12) (hO : OB β) (hkd : p_kd (b_P β) k = 0) : Met l y_D_remove [.code y_D_remove b_D_remove 2 none] ({ frames := 1, cells := 0, slots := 0, locals := 40 }) (mP s0 dC dI w [.ref (md 36), .int (nI k)]) (mQv s0 dC dI (fun w' => MB dA md w w' β 2)) 0 0 (AA s0) := by
  have so3 := hQ.so3 hp hk
  obtain ⟨q1, -, -⟩ := hQ.1 k hk
  refine mt_ofW B0 (by decide) (Nat.le_of_ble_eq_true rfl) (fun p e s m args below meth c ls hargs X hin hl hP => ?_)
  have X9 := X
  obtain ⟨hx, hb, hr, hml, hown, hg, hK, hn, hE, hlocks, hA⟩ := X9
  have hS : va_S (AA s0) s.heap s.heap [] := va_S.rf
  have hl : lv_has ls 2 [(0, .ref (md 36)), (1, .int (nI k))] := hl
  obtain ⟨r36, r0, r1, r2, r3, r4, r5, r6, r7, r8, ⟨u, r9⟩, r10, r11, r12, r13, r14, r15, r23, r24, r25, r26, r27, r28, r29, r30, r31, r32, r33, r34⟩ := (id hD)
  refine lv_aload_n hx hb d_D_remove_0 rfl (lv_at hl 0 rfl) ?_
  refine lv_iload_n hx hb d_D_remove_1 rfl (lv_at hl 1 rfl) ?_
  refine lv_iconst (v := (nI 0)) hx hb d_D_remove_2 (by decide) ?_
  refine lv_bipush (v := (nI 11)) hx hb d_D_remove_3 (by decide) ?_
  refine va_calli (rn_S (n := 3) (As := [.int (nI k), .int (nI 0), .int (nI 11)]) (rest := [.ref (md 36)]) X hP hS (c_D_in B0 w (nI k) (nI 0) (nI 11)) k_708 k_709 k_58 k_710 (by decide +kernel) rfl rfl ⟨Nat.le_of_ble_eq_true rfl, Nat.le_of_ble_eq_true rfl⟩ rfl hl.1 rfl (Nat.le_of_ble_eq_true rfl) d_D_remove_5 ⟨Nat.le_of_ble_eq_true rfl, Nat.le_of_ble_eq_true rfl⟩) hS (fun q _ h => h) (fun q h => h) (fun r w39 tS H locs ht hvm hw hB hz1 hk1 hS => ?_)
  have hP : fw_P (dC, dI) cls_ (AA s0) w39 H := by rw [← ht]; exact hB
  obtain ⟨e9, b1, rfl, ib1⟩ := hw
  rw [e9] at hP
  have hv_b1 : b1 = true := ib1.mpr ((in_K _).mpr ⟨k, hk, rfl⟩)
  subst hv_b1
  refine va_calli (rn_V (n := 1) (As := [.int (nI true.toNat)]) (rest := []) (C := R_D) (T := F_D) (N := 36) (ci := 5) X hP hS (c_D_bad B0 w md μ true hj hD) k_711 k_713 k_38 k_58 k_714 (by decide +kernel) rfl rfl ⟨Nat.le_of_ble_eq_true rfl, Nat.le_of_ble_eq_true rfl⟩ r36 rfl rfl hl.1 rfl (Nat.le_of_ble_eq_true rfl) d_D_remove_8 ⟨Nat.le_of_ble_eq_true rfl, Nat.le_of_ble_eq_true rfl⟩) hS (fun q _ h => h) (fun q h => h) (fun r w40 tS H locs ht hvm hw hB hz1 hk1 hS => ?_)
  have hP : fw_P (dC, dI) cls_ (AA s0) w40 H := by rw [← ht]; exact hB
  obtain ⟨rfl, hR8, ho8⟩ := hw
  have hD1 : RD dA md w40 (dThr 0 μ) := hR8
  have ho41 : OutD md w w40 := OutD.tr OutD.rf ho8
  obtain ⟨r36, r0, r1, r2, r3, r4, r5, r6, r7, r8, ⟨u, r9⟩, r10, r11, r12, r13, r14, r15, r23, r24, r25, r26, r27, r28, r29, r30, r31, r32, r33, r34⟩ := (id hD1)
  refine nu_ifeq (tgt := 15) hx hb d_D_remove_11 (by decide) (fun c1 => ?_) (fun c1 => ?_)
  · refine lv_aload_n hx hb d_D_remove_15 rfl (lv_at hl 0 rfl) ?_
    have r36 : w40 (md 36) = some (.inr (5, [.ref (md 0), .ref (md 1), .ref (md 2), .ref (md 3), .ref (md 4), .ref (md 5), .ref (md 6), .ref (md 7), .ref (md 8), .ref (md 9), .ref (md 10), .ref (md 11), .ref (md 12), .ref (md 13), .ref (md 14), .ref (md 15), .int (nI (m_cached μ)), .int (nI (m_ocached μ)), .int (m_circ μ), .int (m_ocirc μ), .int (nI 0), .int (nI (m_wkr μ)), .int (nI (m_ran μ).toNat), .ref (md 23), .ref (md 24), .ref (md 25), .ref (md 26), .ref (md 27), .ref (md 28), .ref (md 29), .ref (md 30), .ref (md 31), .ref (md 32), .ref (md 33), .ref (md 34), .int (nI (m_hgt μ))])) := r36
    refine va_get (D := (dC, dI)) (ci := 5) (v := .ref (md 0)) (C := R_D) (T := F_D) (N := 36) hx hb hg in_D hown hK (hP.one r36) 0 rfl rfl 0 (by decide) (hg _ k_591) (fun _ h9 => h9) rfl d_D_remove_16 ?_
    refine lv_iload_n hx hb d_D_remove_19 rfl (lv_at hl 1 rfl) ?_
    have r0 : w40 (md 0) = some (.inl (dA 0, 12, .inl (nf (m_sort μ)))) := r0
    refine fw_iald (tys := tyl dA) hx hb hK hP r0 0 rfl (j := k) (by omega) (by decide) d_D_remove_20 ?_
    refine nu_zne (tgt := 29) hx hb (by omega) d_D_remove_21 (by decide) (fun c2 => ?_) (fun c2 => ?_)
    · exact absurd c2 (by omega)
    · refine lv_aload_n hx hb d_D_remove_24 rfl (lv_at hl 0 rfl) ?_
      refine lv_iconst (v := (nI 2)) hx hb d_D_remove_25 (by decide) ?_
      refine fw_put (D := (dC, dI)) (ci := 5) (v := .int (nI 2)) (ty := .int) (C := R_D) (T := F_D) (N := 36) hx hb hg in_D ft_D ft_D_ok n_D hown hK hP hS r36 rfl 20 (by decide) (hg _ k_611) (fun _ h9 => h9) rfl (by decide +kernel) rfl rfl (Nat.le_of_ble_eq_true rfl) d_D_remove_26 (fun w42 H locs ew43 hP hS => ?_)
      have r36 : w42 (md 36) = some (.inr (5, [.ref (md 0), .ref (md 1), .ref (md 2), .ref (md 3), .ref (md 4), .ref (md 5), .ref (md 6), .ref (md 7), .ref (md 8), .ref (md 9), .ref (md 10), .ref (md 11), .ref (md 12), .ref (md 13), .ref (md 14), .ref (md 15), .int (nI (m_cached μ)), .int (nI (m_ocached μ)), .int (m_circ μ), .int (m_ocirc μ), .int (nI 2), .int (nI (m_wkr μ)), .int (nI (m_ran μ).toNat), .ref (md 23), .ref (md 24), .ref (md 25), .ref (md 26), .ref (md 27), .ref (md 28), .ref (md 29), .ref (md 30), .ref (md 31), .ref (md 32), .ref (md 33), .ref (md 34), .int (nI (m_hgt μ))])) := by rw [ew43]; exact va_up_self _ _ _
      have ho44 : OutD md w w42 := OutD.up ho41 ew43 (by decide)
      refine lv_aload_n hx hb d_D_remove_29 rfl (lv_at hl 0 rfl) ?_
      refine lv_iload_n hx hb d_D_remove_30 rfl (lv_at hl 1 rfl) ?_
      have hk45 : ∀ i, U37 i → i ∉ [36] → w42 (md i) = w40 (md i) := fun i hi hn => by rw [ew43, va_up_ne _ _ (hj.ne hi (j := 36) (by decide) (fun e9 => hn (by rw [e9]; decide)))]
      have hD1 : RD dA md w42 (dThr 2 μ) := ⟨r36, (hk45 0 (by decide) (by decide)).trans r0, (hk45 1 (by decide) (by decide)).trans r1, (hk45 2 (by decide) (by decide)).trans r2, (hk45 3 (by decide) (by decide)).trans r3, (hk45 4 (by decide) (by decide)).trans r4, (hk45 5 (by decide) (by decide)).trans r5, (hk45 6 (by decide) (by decide)).trans r6, (hk45 7 (by decide) (by decide)).trans r7, (hk45 8 (by decide) (by decide)).trans r8, ⟨_, (hk45 9 (by decide) (by decide)).trans r9⟩, (hk45 10 (by decide) (by decide)).trans r10, (hk45 11 (by decide) (by decide)).trans r11, (hk45 12 (by decide) (by decide)).trans r12, (hk45 13 (by decide) (by decide)).trans r13, (hk45 14 (by decide) (by decide)).trans r14, (hk45 15 (by decide) (by decide)).trans r15, (hk45 23 (by decide) (by decide)).trans r23, (hk45 24 (by decide) (by decide)).trans r24, (hk45 25 (by decide) (by decide)).trans r25, (hk45 26 (by decide) (by decide)).trans r26, (hk45 27 (by decide) (by decide)).trans r27, (hk45 28 (by decide) (by decide)).trans r28, (hk45 29 (by decide) (by decide)).trans r29, (hk45 30 (by decide) (by decide)).trans r30, (hk45 31 (by decide) (by decide)).trans r31, (hk45 32 (by decide) (by decide)).trans r32, (hk45 33 (by decide) (by decide)).trans r33, (hk45 34 (by decide) (by decide)).trans r34⟩
      refine va_callv (rn_V (n := 1) (As := [.int (nI k)]) (rest := []) (C := R_D) (T := F_D) (N := 36) (ci := 5) X hP hS (c_D_forgetKey B0 w42 md (dThr 2 μ) k hj hD1 hk (by have := hQ.c16; show m_cached μ ≤ 17; omega) hQ.cs hQ.co) k_715 k_717 k_39 k_58 k_718 (by decide +kernel) rfl rfl ⟨Nat.le_of_ble_eq_true rfl, Nat.le_of_ble_eq_true rfl⟩ r36 rfl rfl hl.1 rfl (Nat.le_of_ble_eq_true rfl) d_D_remove_31 ⟨Nat.le_of_ble_eq_true rfl, Nat.le_of_ble_eq_true rfl⟩) hS (fun q _ h => h) (fun q h => h) (fun w46 tS H locs ht hvm hw hB hz1 hk1 hS => ?_)
      have hP : fw_P (dC, dI) cls_ (AA s0) w46 H := by rw [← ht]; exact hB
      obtain ⟨x9, c9, hR7, hx9, ho7⟩ := hw
      have ho47 : OutD md w w46 := OutD.tr ho44 ho7
      obtain ⟨r36, r0, r1, r2, r3, r4, r5, r6, r7, r8, ⟨u, r9⟩, r10, r11, r12, r13, r14, r15, r23, r24, r25, r26, r27, r28, r29, r30, r31, r32, r33, r34⟩ := (id hR7)
      refine lv_aload_n hx hb d_D_remove_34 rfl (lv_at hl 0 rfl) ?_
      have r36 : w46 (md 36) = some (.inr (5, [.ref (md 0), .ref (md 1), .ref (md 2), .ref (md 3), .ref (md 4), .ref (md 5), .ref (md 6), .ref (md 7), .ref (md 8), .ref (md 9), .ref (md 10), .ref (md 11), .ref (md 12), .ref (md 13), .ref (md 14), .ref (md 15), .int (nI c9), .int (nI (m_ocached μ)), .int (m_circ μ), .int (m_ocirc μ), .int (nI 2), .int (nI (m_wkr μ)), .int (nI (m_ran μ).toNat), .ref (md 23), .ref (md 24), .ref (md 25), .ref (md 26), .ref (md 27), .ref (md 28), .ref (md 29), .ref (md 30), .ref (md 31), .ref (md 32), .ref (md 33), .ref (md 34), .int (nI (m_hgt μ))])) := r36
      refine va_get (D := (dC, dI)) (ci := 5) (v := .ref (md 0)) (C := R_D) (T := F_D) (N := 36) hx hb hg in_D hown hK (hP.one r36) 0 rfl rfl 0 (by decide) (hg _ k_591) (fun _ h9 => h9) rfl d_D_remove_35 ?_
      refine lv_iload_n hx hb d_D_remove_38 rfl (lv_at hl 1 rfl) ?_
      refine lv_iconst (v := (nI 0)) hx hb d_D_remove_39 (by decide) ?_
      have r0 : w46 (md 0) = some (.inl (dA 0, 12, .inl (nf (m_sort μ)))) := r0
      refine fw_iast (tys := tyl dA) hx hb hK hP hS r0 0 rfl (j := k) (x := (nI 0)) (by omega) (by decide) d_D_remove_40 (fun w48 H locs ew49 hP hS => ?_)
      rw [nf_up] at ew49
      have r0 : w48 (md 0) = some (.inl (dA 0, 12, .inl (nf (va_up (m_sort μ) k 0)))) := by rw [ew49]; exact va_up_self _ _ _
      have ho50 : OutD md w w48 := OutD.up ho47 ew49 (by decide)
      have hq9 : RQ (bDrop (pNo (b_P β) k) k β) (((va_up (m_sort μ) k 0), (m_rule μ), m_parts μ, m_inp μ), ((m_size μ), (m_keys μ), (m_own μ), m_got μ, m_came μ), (upd (upd (m_trc μ) k (-1)) (12 + k) (-1), x9, c9, m_cnt μ, (m_circ μ)), (m_otrc μ, (m_occh μ), m_ocached μ, m_ocnt μ, (m_ocirc μ)), (2, m_wkr μ, (m_ran μ), (m_st μ), m_val μ), ((m_key μ), (m_ph μ), m_chk μ, (m_at μ), (m_cand μ), (m_cc μ), (m_mk μ), (m_asked μ), m_first μ, m_sum μ, m_hgt μ)) := rq_drop (μ := dThr 2 μ) hQ hk hx9 (pl := (va_up (m_sort μ) k 0, m_rule μ, m_parts μ, m_inp μ)) (plq_no (β := β) (μ := μ) hQ.1 rfl)
      have hk51 : ∀ i, U37 i → i ∉ [0] → w48 (md i) = w46 (md i) := fun i hi hn => by rw [ew49, va_up_ne _ _ (hj.ne hi (j := 0) (by decide) (fun e9 => hn (by rw [e9]; decide)))]
      exact W.vret hx hb hr (fun tS ht hW => ⟨⟨w48, rfl, ⟨(((va_up (m_sort μ) k 0), (m_rule μ), m_parts μ, m_inp μ), ((m_size μ), (m_keys μ), (m_own μ), m_got μ, m_came μ), (upd (upd (m_trc μ) k (-1)) (12 + k) (-1), x9, c9, m_cnt μ, (m_circ μ)), (m_otrc μ, (m_occh μ), m_ocached μ, m_ocnt μ, (m_ocirc μ)), (2, m_wkr μ, (m_ran μ), (m_st μ), m_val μ), ((m_key μ), (m_ph μ), m_chk μ, (m_at μ), (m_cand μ), (m_cc μ), (m_mk μ), (m_asked μ), m_first μ, m_sum μ, m_hgt μ)), ⟨(hk51 36 (by decide) (by decide)).trans r36, r0, (hk51 1 (by decide) (by decide)).trans r1, (hk51 2 (by decide) (by decide)).trans r2, (hk51 3 (by decide) (by decide)).trans r3, (hk51 4 (by decide) (by decide)).trans r4, (hk51 5 (by decide) (by decide)).trans r5, (hk51 6 (by decide) (by decide)).trans r6, (hk51 7 (by decide) (by decide)).trans r7, (hk51 8 (by decide) (by decide)).trans r8, ⟨_, (hk51 9 (by decide) (by decide)).trans r9⟩, (hk51 10 (by decide) (by decide)).trans r10, (hk51 11 (by decide) (by decide)).trans r11, (hk51 12 (by decide) (by decide)).trans r12, (hk51 13 (by decide) (by decide)).trans r13, (hk51 14 (by decide) (by decide)).trans r14, (hk51 15 (by decide) (by decide)).trans r15, (hk51 23 (by decide) (by decide)).trans r23, (hk51 24 (by decide) (by decide)).trans r24, (hk51 25 (by decide) (by decide)).trans r25, (hk51 26 (by decide) (by decide)).trans r26, (hk51 27 (by decide) (by decide)).trans r27, (hk51 28 (by decide) (by decide)).trans r28, (hk51 29 (by decide) (by decide)).trans r29, (hk51 30 (by decide) (by decide)).trans r30, (hk51 31 (by decide) (by decide)).trans r31, (hk51 32 (by decide) (by decide)).trans r32, (hk51 33 (by decide) (by decide)).trans r33, (hk51 34 (by decide) (by decide)).trans r34⟩, rq_no hk hO hkd hq9, rfl, ho50⟩, mB_of ht hP⟩, hS.F ht⟩) hS.2.2 d_D_remove_41
  · exact absurd c1 (by decide)
set_option maxHeartbeats 4000000 in
set_option maxRecDepth 100000 in
theorem c_D_forgetX {l : Launch} {s0 : State} {dC : Nat → ClassId} {dI : Nat → Nat → Nat} {dA : Nat → ClassId} (B0 : BB s0 dC dI dA) (w : fw_W) (md : Nat → Nat) (μ : MS) (β : BS) (a : Int32) (hj : Inj37 md) (hD : RD dA md w μ) (hQ : RQ β μ) (ho : ¬ okW a) : Met l y_D_forget [.code y_D_forget b_D_forget 4 (some .int)] ({ frames := 1, cells := 0, slots := 0, locals := 40 }) (mP s0 dC dI w [.ref (md 36), .int a]) (mQi s0 dC dI (fun r w' => MB dA md w w' β 1)) 0 0 (AA s0) := by
  refine mt_ofW B0 (by decide) (Nat.le_of_ble_eq_true rfl) (fun p e s m args below meth c ls hargs X hin hl hP => ?_)
  have X9 := X
  obtain ⟨hx, hb, hr, hml, hown, hg, hK, hn, hE, hlocks, hA⟩ := X9
  have hS : va_S (AA s0) s.heap s.heap [] := va_S.rf
  have hl : lv_has ls 4 [(0, .ref (md 36)), (1, .int a)] := hl
  obtain ⟨r36, r0, r1, r2, r3, r4, r5, r6, r7, r8, ⟨u, r9⟩, r10, r11, r12, r13, r14, r15, r23, r24, r25, r26, r27, r28, r29, r30, r31, r32, r33, r34⟩ := (id hD)
  refine lv_aload_n hx hb d_D_forget_0 rfl (lv_at hl 0 rfl) ?_
  refine lv_iload_n hx hb d_D_forget_1 rfl (lv_at hl 1 rfl) ?_
  refine lv_iconst (v := (nI 0)) hx hb d_D_forget_2 (by decide) ?_
  refine lv_iconst (v := (nI 1)) hx hb d_D_forget_3 (by decide) ?_
  refine va_calli (rn_S (n := 3) (As := [.int a, .int (nI 0), .int (nI 1)]) (rest := [.ref (md 36)]) X hP hS (c_D_in B0 w a (nI 0) (nI 1)) k_708 k_709 k_58 k_710 (by decide +kernel) rfl rfl ⟨Nat.le_of_ble_eq_true rfl, Nat.le_of_ble_eq_true rfl⟩ rfl hl.1 rfl (Nat.le_of_ble_eq_true rfl) d_D_forget_4 ⟨Nat.le_of_ble_eq_true rfl, Nat.le_of_ble_eq_true rfl⟩) hS (fun q _ h => h) (fun q h => h) (fun r w52 tS H locs ht hvm hw hB hz1 hk1 hS => ?_)
  have hP : fw_P (dC, dI) cls_ (AA s0) w52 H := by rw [← ht]; exact hB
  obtain ⟨e9, b1, rfl, ib1⟩ := hw
  rw [e9] at hP
  have hv_b1 : b1 = false := bF ib1 (fun h9 => ho ((in_W a).mp h9))
  subst hv_b1
  refine va_calli (rn_V (n := 1) (As := [.int (nI false.toNat)]) (rest := []) (C := R_D) (T := F_D) (N := 36) (ci := 5) X hP hS (c_D_bad B0 w md μ false hj hD) k_711 k_713 k_38 k_58 k_714 (by decide +kernel) rfl rfl ⟨Nat.le_of_ble_eq_true rfl, Nat.le_of_ble_eq_true rfl⟩ r36 rfl rfl hl.1 rfl (Nat.le_of_ble_eq_true rfl) d_D_forget_7 ⟨Nat.le_of_ble_eq_true rfl, Nat.le_of_ble_eq_true rfl⟩) hS (fun q _ h => h) (fun q h => h) (fun r w53 tS H locs ht hvm hw hB hz1 hk1 hS => ?_)
  have hP : fw_P (dC, dI) cls_ (AA s0) w53 H := by rw [← ht]; exact hB
  obtain ⟨rfl, hR8, ho8⟩ := hw
  have hD1 : RD dA md w53 (dThr 1 μ) := hR8
  have ho54 : OutD md w w53 := OutD.tr OutD.rf ho8
  obtain ⟨r36, r0, r1, r2, r3, r4, r5, r6, r7, r8, ⟨u, r9⟩, r10, r11, r12, r13, r14, r15, r23, r24, r25, r26, r27, r28, r29, r30, r31, r32, r33, r34⟩ := (id hD1)
  refine nu_ifeq (tgt := 15) hx hb d_D_forget_10 (by decide) (fun c1 => ?_) (fun c1 => ?_)
  · exact absurd c1 (by decide)
  · refine lv_iconst (v := (nI 0)) hx hb d_D_forget_13 (by decide) ?_
    exact W.iret (v := (nI 0)) hx hb hr (fun tS ht hW => ⟨⟨(nI 0), w53, rfl, ⟨dThr 1 μ, hD1, hQ, rfl, ho54⟩, mB_of ht hP⟩, hS.F ht⟩) hS.2.2 d_D_forget_14
set_option maxHeartbeats 4000000 in
set_option maxRecDepth 100000 in
theorem c_D_forget {l : Launch} {s0 : State} {dC : Nat → ClassId} {dI : Nat → Nat → Nat} {dA : Nat → ClassId} (B0 : BB s0 dC dI dA) (w : fw_W) (md : Nat → Nat) (μ : MS) (β : BS) (wk : Nat) (hj : Inj37 md) (hD : RD dA md w μ) (hQ : RQ β μ) (hwk : wk < 2) : Met l y_D_forget [.code y_D_forget b_D_forget 4 (some .int)] ({ frames := 1, cells := 0, slots := 0, locals := 40 }) (mP s0 dC dI w [.ref (md 36), .int (nI wk)]) (mQi s0 dC dI (fun r w' => r = nI (cntT (b_tr β) wk 12) ∧ MB dA md w w' (bForget wk β) 0)) 0 0 (AA s0) := by
  refine mt_ofW B0 (by decide) (Nat.le_of_ble_eq_true rfl) (fun p e s m args below meth c ls hargs X hin hl hP => ?_)
  have X9 := X
  obtain ⟨hx, hb, hr, hml, hown, hg, hK, hn, hE, hlocks, hA⟩ := X9
  have hS : va_S (AA s0) s.heap s.heap [] := va_S.rf
  have hl : lv_has ls 4 [(0, .ref (md 36)), (1, .int (nI wk))] := hl
  obtain ⟨r36, r0, r1, r2, r3, r4, r5, r6, r7, r8, ⟨u, r9⟩, r10, r11, r12, r13, r14, r15, r23, r24, r25, r26, r27, r28, r29, r30, r31, r32, r33, r34⟩ := (id hD)
  refine lv_aload_n hx hb d_D_forget_0 rfl (lv_at hl 0 rfl) ?_
  refine lv_iload_n hx hb d_D_forget_1 rfl (lv_at hl 1 rfl) ?_
  refine lv_iconst (v := (nI 0)) hx hb d_D_forget_2 (by decide) ?_
  refine lv_iconst (v := (nI 1)) hx hb d_D_forget_3 (by decide) ?_
  refine va_calli (rn_S (n := 3) (As := [.int (nI wk), .int (nI 0), .int (nI 1)]) (rest := [.ref (md 36)]) X hP hS (c_D_in B0 w (nI wk) (nI 0) (nI 1)) k_708 k_709 k_58 k_710 (by decide +kernel) rfl rfl ⟨Nat.le_of_ble_eq_true rfl, Nat.le_of_ble_eq_true rfl⟩ rfl hl.1 rfl (Nat.le_of_ble_eq_true rfl) d_D_forget_4 ⟨Nat.le_of_ble_eq_true rfl, Nat.le_of_ble_eq_true rfl⟩) hS (fun q _ h => h) (fun q h => h) (fun r w55 tS H locs ht hvm hw hB hz1 hk1 hS => ?_)
  have hP : fw_P (dC, dI) cls_ (AA s0) w55 H := by rw [← ht]; exact hB
  obtain ⟨e9, b1, rfl, ib1⟩ := hw
  rw [e9] at hP
  have hv_b1 : b1 = true := ib1.mpr ((in_W _).mpr ⟨wk, hwk, rfl⟩)
  subst hv_b1
  refine va_calli (rn_V (n := 1) (As := [.int (nI true.toNat)]) (rest := []) (C := R_D) (T := F_D) (N := 36) (ci := 5) X hP hS (c_D_bad B0 w md μ true hj hD) k_711 k_713 k_38 k_58 k_714 (by decide +kernel) rfl rfl ⟨Nat.le_of_ble_eq_true rfl, Nat.le_of_ble_eq_true rfl⟩ r36 rfl rfl hl.1 rfl (Nat.le_of_ble_eq_true rfl) d_D_forget_7 ⟨Nat.le_of_ble_eq_true rfl, Nat.le_of_ble_eq_true rfl⟩) hS (fun q _ h => h) (fun q h => h) (fun r w56 tS H locs ht hvm hw hB hz1 hk1 hS => ?_)
  have hP : fw_P (dC, dI) cls_ (AA s0) w56 H := by rw [← ht]; exact hB
  obtain ⟨rfl, hR8, ho8⟩ := hw
  have hD1 : RD dA md w56 (dThr 0 μ) := hR8
  have ho57 : OutD md w w56 := OutD.tr OutD.rf ho8
  obtain ⟨r36, r0, r1, r2, r3, r4, r5, r6, r7, r8, ⟨u, r9⟩, r10, r11, r12, r13, r14, r15, r23, r24, r25, r26, r27, r28, r29, r30, r31, r32, r33, r34⟩ := (id hD1)
  refine nu_ifeq (tgt := 15) hx hb d_D_forget_10 (by decide) (fun c1 => ?_) (fun c1 => ?_)
  · refine lv_aload_n hx hb d_D_forget_15 rfl (lv_at hl 0 rfl) ?_
    refine lv_iload_n hx hb d_D_forget_16 rfl (lv_at hl 1 rfl) ?_
    have r36 : w56 (md 36) = some (.inr (5, [.ref (md 0), .ref (md 1), .ref (md 2), .ref (md 3), .ref (md 4), .ref (md 5), .ref (md 6), .ref (md 7), .ref (md 8), .ref (md 9), .ref (md 10), .ref (md 11), .ref (md 12), .ref (md 13), .ref (md 14), .ref (md 15), .int (nI (m_cached μ)), .int (nI (m_ocached μ)), .int (m_circ μ), .int (m_ocirc μ), .int (nI 0), .int (nI (m_wkr μ)), .int (nI (m_ran μ).toNat), .ref (md 23), .ref (md 24), .ref (md 25), .ref (md 26), .ref (md 27), .ref (md 28), .ref (md 29), .ref (md 30), .ref (md 31), .ref (md 32), .ref (md 33), .ref (md 34), .int (nI (m_hgt μ))])) := r36
    refine va_calli (rn_V (n := 1) (As := [.int (nI wk)]) (rest := []) (C := R_D) (T := F_D) (N := 36) (ci := 5) X hP hS (c_D_tracesOf B0 w56 md (dThr 0 μ) wk hj hD1 hwk) k_790 k_792 k_51 k_58 k_793 (by decide +kernel) rfl rfl ⟨Nat.le_of_ble_eq_true rfl, Nat.le_of_ble_eq_true rfl⟩ r36 rfl rfl hl.1 rfl (Nat.le_of_ble_eq_true rfl) d_D_forget_17 ⟨Nat.le_of_ble_eq_true rfl, Nat.le_of_ble_eq_true rfl⟩) hS (fun q _ h => h) (fun q h => h) (fun r w58 tS H locs ht hvm hw hB hz1 hk1 hS => ?_)
    have hP : fw_P (dC, dI) cls_ (AA s0) w58 H := by rw [← ht]; exact hB
    obtain ⟨e9, rfl⟩ := hw
    rw [e9] at hP
    have hle := cntR_le (m_trc μ) wk 12
    refine lv_istore_n (lv' := [(2, .int (nI (cntR (m_trc μ) wk 12))), (0, .ref (md 36)), (1, .int (nI wk))]) hx hb d_D_forget_20 rfl hl (by decide) rfl (fun ls hl => ?_)
    refine lv_iconst (v := (nI 0)) hx hb d_D_forget_21 (by decide) ?_
    refine lv_istore_n (lv' := [(3, .int (nI 0)), (2, .int (nI (cntR (m_trc μ) wk 12))), (0, .ref (md 36)), (1, .int (nI wk))]) hx hb d_D_forget_22 rfl hl (by decide) rfl (fun ls hl => ?_)
    suffices lp : ∀ (n : Nat) (i : Nat) (f9 : Nat → Int32), (i ≤ 12) → (∀ j, j < i → f9 (12 * wk + j) = -1) → (∀ z, z < 12 * wk ∨ 12 * wk + 12 ≤ z → f9 z = m_trc μ z) → (12 < i + n) → ∀ (wl : fw_W) (H : Heap) (locs : List Loc), (RD dA md wl (u_mm (dThr 0 μ) (f9, m_cch μ, m_cached μ, m_cnt μ, m_circ μ))) → (OutD md w wl) → fw_P (dC, dI) cls_ (AA s0) wl H → va_S (AA s0) s.heap H locs → ∀ (ls : Array Slot), lv_has ls 4 [(0, .ref (md 36)), (1, .int (nI wk)), (2, .int (nI (cntR (m_trc μ) wk 12))), (3, .int (nI i))] → W p l e _ s m args below meth c H locs 0 0 (MQ below _ args s 0 0 (AA s0)) (F0 m 23 ls []) from lp 13 0 (m_trc μ) (by omega) (fun j hj9 => by omega) (fun _ _ => rfl) (by omega) _ _ _  (⟨r36, r0, r1, r2, r3, r4, r5, r6, r7, r8, ⟨_, r9⟩, r10, r11, r12, r13, r14, r15, r23, r24, r25, r26, r27, r28, r29, r30, r31, r32, r33, r34⟩) ho57 hP hS ls (lv_sub hl [2, 3, 1, 0] rfl)
    intro n
    induction n with
    | zero => intro i f9 hi hf1 hf2 hbn; exact absurd hbn (by omega)
    | succ n ih =>
      intro i f9 hi hf1 hf2 hbn wl H locs  hR9 ho9 hP hS ls hl
      obtain ⟨r36, r0, r1, r2, r3, r4, r5, r6, r7, r8, ⟨u, r9⟩, r10, r11, r12, r13, r14, r15, r23, r24, r25, r26, r27, r28, r29, r30, r31, r32, r33, r34⟩ := (id hR9)
      refine lv_iload_n hx hb d_D_forget_23 rfl (lv_at hl 3 rfl) ?_
      refine lv_bipush (v := (nI 12)) hx hb d_D_forget_24 (by decide) ?_
      refine nu_ge (tgt := 47) hx hb (by omega) (by omega) d_D_forget_26 (by decide) (fun c2 => ?_) (fun c2 => ?_)
      · refine lv_iload_n hx hb d_D_forget_47 rfl (lv_at hl 2 rfl) ?_
        have hi9 : i = 12 := by omega
        rw [hi9] at hf1
        exact W.iret (v := (nI (cntR (m_trc μ) wk 12))) hx hb hr (fun tS ht hW => ⟨⟨(nI (cntR (m_trc μ) wk 12)), wl, rfl, ⟨by rw [cnt_RT hQ hwk 12 (by omega)], ⟨_, hR9, rq_forget (μ := dThr 0 μ) hQ hf1 hf2, rfl, ho9⟩⟩, mB_of ht hP⟩, hS.F ht⟩) hS.2.2 d_D_forget_48
      · refine lv_aload_n hx hb d_D_forget_29 rfl (lv_at hl 0 rfl) ?_
        have r36 : wl (md 36) = some (.inr (5, [.ref (md 0), .ref (md 1), .ref (md 2), .ref (md 3), .ref (md 4), .ref (md 5), .ref (md 6), .ref (md 7), .ref (md 8), .ref (md 9), .ref (md 10), .ref (md 11), .ref (md 12), .ref (md 13), .ref (md 14), .ref (md 15), .int (nI (m_cached μ)), .int (nI (m_ocached μ)), .int (m_circ μ), .int (m_ocirc μ), .int (nI 0), .int (nI (m_wkr μ)), .int (nI (m_ran μ).toNat), .ref (md 23), .ref (md 24), .ref (md 25), .ref (md 26), .ref (md 27), .ref (md 28), .ref (md 29), .ref (md 30), .ref (md 31), .ref (md 32), .ref (md 33), .ref (md 34), .int (nI (m_hgt μ))])) := r36
        refine va_get (D := (dC, dI)) (ci := 5) (v := .ref (md 10)) (C := R_D) (T := F_D) (N := 36) hx hb hg in_D hown hK (hP.one r36) 0 rfl rfl 10 (by decide) (hg _ k_601) (fun _ h9 => h9) rfl d_D_forget_30 ?_
        refine lv_iload_n hx hb d_D_forget_33 rfl (lv_at hl 1 rfl) ?_
        refine lv_bipush (v := (nI 12)) hx hb d_D_forget_34 (by decide) ?_
        refine nu_imul (r := 12 * wk) hx hb d_D_forget_36 (by omega) ?_
        refine lv_iload_n hx hb d_D_forget_37 rfl (lv_at hl 3 rfl) ?_
        refine nu_iadd (r := 12 * wk + i) hx hb d_D_forget_38 (by omega) ?_
        refine lv_iconst (v := (-1)) hx hb d_D_forget_39 (by decide) ?_
        have r10 : wl (md 10) = some (.inl (dA 0, 24, .inl f9)) := r10
        refine fw_iast (tys := tyl dA) hx hb hK hP hS r10 0 rfl (j := 12 * wk + i) (x := (-1)) (by omega) (by decide) d_D_forget_40 (fun w59 H locs ew60 hP hS => ?_)
        have r10 : w59 (md 10) = some (.inl (dA 0, 24, .inl (upd f9 (12 * wk + i) (-1)))) := by rw [ew60]; exact va_up_self _ _ _
        have ho61 : OutD md w w59 := OutD.up ho9 ew60 (by decide)
        refine lv_iinc (v := nI (i + 1)) (lv' := [(3, .int (nI (i + 1))), (0, .ref (md 36)), (1, .int (nI wk)), (2, .int (nI (cntR (m_trc μ) wk 12)))]) hx hb d_D_forget_41 hl (k := 3) rfl (nI_add _ 1) (by decide) rfl (fun ls hl => ?_)
        refine lv_goto (tgt := 23) hx hb d_D_forget_44 (by decide) ?_
        have hk62 : ∀ i, U37 i → i ∉ [10] → w59 (md i) = wl (md i) := fun i hi hn => by rw [ew60, va_up_ne _ _ (hj.ne hi (j := 10) (by decide) (fun e9 => hn (by rw [e9]; decide)))]
        exact ih (i + 1) (upd f9 (12 * wk + i) (-1)) (by omega) (fun j hj9 => (Nat.lt_or_ge j i).elim (fun h9 => (pk_un (by omega)).trans (hf1 j h9)) (fun h9 => by rw [show j = i by omega, pk_us])) (fun z hz9 => (pk_un (by omega)).trans (hf2 z hz9)) (by omega) _ _ _  (⟨(hk62 36 (by decide) (by decide)).trans r36, (hk62 0 (by decide) (by decide)).trans r0, (hk62 1 (by decide) (by decide)).trans r1, (hk62 2 (by decide) (by decide)).trans r2, (hk62 3 (by decide) (by decide)).trans r3, (hk62 4 (by decide) (by decide)).trans r4, (hk62 5 (by decide) (by decide)).trans r5, (hk62 6 (by decide) (by decide)).trans r6, (hk62 7 (by decide) (by decide)).trans r7, (hk62 8 (by decide) (by decide)).trans r8, ⟨_, (hk62 9 (by decide) (by decide)).trans r9⟩, r10, (hk62 11 (by decide) (by decide)).trans r11, (hk62 12 (by decide) (by decide)).trans r12, (hk62 13 (by decide) (by decide)).trans r13, (hk62 14 (by decide) (by decide)).trans r14, (hk62 15 (by decide) (by decide)).trans r15, (hk62 23 (by decide) (by decide)).trans r23, (hk62 24 (by decide) (by decide)).trans r24, (hk62 25 (by decide) (by decide)).trans r25, (hk62 26 (by decide) (by decide)).trans r26, (hk62 27 (by decide) (by decide)).trans r27, (hk62 28 (by decide) (by decide)).trans r28, (hk62 29 (by decide) (by decide)).trans r29, (hk62 30 (by decide) (by decide)).trans r30, (hk62 31 (by decide) (by decide)).trans r31, (hk62 32 (by decide) (by decide)).trans r32, (hk62 33 (by decide) (by decide)).trans r33, (hk62 34 (by decide) (by decide)).trans r34⟩) ho61 hP hS ls (lv_sub hl [1, 2, 3, 0] rfl)
  · exact absurd c1 (by decide)
set_option maxHeartbeats 4000000 in
set_option maxRecDepth 100000 in
theorem c_D_shrinkX {l : Launch} {s0 : State} {dC : Nat → ClassId} {dI : Nat → Nat → Nat} {dA : Nat → ClassId} (B0 : BB s0 dC dI dA) (w : fw_W) (md : Nat → Nat) (μ : MS) (β : BS) (a : Int32) (hj : Inj37 md) (hD : RD dA md w μ) (hQ : RQ β μ) (ho : ¬ ∃ j, j ≤ 16 ∧ a = nI j) : Met l y_D_shrink [.code y_D_shrink b_D_shrink 2 (some .int)] ({ frames := 1, cells := 0, slots := 0, locals := 40 }) (mP s0 dC dI w [.ref (md 36), .int a]) (mQi s0 dC dI (fun r w' => MB dA md w w' β 1)) 0 0 (AA s0) := by
  refine mt_ofW B0 (by decide) (Nat.le_of_ble_eq_true rfl) (fun p e s m args below meth c ls hargs X hin hl hP => ?_)
  have X9 := X
  obtain ⟨hx, hb, hr, hml, hown, hg, hK, hn, hE, hlocks, hA⟩ := X9
  have hS : va_S (AA s0) s.heap s.heap [] := va_S.rf
  have hl : lv_has ls 2 [(0, .ref (md 36)), (1, .int a)] := hl
  obtain ⟨r36, r0, r1, r2, r3, r4, r5, r6, r7, r8, ⟨u, r9⟩, r10, r11, r12, r13, r14, r15, r23, r24, r25, r26, r27, r28, r29, r30, r31, r32, r33, r34⟩ := (id hD)
  refine lv_aload_n hx hb d_D_shrink_0 rfl (lv_at hl 0 rfl) ?_
  refine lv_iload_n hx hb d_D_shrink_1 rfl (lv_at hl 1 rfl) ?_
  refine lv_iconst (v := (nI 0)) hx hb d_D_shrink_2 (by decide) ?_
  refine lv_bipush (v := (nI 16)) hx hb d_D_shrink_3 (by decide) ?_
  refine va_calli (rn_S (n := 3) (As := [.int a, .int (nI 0), .int (nI 16)]) (rest := [.ref (md 36)]) X hP hS (c_D_in B0 w a (nI 0) (nI 16)) k_708 k_709 k_58 k_710 (by decide +kernel) rfl rfl ⟨Nat.le_of_ble_eq_true rfl, Nat.le_of_ble_eq_true rfl⟩ rfl hl.1 rfl (Nat.le_of_ble_eq_true rfl) d_D_shrink_5 ⟨Nat.le_of_ble_eq_true rfl, Nat.le_of_ble_eq_true rfl⟩) hS (fun q _ h => h) (fun q h => h) (fun r w63 tS H locs ht hvm hw hB hz1 hk1 hS => ?_)
  have hP : fw_P (dC, dI) cls_ (AA s0) w63 H := by rw [← ht]; exact hB
  obtain ⟨e9, b1, rfl, ib1⟩ := hw
  rw [e9] at hP
  have hv_b1 : b1 = false := bF ib1 (fun h9 => ho ((in_n (by omega) a).mp h9))
  subst hv_b1
  refine va_calli (rn_V (n := 1) (As := [.int (nI false.toNat)]) (rest := []) (C := R_D) (T := F_D) (N := 36) (ci := 5) X hP hS (c_D_bad B0 w md μ false hj hD) k_711 k_713 k_38 k_58 k_714 (by decide +kernel) rfl rfl ⟨Nat.le_of_ble_eq_true rfl, Nat.le_of_ble_eq_true rfl⟩ r36 rfl rfl hl.1 rfl (Nat.le_of_ble_eq_true rfl) d_D_shrink_8 ⟨Nat.le_of_ble_eq_true rfl, Nat.le_of_ble_eq_true rfl⟩) hS (fun q _ h => h) (fun q h => h) (fun r w64 tS H locs ht hvm hw hB hz1 hk1 hS => ?_)
  have hP : fw_P (dC, dI) cls_ (AA s0) w64 H := by rw [← ht]; exact hB
  obtain ⟨rfl, hR8, ho8⟩ := hw
  have hD1 : RD dA md w64 (dThr 1 μ) := hR8
  have ho65 : OutD md w w64 := OutD.tr OutD.rf ho8
  obtain ⟨r36, r0, r1, r2, r3, r4, r5, r6, r7, r8, ⟨u, r9⟩, r10, r11, r12, r13, r14, r15, r23, r24, r25, r26, r27, r28, r29, r30, r31, r32, r33, r34⟩ := (id hD1)
  refine nu_ifeq (tgt := 16) hx hb d_D_shrink_11 (by decide) (fun c1 => ?_) (fun c1 => ?_)
  · exact absurd c1 (by decide)
  · refine lv_iconst (v := (nI 0)) hx hb d_D_shrink_14 (by decide) ?_
    exact W.iret (v := (nI 0)) hx hb hr (fun tS ht hW => ⟨⟨(nI 0), w64, rfl, ⟨dThr 1 μ, hD1, hQ, rfl, ho65⟩, mB_of ht hP⟩, hS.F ht⟩) hS.2.2 d_D_shrink_15
set_option maxHeartbeats 4000000 in
set_option maxRecDepth 100000 in
theorem c_D_shrink {l : Launch} {s0 : State} {dC : Nat → ClassId} {dI : Nat → Nat → Nat} {dA : Nat → ClassId} (B0 : BB s0 dC dI dA) (w : fw_W) (md : Nat → Nat) (μ : MS) (β : BS) (n0 : Nat) (hj : Inj37 md) (hD : RD dA md w μ) (hQ : RQ β μ) (hn0 : n0 ≤ 16) : Met l y_D_shrink [.code y_D_shrink b_D_shrink 2 (some .int)] ({ frames := 1, cells := 0, slots := 0, locals := 40 }) (mP s0 dC dI w [.ref (md 36), .int (nI n0)]) (mQi s0 dC dI (fun r w' => r = nI ((b_cl β).length - n0) ∧ MB dA md w w' (bShrink n0 β) 0)) 0 0 (AA s0) := by
  have hc16 := hQ.c16
  refine mt_ofW B0 (by decide) (Nat.le_of_ble_eq_true rfl) (fun p e s m args below meth c ls hargs X hin hl hP => ?_)
  have X9 := X
  obtain ⟨hx, hb, hr, hml, hown, hg, hK, hn, hE, hlocks, hA⟩ := X9
  have hS : va_S (AA s0) s.heap s.heap [] := va_S.rf
  have hl : lv_has ls 2 [(0, .ref (md 36)), (1, .int (nI n0))] := hl
  obtain ⟨r36, r0, r1, r2, r3, r4, r5, r6, r7, r8, ⟨u, r9⟩, r10, r11, r12, r13, r14, r15, r23, r24, r25, r26, r27, r28, r29, r30, r31, r32, r33, r34⟩ := (id hD)
  refine lv_aload_n hx hb d_D_shrink_0 rfl (lv_at hl 0 rfl) ?_
  refine lv_iload_n hx hb d_D_shrink_1 rfl (lv_at hl 1 rfl) ?_
  refine lv_iconst (v := (nI 0)) hx hb d_D_shrink_2 (by decide) ?_
  refine lv_bipush (v := (nI 16)) hx hb d_D_shrink_3 (by decide) ?_
  refine va_calli (rn_S (n := 3) (As := [.int (nI n0), .int (nI 0), .int (nI 16)]) (rest := [.ref (md 36)]) X hP hS (c_D_in B0 w (nI n0) (nI 0) (nI 16)) k_708 k_709 k_58 k_710 (by decide +kernel) rfl rfl ⟨Nat.le_of_ble_eq_true rfl, Nat.le_of_ble_eq_true rfl⟩ rfl hl.1 rfl (Nat.le_of_ble_eq_true rfl) d_D_shrink_5 ⟨Nat.le_of_ble_eq_true rfl, Nat.le_of_ble_eq_true rfl⟩) hS (fun q _ h => h) (fun q h => h) (fun r w66 tS H locs ht hvm hw hB hz1 hk1 hS => ?_)
  have hP : fw_P (dC, dI) cls_ (AA s0) w66 H := by rw [← ht]; exact hB
  obtain ⟨e9, b1, rfl, ib1⟩ := hw
  rw [e9] at hP
  have hv_b1 : b1 = true := ib1.mpr ((in_n (by omega) _).mpr ⟨n0, hn0, rfl⟩)
  subst hv_b1
  refine va_calli (rn_V (n := 1) (As := [.int (nI true.toNat)]) (rest := []) (C := R_D) (T := F_D) (N := 36) (ci := 5) X hP hS (c_D_bad B0 w md μ true hj hD) k_711 k_713 k_38 k_58 k_714 (by decide +kernel) rfl rfl ⟨Nat.le_of_ble_eq_true rfl, Nat.le_of_ble_eq_true rfl⟩ r36 rfl rfl hl.1 rfl (Nat.le_of_ble_eq_true rfl) d_D_shrink_8 ⟨Nat.le_of_ble_eq_true rfl, Nat.le_of_ble_eq_true rfl⟩) hS (fun q _ h => h) (fun q h => h) (fun r w67 tS H locs ht hvm hw hB hz1 hk1 hS => ?_)
  have hP : fw_P (dC, dI) cls_ (AA s0) w67 H := by rw [← ht]; exact hB
  obtain ⟨rfl, hR8, ho8⟩ := hw
  have hD1 : RD dA md w67 (dThr 0 μ) := hR8
  have ho68 : OutD md w w67 := OutD.tr OutD.rf ho8
  obtain ⟨r36, r0, r1, r2, r3, r4, r5, r6, r7, r8, ⟨u, r9⟩, r10, r11, r12, r13, r14, r15, r23, r24, r25, r26, r27, r28, r29, r30, r31, r32, r33, r34⟩ := (id hD1)
  refine nu_ifeq (tgt := 16) hx hb d_D_shrink_11 (by decide) (fun c1 => ?_) (fun c1 => ?_)
  · refine lv_aload_n hx hb d_D_shrink_16 rfl (lv_at hl 0 rfl) ?_
    refine lv_iload_n hx hb d_D_shrink_17 rfl (lv_at hl 1 rfl) ?_
    have r36 : w67 (md 36) = some (.inr (5, [.ref (md 0), .ref (md 1), .ref (md 2), .ref (md 3), .ref (md 4), .ref (md 5), .ref (md 6), .ref (md 7), .ref (md 8), .ref (md 9), .ref (md 10), .ref (md 11), .ref (md 12), .ref (md 13), .ref (md 14), .ref (md 15), .int (nI (m_cached μ)), .int (nI (m_ocached μ)), .int (m_circ μ), .int (m_ocirc μ), .int (nI 0), .int (nI (m_wkr μ)), .int (nI (m_ran μ).toNat), .ref (md 23), .ref (md 24), .ref (md 25), .ref (md 26), .ref (md 27), .ref (md 28), .ref (md 29), .ref (md 30), .ref (md 31), .ref (md 32), .ref (md 33), .ref (md 34), .int (nI (m_hgt μ))])) := r36
    refine va_calli (rn_V (n := 1) (As := [.int (nI n0)]) (rest := []) (C := R_D) (T := F_D) (N := 36) (ci := 5) X hP hS (c_D_cut B0 w67 md (dThr 0 μ) n0 hj hD1 hn0 (show m_cached μ ≤ 17 by omega)) k_755 k_757 k_45 k_58 k_758 (by decide +kernel) rfl rfl ⟨Nat.le_of_ble_eq_true rfl, Nat.le_of_ble_eq_true rfl⟩ r36 rfl rfl hl.1 rfl (Nat.le_of_ble_eq_true rfl) d_D_shrink_18 ⟨Nat.le_of_ble_eq_true rfl, Nat.le_of_ble_eq_true rfl⟩) hS (fun q _ h => h) (fun q h => h) (fun r w69 tS H locs ht hvm hw hB hz1 hk1 hS => ?_)
    have hP : fw_P (dC, dI) cls_ (AA s0) w69 H := by rw [← ht]; exact hB
    obtain ⟨rfl, x9, hR7, hx9, ho7⟩ := hw
    have ho70 : OutD md w w69 := OutD.tr ho68 ho7
    exact W.iret (v := (nI (m_cached μ - n0))) hx hb hr (fun tS ht hW => ⟨⟨(nI (m_cached μ - n0)), w69, rfl, ⟨by rw [show (b_cl β).length = m_cached μ from hQ.2.1.2.2.1], ⟨_, hR7, rq_shrink (μ := dThr 0 μ) hQ hx9, rfl, ho70⟩⟩, mB_of ht hP⟩, hS.F ht⟩) hS.2.2 d_D_shrink_21
  · exact absurd c1 (by decide)
