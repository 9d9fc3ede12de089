/-- the reference's remainder -/
def dMod (v : Int64) (n : Nat) : Int64 := (v - v / (nI n).toInt64 * (nI n).toInt64 + (nI n).toInt64) - (v - v / (nI n).toInt64 * (nI n).toInt64 + (nI n).toInt64) / (nI n).toInt64 * (nI n).toInt64
def dWant (μ : MS) (f : Nat) : Int32 :=
  if m_rule μ (m_key μ f) < 2 ∨ m_rule μ (m_key μ f) = 6 then (if m_asked μ f = 3 then -1 else m_parts μ (3 * m_key μ f + m_asked μ f))
  else if m_asked μ f = 0 then m_parts μ (3 * m_key μ f)
  else if m_rule μ (m_key μ f) = 2 then (if m_asked μ f = 2 then -1 else if 0 < m_first μ f then m_parts μ (3 * m_key μ f + 1) else m_parts μ (3 * m_key μ f + 2))
  else if m_rule μ (m_key μ f) = 4 then (if m_asked μ f = 2 then -1 else (dMod (m_first μ f) 12).toInt32)
  else if m_rule μ (m_key μ f) = 7 then (if dMod (m_first μ f) 4 < (nI (m_asked μ f)).toInt64 then -1 else m_parts μ (3 * m_key μ f + 1))
  else if m_rule μ (m_key μ f) = 8 ∨ m_asked μ f = 2 then -1 else m_parts μ (3 * m_key μ f + 1)
def dAcc (r n : Nat) (s v : Int64) : Int64 := if r = 0 ∨ r = 7 then s + v else if r = 1 then s * v else if r = 6 then (if n = 0 ∨ s < v then v else s) else v
def dFst (n f : Nat) (v : Int64) (g : Nat → Int64) : Nat → Int64 := if n = 0 then vp_updL g f v else g
def dTake (f : Nat) (v : Int64) (μ : MS) : MS := u_fr μ (m_key μ, m_ph μ, m_chk μ, m_at μ, m_cand μ, m_cc μ, m_mk μ, va_up (m_asked μ) f (m_asked μ f + 1), dFst (m_asked μ f) f v (m_first μ), vp_updL (m_sum μ) f (dAcc (m_rule μ (m_key μ f)) (m_asked μ f) (m_sum μ f) v), m_hgt μ)
def dThr (n : Nat) (μ : MS) : MS := u_se μ (n, m_wkr μ, m_ran μ, m_st μ, m_val μ)
def dFin (f : Nat) (v : Int64) (μ : MS) : MS := u_fr (u_se μ (m_thr μ, m_wkr μ, m_ran μ, va_up (m_st μ) (m_key μ f) 2, vp_updL (m_val μ) (m_key μ f) v)) (m_key μ, m_ph μ, m_chk μ, m_at μ, m_cand μ, m_cc μ, m_mk μ, m_asked μ, m_first μ, m_sum μ, m_hgt μ - 1)
def dPush (k : Nat) (μ : MS) : MS := u_fr (u_se μ (m_thr μ, m_wkr μ, m_ran μ, va_up (m_st μ) k 1, m_val μ)) (va_up (m_key μ) (m_hgt μ) k, va_up (m_ph μ) (m_hgt μ) 1, upd (m_chk μ) (m_hgt μ) (m_trc μ (12 * m_wkr μ + k)), va_up (m_at μ) (m_hgt μ) 0, m_cand μ, va_up (m_cc μ) (m_hgt μ) 0, m_mk μ, m_asked μ, m_first μ, m_sum μ, m_hgt μ + 1)
def dAskB (k : Nat) (μ : MS) : Bool := if m_st μ k = 2 then true else if m_st μ k = 1 then false else if m_sort μ k = 0 then false else if m_sort μ k = 1 then true else false
def dAsk (k : Nat) (μ : MS) : MS :=
  if m_st μ k = 2 then μ
  else if m_st μ k = 1 then u_mm (dThr 4 μ) (m_trc μ, m_cch μ, m_cached μ, m_cnt μ, m_circ μ + nI 1)
  else if m_sort μ k = 0 then dThr 2 μ
  else if m_sort μ k = 1 then u_se μ (m_thr μ, m_wkr μ, m_ran μ, va_up (m_st μ) k 2, vp_updL (m_val μ) k (m_inp μ k))
  else dPush k μ
set_option maxHeartbeats 4000000 in
set_option maxRecDepth 100000 in
theorem c_D_thrown {l : Launch} {s0 : State} {dC : Nat → ClassId} {dI : Nat → Nat → Nat} {dA : Nat → ClassId} (B0 : BB s0 dC dI dA) (w : fw_W) (md : Nat → Nat) (μ : MS) (hj : Inj37 md) (hD : RD dA md w μ) : Met l y_D_thrown [.code y_D_thrown b_D_thrown 1 (some .int)] ({ frames := 0, cells := 0, slots := 0, locals := 0 }) (mP s0 dC dI w [.ref (md 36)]) (mQi s0 dC dI (fun r w' => w' = w ∧ r = nI (m_thr μ))) 0 0 (AA s0) := by
  refine mt_ofW B0 (by decide) (Nat.le_of_ble_eq_true rfl) (fun p e s m args below meth c ls hargs X hin hl hP => ?_)
  have X9 := X
  obtain ⟨hx, hb, hr, hml, hown, hg, hK, hn, hE, hlocks, hA⟩ := X9
  have hS : va_S (AA s0) s.heap s.heap [] := va_S.rf
  have hl : lv_has ls 1 [(0, .ref (md 36))] := hl
  obtain ⟨r36, r0, r1, r2, r3, r4, r5, r6, r7, r8, ⟨u, r9⟩, r10, r11, r12, r13, r14, r15, r23, r24, r25, r26, r27, r28, r29, r30, r31, r32, r33, r34⟩ := (id hD)
  refine lv_aload_n hx hb d_D_thrown_0 rfl (lv_at hl 0 rfl) ?_
  refine va_get (D := (dC, dI)) (ci := 5) (v := .int (nI (m_thr μ))) (C := R_D) (T := F_D) (N := 36) hx hb hg in_D hown hK (hP.one r36) 0 rfl rfl 20 (by decide) (hg _ k_611) (fun _ h9 => h9) rfl d_D_thrown_1 ?_
  exact W.iret (v := (nI (m_thr μ))) hx hb hr (fun tS ht hW => ⟨⟨(nI (m_thr μ)), w, rfl, ⟨rfl, rfl⟩, mB_of ht hP⟩, hS.F ht⟩) hS.2.2 d_D_thrown_4
set_option maxHeartbeats 4000000 in
set_option maxRecDepth 100000 in
theorem c_D_in {l : Launch} {s0 : State} {dC : Nat → ClassId} {dI : Nat → Nat → Nat} {dA : Nat → ClassId} (B0 : BB s0 dC dI dA) (w : fw_W) (v a b : Int32)  : Met l y_D_in [.code y_D_in b_D_in 3 (some .boolean)] ({ frames := 0, cells := 0, slots := 0, locals := 0 }) (mP s0 dC dI w [.int v, .int a, .int b]) (mQi s0 dC dI (fun r w' => w' = w ∧ ∃ b9 : Bool, r = nI b9.toNat ∧ (b9 = true ↔ (a ≤ v ∧ v ≤ b)))) 0 0 (AA s0) := by
  refine mt_ofW B0 (by decide) (Nat.le_of_ble_eq_true rfl) (fun p e s m args below meth c ls hargs X hin hl hP => ?_)
  have X9 := X
  obtain ⟨hx, hb, hr, hml, hown, hg, hK, hn, hE, hlocks, hA⟩ := X9
  have hS : va_S (AA s0) s.heap s.heap [] := va_S.rf
  have hl : lv_has ls 3 [(0, .int v), (1, .int a), (2, .int b)] := hl
  refine lv_iload_n hx hb d_D_in_0 rfl (lv_at hl 0 rfl) ?_
  refine lv_iload_n hx hb d_D_in_1 rfl (lv_at hl 1 rfl) ?_
  refine lv_icmp_lt (tgt := 14) hx hb d_D_in_2 (by decide) (fun c1 => ?_) (fun c1 => ?_)
  · refine lv_iconst (v := (nI 0)) hx hb d_D_in_14 (by decide) ?_
    exact W.zret (v := (nI 0)) hx hb hr (by decide) (fun tS ht hW => ⟨⟨(nI 0), w, rfl, ⟨rfl, false, rfl, fun h9 => (by cases h9), fun h9 => absurd h9 (fun h8 => absurd (Int32.not_lt.mpr h8.1) (fun h7 => h7 c1))⟩, mB_of ht hP⟩, hS.F ht⟩) hS.2.2 d_D_in_15
  · refine lv_iload_n hx hb d_D_in_5 rfl (lv_at hl 0 rfl) ?_
    refine lv_iload_n hx hb d_D_in_6 rfl (lv_at hl 2 rfl) ?_
    refine lv_icmp_gt (tgt := 14) hx hb d_D_in_7 (by decide) (fun c2 => ?_) (fun c2 => ?_)
    · refine lv_iconst (v := (nI 0)) hx hb d_D_in_14 (by decide) ?_
      exact W.zret (v := (nI 0)) hx hb hr (by decide) (fun tS ht hW => ⟨⟨(nI 0), w, rfl, ⟨rfl, false, rfl, fun h9 => (by cases h9), fun h9 => absurd h9 (fun h8 => absurd (Int32.not_lt.mpr h8.2) (fun h7 => h7 c2))⟩, mB_of ht hP⟩, hS.F ht⟩) hS.2.2 d_D_in_15
    · refine lv_iconst (v := (nI 1)) hx hb d_D_in_10 (by decide) ?_
      refine lv_goto (tgt := 15) hx hb d_D_in_11 (by decide) ?_
      exact W.zret (v := (nI 1)) hx hb hr (by decide) (fun tS ht hW => ⟨⟨(nI 1), w, rfl, ⟨rfl, true, rfl, fun _ => ⟨Int32.not_lt.mp c1, Int32.not_lt.mp c2⟩, fun _ => rfl⟩, mB_of ht hP⟩, hS.F ht⟩) hS.2.2 d_D_in_15
set_option maxHeartbeats 4000000 in
set_option maxRecDepth 100000 in
theorem c_D_bad {l : Launch} {s0 : State} {dC : Nat → ClassId} {dI : Nat → Nat → Nat} {dA : Nat → ClassId} (B0 : BB s0 dC dI dA) (w : fw_W) (md : Nat → Nat) (μ : MS) (b : Bool) (hj : Inj37 md) (hD : RD dA md w μ) : Met l y_D_bad [.code y_D_bad b_D_bad 2 (some .boolean)] ({ frames := 0, cells := 0, slots := 0, locals := 0 }) (mP s0 dC dI w [.ref (md 36), .int (nI b.toNat)]) (mQi s0 dC dI (fun r w' => r = nI (!b).toNat ∧ RD dA md w' (dThr (if b = true then 0 else 1) μ) ∧ OutD md w w')) 0 0 (AA s0) := by
  refine mt_ofW B0 (by decide) (Nat.le_of_ble_eq_true rfl) (fun p e s m args below meth c ls hargs X hin hl hP => ?_)
  have X9 := X
  obtain ⟨hx, hb, hr, hml, hown, hg, hK, hn, hE, hlocks, hA⟩ := X9
  have hS : va_S (AA s0) s.heap s.heap [] := va_S.rf
  have hl : lv_has ls 2 [(0, .ref (md 36)), (1, .int (nI b.toNat))] := hl
  obtain ⟨r36, r0, r1, r2, r3, r4, r5, r6, r7, r8, ⟨u, r9⟩, r10, r11, r12, r13, r14, r15, r23, r24, r25, r26, r27, r28, r29, r30, r31, r32, r33, r34⟩ := (id hD)
  refine lv_aload_n hx hb d_D_bad_0 rfl (lv_at hl 0 rfl) ?_
  refine lv_iload_n hx hb d_D_bad_1 rfl (lv_at hl 1 rfl) ?_
  refine nu_ifeq (tgt := 9) hx hb d_D_bad_2 (by decide) (fun c1 => ?_) (fun c1 => ?_)
  · refine lv_iconst (v := (nI 1)) hx hb d_D_bad_9 (by decide) ?_
    refine fw_put (D := (dC, dI)) (ci := 5) (v := .int (nI 1)) (ty := .int) (C := R_D) (T := F_D) (N := 36) hx hb hg in_D ft_D ft_D_ok n_D hown hK hP hS r36 rfl 20 (by decide) (hg _ k_611) (fun _ h9 => h9) rfl (by decide +kernel) rfl rfl (Nat.le_of_ble_eq_true rfl) d_D_bad_10 (fun w1 H locs ew2 hP hS => ?_)
    have r36 : w1 (md 36) = some (.inr (5, [.ref (md 0), .ref (md 1), .ref (md 2), .ref (md 3), .ref (md 4), .ref (md 5), .ref (md 6), .ref (md 7), .ref (md 8), .ref (md 9), .ref (md 10), .ref (md 11), .ref (md 12), .ref (md 13), .ref (md 14), .ref (md 15), .int (nI (m_cached μ)), .int (nI (m_ocached μ)), .int (m_circ μ), .int (m_ocirc μ), .int (nI 1), .int (nI (m_wkr μ)), .int (nI (m_ran μ).toNat), .ref (md 23), .ref (md 24), .ref (md 25), .ref (md 26), .ref (md 27), .ref (md 28), .ref (md 29), .ref (md 30), .ref (md 31), .ref (md 32), .ref (md 33), .ref (md 34), .int (nI (m_hgt μ))])) := by rw [ew2]; exact va_up_self _ _ _
    have ho3 : OutD md w w1 := OutD.up OutD.rf ew2 (by decide)
    refine lv_iload_n hx hb d_D_bad_13 rfl (lv_at hl 1 rfl) ?_
    refine nu_ifne (tgt := 21) hx hb d_D_bad_14 (by decide) (fun c2 => ?_) (fun c2 => ?_)
    · refine lv_iconst (v := (nI 0)) hx hb d_D_bad_21 (by decide) ?_
      rw [c1] at c2; cases c2
    · refine lv_iconst (v := (nI 1)) hx hb d_D_bad_17 (by decide) ?_
      refine lv_goto (tgt := 22) hx hb d_D_bad_18 (by decide) ?_
      have hk4 : ∀ i, U37 i → i ∉ [36] → w1 (md i) = w (md i) := fun i hi hn => by rw [ew2, va_up_ne _ _ (hj.ne hi (j := 36) (by decide) (fun e9 => hn (by rw [e9]; decide)))]
      exact W.zret (v := (nI 1)) hx hb hr (by decide) (fun tS ht hW => ⟨⟨(nI 1), w1, rfl, ⟨by rw [c1]; rfl, (by rw [show dThr (if b = true then 0 else 1) μ = (((m_sort μ), (m_rule μ), m_parts μ, m_inp μ), ((m_size μ), (m_keys μ), (m_own μ), m_got μ, m_came μ), (m_trc μ, (m_cch μ), m_cached μ, m_cnt μ, (m_circ μ)), (m_otrc μ, (m_occh μ), m_ocached μ, m_ocnt μ, (m_ocirc μ)), (1, m_wkr μ, (m_ran μ), (m_st μ), m_val μ), ((m_key μ), (m_ph μ), m_chk μ, (m_at μ), (m_cand μ), (m_cc μ), (m_mk μ), (m_asked μ), m_first μ, m_sum μ, m_hgt μ)) from (by rw [c1]; rfl)]; exact ⟨⟨r36, (hk4 0 (by decide) (by decide)).trans r0, (hk4 1 (by decide) (by decide)).trans r1, (hk4 2 (by decide) (by decide)).trans r2, (hk4 3 (by decide) (by decide)).trans r3, (hk4 4 (by decide) (by decide)).trans r4, (hk4 5 (by decide) (by decide)).trans r5, (hk4 6 (by decide) (by decide)).trans r6, (hk4 7 (by decide) (by decide)).trans r7, (hk4 8 (by decide) (by decide)).trans r8, ⟨_, (hk4 9 (by decide) (by decide)).trans r9⟩, (hk4 10 (by decide) (by decide)).trans r10, (hk4 11 (by decide) (by decide)).trans r11, (hk4 12 (by decide) (by decide)).trans r12, (hk4 13 (by decide) (by decide)).trans r13, (hk4 14 (by decide) (by decide)).trans r14, (hk4 15 (by decide) (by decide)).trans r15, (hk4 23 (by decide) (by decide)).trans r23, (hk4 24 (by decide) (by decide)).trans r24, (hk4 25 (by decide) (by decide)).trans r25, (hk4 26 (by decide) (by decide)).trans r26, (hk4 27 (by decide) (by decide)).trans r27, (hk4 28 (by decide) (by decide)).trans r28, (hk4 29 (by decide) (by decide)).trans r29, (hk4 30 (by decide) (by decide)).trans r30, (hk4 31 (by decide) (by decide)).trans r31, (hk4 32 (by decide) (by decide)).trans r32, (hk4 33 (by decide) (by decide)).trans r33, (hk4 34 (by decide) (by decide)).trans r34⟩, ho3⟩)⟩, mB_of ht hP⟩, hS.F ht⟩) hS.2.2 d_D_bad_22
  · refine lv_iconst (v := (nI 0)) hx hb d_D_bad_5 (by decide) ?_
    refine lv_goto (tgt := 10) hx hb d_D_bad_6 (by decide) ?_
    refine fw_put (D := (dC, dI)) (ci := 5) (v := .int (nI 0)) (ty := .int) (C := R_D) (T := F_D) (N := 36) hx hb hg in_D ft_D ft_D_ok n_D hown hK hP hS r36 rfl 20 (by decide) (hg _ k_611) (fun _ h9 => h9) rfl (by decide +kernel) rfl rfl (Nat.le_of_ble_eq_true rfl) d_D_bad_10 (fun w5 H locs ew6 hP hS => ?_)
    have r36 : w5 (md 36) = some (.inr (5, [.ref (md 0), .ref (md 1), .ref (md 2), .ref (md 3), .ref (md 4), .ref (md 5), .ref (md 6), .ref (md 7), .ref (md 8), .ref (md 9), .ref (md 10), .ref (md 11), .ref (md 12), .ref (md 13), .ref (md 14), .ref (md 15), .int (nI (m_cached μ)), .int (nI (m_ocached μ)), .int (m_circ μ), .int (m_ocirc μ), .int (nI 0), .int (nI (m_wkr μ)), .int (nI (m_ran μ).toNat), .ref (md 23), .ref (md 24), .ref (md 25), .ref (md 26), .ref (md 27), .ref (md 28), .ref (md 29), .ref (md 30), .ref (md 31), .ref (md 32), .ref (md 33), .ref (md 34), .int (nI (m_hgt μ))])) := by rw [ew6]; exact va_up_self _ _ _
    have ho7 : OutD md w w5 := OutD.up OutD.rf ew6 (by decide)
    refine lv_iload_n hx hb d_D_bad_13 rfl (lv_at hl 1 rfl) ?_
    refine nu_ifne (tgt := 21) hx hb d_D_bad_14 (by decide) (fun c2 => ?_) (fun c2 => ?_)
    · refine lv_iconst (v := (nI 0)) hx hb d_D_bad_21 (by decide) ?_
      have hk8 : ∀ i, U37 i → i ∉ [36] → w5 (md i) = w (md i) := fun i hi hn => by rw [ew6, va_up_ne _ _ (hj.ne hi (j := 36) (by decide) (fun e9 => hn (by rw [e9]; decide)))]
      exact W.zret (v := (nI 0)) hx hb hr (by decide) (fun tS ht hW => ⟨⟨(nI 0), w5, rfl, ⟨by rw [c1]; rfl, (by rw [show dThr (if b = true then 0 else 1) μ = (((m_sort μ), (m_rule μ), m_parts μ, m_inp μ), ((m_size μ), (m_keys μ), (m_own μ), m_got μ, m_came μ), (m_trc μ, (m_cch μ), m_cached μ, m_cnt μ, (m_circ μ)), (m_otrc μ, (m_occh μ), m_ocached μ, m_ocnt μ, (m_ocirc μ)), (0, m_wkr μ, (m_ran μ), (m_st μ), m_val μ), ((m_key μ), (m_ph μ), m_chk μ, (m_at μ), (m_cand μ), (m_cc μ), (m_mk μ), (m_asked μ), m_first μ, m_sum μ, m_hgt μ)) from (by rw [c1]; rfl)]; exact ⟨⟨r36, (hk8 0 (by decide) (by decide)).trans r0, (hk8 1 (by decide) (by decide)).trans r1, (hk8 2 (by decide) (by decide)).trans r2, (hk8 3 (by decide) (by decide)).trans r3, (hk8 4 (by decide) (by decide)).trans r4, (hk8 5 (by decide) (by decide)).trans r5, (hk8 6 (by decide) (by decide)).trans r6, (hk8 7 (by decide) (by decide)).trans r7, (hk8 8 (by decide) (by decide)).trans r8, ⟨_, (hk8 9 (by decide) (by decide)).trans r9⟩, (hk8 10 (by decide) (by decide)).trans r10, (hk8 11 (by decide) (by decide)).trans r11, (hk8 12 (by decide) (by decide)).trans r12, (hk8 13 (by decide) (by decide)).trans r13, (hk8 14 (by decide) (by decide)).trans r14, (hk8 15 (by decide) (by decide)).trans r15, (hk8 23 (by decide) (by decide)).trans r23, (hk8 24 (by decide) (by decide)).trans r24, (hk8 25 (by decide) (by decide)).trans r25, (hk8 26 (by decide) (by decide)).trans r26, (hk8 27 (by decide) (by decide)).trans r27, (hk8 28 (by decide) (by decide)).trans r28, (hk8 29 (by decide) (by decide)).trans r29, (hk8 30 (by decide) (by decide)).trans r30, (hk8 31 (by decide) (by decide)).trans r31, (hk8 32 (by decide) (by decide)).trans r32, (hk8 33 (by decide) (by decide)).trans r33, (hk8 34 (by decide) (by decide)).trans r34⟩, ho7⟩)⟩, mB_of ht hP⟩, hS.F ht⟩) hS.2.2 d_D_bad_22
    · refine lv_iconst (v := (nI 1)) hx hb d_D_bad_17 (by decide) ?_
      refine lv_goto (tgt := 22) hx hb d_D_bad_18 (by decide) ?_
      rw [c1] at c2; cases c2
set_option maxHeartbeats 4000000 in
set_option maxRecDepth 100000 in
theorem c_D_modulo {l : Launch} {s0 : State} {dC : Nat → ClassId} {dI : Nat → Nat → Nat} {dA : Nat → ClassId} (B0 : BB s0 dC dI dA) (w : fw_W) (v : Int64) (n0 : Nat) (hn0 : (nI n0).toInt64 ≠ 0) : Met l y_D_modulo [.code y_D_modulo b_D_modulo 3 (some .long)] ({ frames := 0, cells := 0, slots := 0, locals := 0 }) (mP s0 dC dI w [.long v, .int (nI n0)]) (mQl s0 dC dI (fun r w' => w' = w ∧ r = dMod v n0)) 0 0 (AA s0) := by
  refine mt_ofW B0 (by decide) (Nat.le_of_ble_eq_true rfl) (fun p e s m args below meth c ls hargs X hin hl hP => ?_)
  have X9 := X
  obtain ⟨hx, hb, hr, hml, hown, hg, hK, hn, hE, hlocks, hA⟩ := X9
  have hS : va_S (AA s0) s.heap s.heap [] := va_S.rf
  have hl : lv_has ls 3 [(0, .long v), (2, .int (nI n0))] := hl
  refine lv_lload_n hx hb d_D_modulo_0 rfl (lv_at hl 0 rfl) ?_
  refine lv_iload_n hx hb d_D_modulo_1 rfl (lv_at hl 1 rfl) ?_
  refine lv_i2l (v := ((nI n0)).toInt64) hx hb d_D_modulo_2 rfl ?_
  refine lv_lrem hx hb d_D_modulo_3 hn0 ?_
  refine lv_iload_n hx hb d_D_modulo_4 rfl (lv_at hl 1 rfl) ?_
  refine lv_i2l (v := ((nI n0)).toInt64) hx hb d_D_modulo_5 rfl ?_
  refine lv_ladd hx hb d_D_modulo_6 ?_
  refine lv_iload_n hx hb d_D_modulo_7 rfl (lv_at hl 1 rfl) ?_
  refine lv_i2l (v := ((nI n0)).toInt64) hx hb d_D_modulo_8 rfl ?_
  refine lv_lrem hx hb d_D_modulo_9 hn0 ?_
  exact W.lret (v := ((v - v / (((nI n0)).toInt64) * (((nI n0)).toInt64)) + (((nI n0)).toInt64)) - ((v - v / (((nI n0)).toInt64) * (((nI n0)).toInt64)) + (((nI n0)).toInt64)) / (((nI n0)).toInt64) * (((nI n0)).toInt64)) hx hb hr (fun tS ht hW => ⟨⟨((v - v / (((nI n0)).toInt64) * (((nI n0)).toInt64)) + (((nI n0)).toInt64)) - ((v - v / (((nI n0)).toInt64) * (((nI n0)).toInt64)) + (((nI n0)).toInt64)) / (((nI n0)).toInt64) * (((nI n0)).toInt64), w, rfl, ⟨rfl, rfl⟩, mB_of ht hP⟩, hS.F ht⟩) hS.2.2 d_D_modulo_10
set_option maxHeartbeats 4000000 in
set_option maxRecDepth 100000 in
theorem c_D_finish {l : Launch} {s0 : State} {dC : Nat → ClassId} {dI : Nat → Nat → Nat} {dA : Nat → ClassId} (B0 : BB s0 dC dI dA) (w : fw_W) (md : Nat → Nat) (μ : MS) (f : Nat) (v : Int64) (hj : Inj37 md) (hD : RD dA md w μ) (hf : f < 13) (hk : m_key μ f < 12) (hh : 0 < m_hgt μ) : Met l y_D_finish [.code y_D_finish b_D_finish 4 none] ({ frames := 0, cells := 0, slots := 0, locals := 0 }) (mP s0 dC dI w [.ref (md 36), .int (nI f), .long v]) (mQv s0 dC dI (fun w' => RD dA md w' (dFin f v μ) ∧ OutD md w w')) 0 0 (AA s0) := by
  refine mt_ofW B0 (by decide) (Nat.le_of_ble_eq_true rfl) (fun p e s m args below meth c ls hargs X hin hl hP => ?_)
  have X9 := X
  obtain ⟨hx, hb, hr, hml, hown, hg, hK, hn, hE, hlocks, hA⟩ := X9
  have hS : va_S (AA s0) s.heap s.heap [] := va_S.rf
  have hl : lv_has ls 4 [(0, .ref (md 36)), (1, .int (nI f)), (2, .long v)] := hl
  obtain ⟨r36, r0, r1, r2, r3, r4, r5, r6, r7, r8, ⟨u, r9⟩, r10, r11, r12, r13, r14, r15, r23, r24, r25, r26, r27, r28, r29, r30, r31, r32, r33, r34⟩ := (id hD)
  refine lv_aload_n hx hb d_D_finish_0 rfl (lv_at hl 0 rfl) ?_
  refine va_get (D := (dC, dI)) (ci := 5) (v := .ref (md 23)) (C := R_D) (T := F_D) (N := 36) hx hb hg in_D hown hK (hP.one r36) 0 rfl rfl 23 (by decide) (hg _ k_614) (fun _ h9 => h9) rfl d_D_finish_1 ?_
  refine lv_aload_n hx hb d_D_finish_4 rfl (lv_at hl 0 rfl) ?_
  refine va_get (D := (dC, dI)) (ci := 5) (v := .ref (md 25)) (C := R_D) (T := F_D) (N := 36) hx hb hg in_D hown hK (hP.one r36) 0 rfl rfl 25 (by decide) (hg _ k_616) (fun _ h9 => h9) rfl d_D_finish_5 ?_
  refine lv_iload_n hx hb d_D_finish_8 rfl (lv_at hl 1 rfl) ?_
  refine fw_iald (tys := tyl dA) hx hb hK hP r25 0 rfl (j := f) (by omega) (by decide) d_D_finish_9 ?_
  refine lv_iconst (v := (nI 2)) hx hb d_D_finish_10 (by decide) ?_
  refine fw_iast (tys := tyl dA) hx hb hK hP hS r23 0 rfl (j := (m_key μ) f) (x := (nI 2)) (by omega) (by decide) d_D_finish_11 (fun w9 H locs ew10 hP hS => ?_)
  rw [nf_up] at ew10
  have r23 : w9 (md 23) = some (.inl (dA 0, 12, .inl (nf (va_up (m_st μ) ((m_key μ) f) 2)))) := by rw [ew10]; exact va_up_self _ _ _
  have ho11 : OutD md w w9 := OutD.up OutD.rf ew10 (by decide)
  refine lv_aload_n hx hb d_D_finish_12 rfl (lv_at hl 0 rfl) ?_
  have r36 : w9 (md 36) = some (.inr (5, [.ref (md 0), .ref (md 1), .ref (md 2), .ref (md 3), .ref (md 4), .ref (md 5), .ref (md 6), .ref (md 7), .ref (md 8), .ref (md 9), .ref (md 10), .ref (md 11), .ref (md 12), .ref (md 13), .ref (md 14), .ref (md 15), .int (nI (m_cached μ)), .int (nI (m_ocached μ)), .int (m_circ μ), .int (m_ocirc μ), .int (nI (m_thr μ)), .int (nI (m_wkr μ)), .int (nI (m_ran μ).toNat), .ref (md 23), .ref (md 24), .ref (md 25), .ref (md 26), .ref (md 27), .ref (md 28), .ref (md 29), .ref (md 30), .ref (md 31), .ref (md 32), .ref (md 33), .ref (md 34), .int (nI (m_hgt μ))])) := by rw [ew10, va_up_ne _ _ (hj.ne (i := 36) (j := 23) (by decide) (by decide) (by decide))]; exact r36
  refine va_get (D := (dC, dI)) (ci := 5) (v := .ref (md 24)) (C := R_D) (T := F_D) (N := 36) hx hb hg in_D hown hK (hP.one r36) 0 rfl rfl 24 (by decide) (hg _ k_615) (fun _ h9 => h9) rfl d_D_finish_13 ?_
  refine lv_aload_n hx hb d_D_finish_16 rfl (lv_at hl 0 rfl) ?_
  refine va_get (D := (dC, dI)) (ci := 5) (v := .ref (md 25)) (C := R_D) (T := F_D) (N := 36) hx hb hg in_D hown hK (hP.one r36) 0 rfl rfl 25 (by decide) (hg _ k_616) (fun _ h9 => h9) rfl d_D_finish_17 ?_
  refine lv_iload_n hx hb d_D_finish_20 rfl (lv_at hl 1 rfl) ?_
  have r25 : w9 (md 25) = some (.inl (dA 0, 13, .inl (nf (m_key μ)))) := by rw [ew10, va_up_ne _ _ (hj.ne (i := 25) (j := 23) (by decide) (by decide) (by decide))]; exact r25
  refine fw_iald (tys := tyl dA) hx hb hK hP r25 0 rfl (j := f) (by omega) (by decide) d_D_finish_21 ?_
  refine lv_lload_n hx hb d_D_finish_22 rfl (lv_at hl 2 rfl) ?_
  have r24 : w9 (md 24) = some (.inl (dA 1, 12, .inr (.inl (m_val μ)))) := by rw [ew10, va_up_ne _ _ (hj.ne (i := 24) (j := 23) (by decide) (by decide) (by decide))]; exact r24
  refine fw_last (tys := tyl dA) hx hb hK hP hS r24 1 rfl (j := (m_key μ) f) (by omega) (by decide) d_D_finish_23 (fun w12 H locs ew13 hP hS => ?_)
  have r24 : w12 (md 24) = some (.inl (dA 1, 12, .inr (.inl (vp_updL (m_val μ) ((m_key μ) f) v)))) := by rw [ew13]; exact va_up_self _ _ _
  have ho14 : OutD md w w12 := OutD.up ho11 ew13 (by decide)
  refine lv_aload_n hx hb d_D_finish_24 rfl (lv_at hl 0 rfl) ?_
  refine lv_dup hx hb d_D_finish_25 rfl ?_
  have r36 : w12 (md 36) = some (.inr (5, [.ref (md 0), .ref (md 1), .ref (md 2), .ref (md 3), .ref (md 4), .ref (md 5), .ref (md 6), .ref (md 7), .ref (md 8), .ref (md 9), .ref (md 10), .ref (md 11), .ref (md 12), .ref (md 13), .ref (md 14), .ref (md 15), .int (nI (m_cached μ)), .int (nI (m_ocached μ)), .int (m_circ μ), .int (m_ocirc μ), .int (nI (m_thr μ)), .int (nI (m_wkr μ)), .int (nI (m_ran μ).toNat), .ref (md 23), .ref (md 24), .ref (md 25), .ref (md 26), .ref (md 27), .ref (md 28), .ref (md 29), .ref (md 30), .ref (md 31), .ref (md 32), .ref (md 33), .ref (md 34), .int (nI (m_hgt μ))])) := by rw [ew13, va_up_ne _ _ (hj.ne (i := 36) (j := 24) (by decide) (by decide) (by decide))]; exact r36
  refine va_get (D := (dC, dI)) (ci := 5) (v := .int (nI (m_hgt μ))) (C := R_D) (T := F_D) (N := 36) hx hb hg in_D hown hK (hP.one r36) 0 rfl rfl 35 (by decide) (hg _ k_626) (fun _ h9 => h9) rfl d_D_finish_26 ?_
  refine lv_iconst (v := (nI 1)) hx hb d_D_finish_29 (by decide) ?_
  refine nu_isub (r := (m_hgt μ) - 1) hx hb d_D_finish_30 (by omega) ?_
  refine fw_put (D := (dC, dI)) (ci := 5) (v := .int (nI ((m_hgt μ) - 1))) (ty := .int) (C := R_D) (T := F_D) (N := 36) hx hb hg in_D ft_D ft_D_ok n_D hown hK hP hS r36 rfl 35 (by decide) (hg _ k_626) (fun _ h9 => h9) rfl (by decide +kernel) rfl rfl (Nat.le_of_ble_eq_true rfl) d_D_finish_31 (fun w15 H locs ew16 hP hS => ?_)
  have r36 : w15 (md 36) = some (.inr (5, [.ref (md 0), .ref (md 1), .ref (md 2), .ref (md 3), .ref (md 4), .ref (md 5), .ref (md 6), .ref (md 7), .ref (md 8), .ref (md 9), .ref (md 10), .ref (md 11), .ref (md 12), .ref (md 13), .ref (md 14), .ref (md 15), .int (nI (m_cached μ)), .int (nI (m_ocached μ)), .int (m_circ μ), .int (m_ocirc μ), .int (nI (m_thr μ)), .int (nI (m_wkr μ)), .int (nI (m_ran μ).toNat), .ref (md 23), .ref (md 24), .ref (md 25), .ref (md 26), .ref (md 27), .ref (md 28), .ref (md 29), .ref (md 30), .ref (md 31), .ref (md 32), .ref (md 33), .ref (md 34), .int (nI ((m_hgt μ) - 1))])) := by rw [ew16]; exact va_up_self _ _ _
  have ho17 : OutD md w w15 := OutD.up ho14 ew16 (by decide)
  have hk18 : ∀ i, U37 i → i ∉ [23, 24, 36] → w15 (md i) = w (md i) := fun i hi hn => by rw [ew16, va_up_ne _ _ (hj.ne hi (j := 36) (by decide) (fun e9 => hn (by rw [e9]; decide))), ew13, va_up_ne _ _ (hj.ne hi (j := 24) (by decide) (fun e9 => hn (by rw [e9]; decide))), ew10, va_up_ne _ _ (hj.ne hi (j := 23) (by decide) (fun e9 => hn (by rw [e9]; decide)))]
  have hk19 : ∀ i, U37 i → i ∉ [24, 36] → w15 (md i) = w9 (md i) := fun i hi hn => by rw [ew16, va_up_ne _ _ (hj.ne hi (j := 36) (by decide) (fun e9 => hn (by rw [e9]; decide))), ew13, va_up_ne _ _ (hj.ne hi (j := 24) (by decide) (fun e9 => hn (by rw [e9]; decide)))]
  have hk20 : ∀ i, U37 i → i ∉ [36] → w15 (md i) = w12 (md i) := fun i hi hn => by rw [ew16, va_up_ne _ _ (hj.ne hi (j := 36) (by decide) (fun e9 => hn (by rw [e9]; decide)))]
  exact W.vret hx hb hr (fun tS ht hW => ⟨⟨w15, rfl, ⟨⟨r36, (hk18 0 (by decide) (by decide)).trans r0, (hk18 1 (by decide) (by decide)).trans r1, (hk18 2 (by decide) (by decide)).trans r2, (hk18 3 (by decide) (by decide)).trans r3, (hk18 4 (by decide) (by decide)).trans r4, (hk18 5 (by decide) (by decide)).trans r5, (hk18 6 (by decide) (by decide)).trans r6, (hk18 7 (by decide) (by decide)).trans r7, (hk18 8 (by decide) (by decide)).trans r8, ⟨_, (hk18 9 (by decide) (by decide)).trans r9⟩, (hk18 10 (by decide) (by decide)).trans r10, (hk18 11 (by decide) (by decide)).trans r11, (hk18 12 (by decide) (by decide)).trans r12, (hk18 13 (by decide) (by decide)).trans r13, (hk18 14 (by decide) (by decide)).trans r14, (hk18 15 (by decide) (by decide)).trans r15, (hk19 23 (by decide) (by decide)).trans r23, (hk20 24 (by decide) (by decide)).trans r24, (hk19 25 (by decide) (by decide)).trans r25, (hk18 26 (by decide) (by decide)).trans r26, (hk18 27 (by decide) (by decide)).trans r27, (hk18 28 (by decide) (by decide)).trans r28, (hk18 29 (by decide) (by decide)).trans r29, (hk18 30 (by decide) (by decide)).trans r30, (hk18 31 (by decide) (by decide)).trans r31, (hk18 32 (by decide) (by decide)).trans r32, (hk18 33 (by decide) (by decide)).trans r33, (hk18 34 (by decide) (by decide)).trans r34⟩, ho17⟩, mB_of ht hP⟩, hS.F ht⟩) hS.2.2 d_D_finish_34
set_option maxHeartbeats 4000000 in
set_option maxRecDepth 100000 in
theorem c_D_ask {l : Launch} {s0 : State} {dC : Nat → ClassId} {dI : Nat → Nat → Nat} {dA : Nat → ClassId} (B0 : BB s0 dC dI dA) (w : fw_W) (md : Nat → Nat) (μ : MS) (k : Nat) (hj : Inj37 md) (hD : RD dA md w μ) (hk : k < 12) (hw2 : m_wkr μ < 2) (hh : m_hgt μ < 13) (hs3 : m_st μ k < 3) (hq3 : m_sort μ k < 3) : Met l y_D_ask [.code y_D_ask b_D_ask 2 (some .boolean)] ({ frames := 0, cells := 0, slots := 0, locals := 0 }) (mP s0 dC dI w [.ref (md 36), .int (nI k)]) (mQi s0 dC dI (fun r w' => r = nI (dAskB k μ).toNat ∧ RD dA md w' (dAsk k μ) ∧ OutD md w w')) 0 0 (AA s0) := by
  refine mt_ofW B0 (by decide) (Nat.le_of_ble_eq_true rfl) (fun p e s m args below meth c ls hargs X hin hl hP => ?_)
  have X9 := X
  obtain ⟨hx, hb, hr, hml, hown, hg, hK, hn, hE, hlocks, hA⟩ := X9
  have hS : va_S (AA s0) s.heap s.heap [] := va_S.rf
  have hl : lv_has ls 2 [(0, .ref (md 36)), (1, .int (nI k))] := hl
  obtain ⟨r36, r0, r1, r2, r3, r4, r5, r6, r7, r8, ⟨u, r9⟩, r10, r11, r12, r13, r14, r15, r23, r24, r25, r26, r27, r28, r29, r30, r31, r32, r33, r34⟩ := (id hD)
  refine lv_aload_n hx hb d_D_ask_0 rfl (lv_at hl 0 rfl) ?_
  refine va_get (D := (dC, dI)) (ci := 5) (v := .ref (md 23)) (C := R_D) (T := F_D) (N := 36) hx hb hg in_D hown hK (hP.one r36) 0 rfl rfl 23 (by decide) (hg _ k_614) (fun _ h9 => h9) rfl d_D_ask_1 ?_
  refine lv_iload_n hx hb d_D_ask_4 rfl (lv_at hl 1 rfl) ?_
  refine fw_iald (tys := tyl dA) hx hb hK hP r23 0 rfl (j := k) (by omega) (by decide) d_D_ask_5 ?_
  refine lv_iconst (v := (nI 2)) hx hb d_D_ask_6 (by decide) ?_
  refine nu_ne (tgt := 12) hx hb (by omega) (by omega) d_D_ask_7 (by decide) (fun c1 => ?_) (fun c1 => ?_)
  · refine lv_aload_n hx hb d_D_ask_12 rfl (lv_at hl 0 rfl) ?_
    refine va_get (D := (dC, dI)) (ci := 5) (v := .ref (md 23)) (C := R_D) (T := F_D) (N := 36) hx hb hg in_D hown hK (hP.one r36) 0 rfl rfl 23 (by decide) (hg _ k_614) (fun _ h9 => h9) rfl d_D_ask_13 ?_
    refine lv_iload_n hx hb d_D_ask_16 rfl (lv_at hl 1 rfl) ?_
    refine fw_iald (tys := tyl dA) hx hb hK hP r23 0 rfl (j := k) (by omega) (by decide) d_D_ask_17 ?_
    refine lv_iconst (v := (nI 1)) hx hb d_D_ask_18 (by decide) ?_
    refine nu_ne (tgt := 39) hx hb (by omega) (by omega) d_D_ask_19 (by decide) (fun c2 => ?_) (fun c2 => ?_)
    · refine lv_aload_n hx hb d_D_ask_39 rfl (lv_at hl 0 rfl) ?_
      refine va_get (D := (dC, dI)) (ci := 5) (v := .ref (md 0)) (C := R_D) (T := F_D) (N := 36) hx hb hg in_D hown hK (hP.one r36) 0 rfl rfl 0 (by decide) (hg _ k_591) (fun _ h9 => h9) rfl d_D_ask_40 ?_
      refine lv_iload_n hx hb d_D_ask_43 rfl (lv_at hl 1 rfl) ?_
      refine fw_iald (tys := tyl dA) hx hb hK hP r0 0 rfl (j := k) (by omega) (by decide) d_D_ask_44 ?_
      refine nu_zne (tgt := 55) hx hb (by omega) d_D_ask_45 (by decide) (fun c3 => ?_) (fun c3 => ?_)
      · refine lv_aload_n hx hb d_D_ask_55 rfl (lv_at hl 0 rfl) ?_
        refine va_get (D := (dC, dI)) (ci := 5) (v := .ref (md 0)) (C := R_D) (T := F_D) (N := 36) hx hb hg in_D hown hK (hP.one r36) 0 rfl rfl 0 (by decide) (hg _ k_591) (fun _ h9 => h9) rfl d_D_ask_56 ?_
        refine lv_iload_n hx hb d_D_ask_59 rfl (lv_at hl 1 rfl) ?_
        refine fw_iald (tys := tyl dA) hx hb hK hP r0 0 rfl (j := k) (by omega) (by decide) d_D_ask_60 ?_
        refine lv_iconst (v := (nI 1)) hx hb d_D_ask_61 (by decide) ?_
        refine nu_ne (tgt := 86) hx hb (by omega) (by omega) d_D_ask_62 (by decide) (fun c4 => ?_) (fun c4 => ?_)
        · refine lv_aload_n hx hb d_D_ask_86 rfl (lv_at hl 0 rfl) ?_
          refine va_get (D := (dC, dI)) (ci := 5) (v := .ref (md 23)) (C := R_D) (T := F_D) (N := 36) hx hb hg in_D hown hK (hP.one r36) 0 rfl rfl 23 (by decide) (hg _ k_614) (fun _ h9 => h9) rfl d_D_ask_87 ?_
          refine lv_iload_n hx hb d_D_ask_90 rfl (lv_at hl 1 rfl) ?_
          refine lv_iconst (v := (nI 1)) hx hb d_D_ask_91 (by decide) ?_
          refine fw_iast (tys := tyl dA) hx hb hK hP hS r23 0 rfl (j := k) (x := (nI 1)) (by omega) (by decide) d_D_ask_92 (fun w21 H locs ew22 hP hS => ?_)
          rw [nf_up] at ew22
          have r23 : w21 (md 23) = some (.inl (dA 0, 12, .inl (nf (va_up (m_st μ) k 1)))) := by rw [ew22]; exact va_up_self _ _ _
          have ho23 : OutD md w w21 := OutD.up OutD.rf ew22 (by decide)
          refine lv_aload_n hx hb d_D_ask_93 rfl (lv_at hl 0 rfl) ?_
          have r36 : w21 (md 36) = some (.inr (5, [.ref (md 0), .ref (md 1), .ref (md 2), .ref (md 3), .ref (md 4), .ref (md 5), .ref (md 6), .ref (md 7), .ref (md 8), .ref (md 9), .ref (md 10), .ref (md 11), .ref (md 12), .ref (md 13), .ref (md 14), .ref (md 15), .int (nI (m_cached μ)), .int (nI (m_ocached μ)), .int (m_circ μ), .int (m_ocirc μ), .int (nI (m_thr μ)), .int (nI (m_wkr μ)), .int (nI (m_ran μ).toNat), .ref (md 23), .ref (md 24), .ref (md 25), .ref (md 26), .ref (md 27), .ref (md 28), .ref (md 29), .ref (md 30), .ref (md 31), .ref (md 32), .ref (md 33), .ref (md 34), .int (nI (m_hgt μ))])) := by rw [ew22, va_up_ne _ _ (hj.ne (i := 36) (j := 23) (by decide) (by decide) (by decide))]; exact r36
          refine va_get (D := (dC, dI)) (ci := 5) (v := .ref (md 25)) (C := R_D) (T := F_D) (N := 36) hx hb hg in_D hown hK (hP.one r36) 0 rfl rfl 25 (by decide) (hg _ k_616) (fun _ h9 => h9) rfl d_D_ask_94 ?_
          refine lv_aload_n hx hb d_D_ask_97 rfl (lv_at hl 0 rfl) ?_
          refine va_get (D := (dC, dI)) (ci := 5) (v := .int (nI (m_hgt μ))) (C := R_D) (T := F_D) (N := 36) hx hb hg in_D hown hK (hP.one r36) 0 rfl rfl 35 (by decide) (hg _ k_626) (fun _ h9 => h9) rfl d_D_ask_98 ?_
          refine lv_iload_n hx hb d_D_ask_101 rfl (lv_at hl 1 rfl) ?_
          have r25 : w21 (md 25) = some (.inl (dA 0, 13, .inl (nf (m_key μ)))) := by rw [ew22, va_up_ne _ _ (hj.ne (i := 25) (j := 23) (by decide) (by decide) (by decide))]; exact r25
          refine fw_iast (tys := tyl dA) hx hb hK hP hS r25 0 rfl (j := m_hgt μ) (x := (nI k)) (by omega) (by decide) d_D_ask_102 (fun w24 H locs ew25 hP hS => ?_)
          rw [nf_up] at ew25
          have r25 : w24 (md 25) = some (.inl (dA 0, 13, .inl (nf (va_up (m_key μ) (m_hgt μ) k)))) := by rw [ew25]; exact va_up_self _ _ _
          have ho26 : OutD md w w24 := OutD.up ho23 ew25 (by decide)
          refine lv_aload_n hx hb d_D_ask_103 rfl (lv_at hl 0 rfl) ?_
          have r36 : w24 (md 36) = some (.inr (5, [.ref (md 0), .ref (md 1), .ref (md 2), .ref (md 3), .ref (md 4), .ref (md 5), .ref (md 6), .ref (md 7), .ref (md 8), .ref (md 9), .ref (md 10), .ref (md 11), .ref (md 12), .ref (md 13), .ref (md 14), .ref (md 15), .int (nI (m_cached μ)), .int (nI (m_ocached μ)), .int (m_circ μ), .int (m_ocirc μ), .int (nI (m_thr μ)), .int (nI (m_wkr μ)), .int (nI (m_ran μ).toNat), .ref (md 23), .ref (md 24), .ref (md 25), .ref (md 26), .ref (md 27), .ref (md 28), .ref (md 29), .ref (md 30), .ref (md 31), .ref (md 32), .ref (md 33), .ref (md 34), .int (nI (m_hgt μ))])) := by rw [ew25, va_up_ne _ _ (hj.ne (i := 36) (j := 25) (by decide) (by decide) (by decide))]; exact r36
          refine va_get (D := (dC, dI)) (ci := 5) (v := .ref (md 30)) (C := R_D) (T := F_D) (N := 36) hx hb hg in_D hown hK (hP.one r36) 0 rfl rfl 30 (by decide) (hg _ k_621) (fun _ h9 => h9) rfl d_D_ask_104 ?_
          refine lv_aload_n hx hb d_D_ask_107 rfl (lv_at hl 0 rfl) ?_
          refine va_get (D := (dC, dI)) (ci := 5) (v := .int (nI (m_hgt μ))) (C := R_D) (T := F_D) (N := 36) hx hb hg in_D hown hK (hP.one r36) 0 rfl rfl 35 (by decide) (hg _ k_626) (fun _ h9 => h9) rfl d_D_ask_108 ?_
          refine lv_iconst (v := (nI 0)) hx hb d_D_ask_111 (by decide) ?_
          have r30 : w24 (md 30) = some (.inl (dA 0, 13, .inl (nf (m_cc μ)))) := by rw [ew25, va_up_ne _ _ (hj.ne (i := 30) (j := 25) (by decide) (by decide) (by decide)), ew22, va_up_ne _ _ (hj.ne (i := 30) (j := 23) (by decide) (by decide) (by decide))]; exact r30
          refine fw_iast (tys := tyl dA) hx hb hK hP hS r30 0 rfl (j := m_hgt μ) (x := (nI 0)) (by omega) (by decide) d_D_ask_112 (fun w27 H locs ew28 hP hS => ?_)
          rw [nf_up] at ew28
          have r30 : w27 (md 30) = some (.inl (dA 0, 13, .inl (nf (va_up (m_cc μ) (m_hgt μ) 0)))) := by rw [ew28]; exact va_up_self _ _ _
          have ho29 : OutD md w w27 := OutD.up ho26 ew28 (by decide)
          refine lv_aload_n hx hb d_D_ask_113 rfl (lv_at hl 0 rfl) ?_
          have r36 : w27 (md 36) = some (.inr (5, [.ref (md 0), .ref (md 1), .ref (md 2), .ref (md 3), .ref (md 4), .ref (md 5), .ref (md 6), .ref (md 7), .ref (md 8), .ref (md 9), .ref (md 10), .ref (md 11), .ref (md 12), .ref (md 13), .ref (md 14), .ref (md 15), .int (nI (m_cached μ)), .int (nI (m_ocached μ)), .int (m_circ μ), .int (m_ocirc μ), .int (nI (m_thr μ)), .int (nI (m_wkr μ)), .int (nI (m_ran μ).toNat), .ref (md 23), .ref (md 24), .ref (md 25), .ref (md 26), .ref (md 27), .ref (md 28), .ref (md 29), .ref (md 30), .ref (md 31), .ref (md 32), .ref (md 33), .ref (md 34), .int (nI (m_hgt μ))])) := by rw [ew28, va_up_ne _ _ (hj.ne (i := 36) (j := 30) (by decide) (by decide) (by decide))]; exact r36
          refine va_get (D := (dC, dI)) (ci := 5) (v := .ref (md 26)) (C := R_D) (T := F_D) (N := 36) hx hb hg in_D hown hK (hP.one r36) 0 rfl rfl 26 (by decide) (hg _ k_617) (fun _ h9 => h9) rfl d_D_ask_114 ?_
          refine lv_aload_n hx hb d_D_ask_117 rfl (lv_at hl 0 rfl) ?_
          refine va_get (D := (dC, dI)) (ci := 5) (v := .int (nI (m_hgt μ))) (C := R_D) (T := F_D) (N := 36) hx hb hg in_D hown hK (hP.one r36) 0 rfl rfl 35 (by decide) (hg _ k_626) (fun _ h9 => h9) rfl d_D_ask_118 ?_
          refine lv_iconst (v := (nI 1)) hx hb d_D_ask_121 (by decide) ?_
          have r26 : w27 (md 26) = some (.inl (dA 0, 13, .inl (nf (m_ph μ)))) := by rw [ew28, va_up_ne _ _ (hj.ne (i := 26) (j := 30) (by decide) (by decide) (by decide)), ew25, va_up_ne _ _ (hj.ne (i := 26) (j := 25) (by decide) (by decide) (by decide)), ew22, va_up_ne _ _ (hj.ne (i := 26) (j := 23) (by decide) (by decide) (by decide))]; exact r26
          refine fw_iast (tys := tyl dA) hx hb hK hP hS r26 0 rfl (j := m_hgt μ) (x := (nI 1)) (by omega) (by decide) d_D_ask_122 (fun w30 H locs ew31 hP hS => ?_)
          rw [nf_up] at ew31
          have r26 : w30 (md 26) = some (.inl (dA 0, 13, .inl (nf (va_up (m_ph μ) (m_hgt μ) 1)))) := by rw [ew31]; exact va_up_self _ _ _
          have ho32 : OutD md w w30 := OutD.up ho29 ew31 (by decide)
          refine lv_aload_n hx hb d_D_ask_123 rfl (lv_at hl 0 rfl) ?_
          have r36 : w30 (md 36) = some (.inr (5, [.ref (md 0), .ref (md 1), .ref (md 2), .ref (md 3), .ref (md 4), .ref (md 5), .ref (md 6), .ref (md 7), .ref (md 8), .ref (md 9), .ref (md 10), .ref (md 11), .ref (md 12), .ref (md 13), .ref (md 14), .ref (md 15), .int (nI (m_cached μ)), .int (nI (m_ocached μ)), .int (m_circ μ), .int (m_ocirc μ), .int (nI (m_thr μ)), .int (nI (m_wkr μ)), .int (nI (m_ran μ).toNat), .ref (md 23), .ref (md 24), .ref (md 25), .ref (md 26), .ref (md 27), .ref (md 28), .ref (md 29), .ref (md 30), .ref (md 31), .ref (md 32), .ref (md 33), .ref (md 34), .int (nI (m_hgt μ))])) := by rw [ew31, va_up_ne _ _ (hj.ne (i := 36) (j := 26) (by decide) (by decide) (by decide))]; exact r36
          refine va_get (D := (dC, dI)) (ci := 5) (v := .ref (md 27)) (C := R_D) (T := F_D) (N := 36) hx hb hg in_D hown hK (hP.one r36) 0 rfl rfl 27 (by decide) (hg _ k_618) (fun _ h9 => h9) rfl d_D_ask_124 ?_
          refine lv_aload_n hx hb d_D_ask_127 rfl (lv_at hl 0 rfl) ?_
          refine va_get (D := (dC, dI)) (ci := 5) (v := .int (nI (m_hgt μ))) (C := R_D) (T := F_D) (N := 36) hx hb hg in_D hown hK (hP.one r36) 0 rfl rfl 35 (by decide) (hg _ k_626) (fun _ h9 => h9) rfl d_D_ask_128 ?_
          refine lv_aload_n hx hb d_D_ask_131 rfl (lv_at hl 0 rfl) ?_
          refine va_get (D := (dC, dI)) (ci := 5) (v := .ref (md 10)) (C := R_D) (T := F_D) (N := 36) hx hb hg in_D hown hK (hP.one r36) 0 rfl rfl 10 (by decide) (hg _ k_601) (fun _ h9 => h9) rfl d_D_ask_132 ?_
          refine lv_aload_n hx hb d_D_ask_135 rfl (lv_at hl 0 rfl) ?_
          refine va_get (D := (dC, dI)) (ci := 5) (v := .int (nI (m_wkr μ))) (C := R_D) (T := F_D) (N := 36) hx hb hg in_D hown hK (hP.one r36) 0 rfl rfl 21 (by decide) (hg _ k_612) (fun _ h9 => h9) rfl d_D_ask_136 ?_
          refine lv_bipush (v := (nI 12)) hx hb d_D_ask_139 (by decide) ?_
          refine nu_imul (r := 12 * (m_wkr μ)) hx hb d_D_ask_141 (by omega) ?_
          refine lv_iload_n hx hb d_D_ask_142 rfl (lv_at hl 1 rfl) ?_
          refine nu_iadd (r := 12 * (m_wkr μ) + k) hx hb d_D_ask_143 (by omega) ?_
          have r10 : w30 (md 10) = some (.inl (dA 0, 24, .inl (m_trc μ))) := by rw [ew31, va_up_ne _ _ (hj.ne (i := 10) (j := 26) (by decide) (by decide) (by decide)), ew28, va_up_ne _ _ (hj.ne (i := 10) (j := 30) (by decide) (by decide) (by decide)), ew25, va_up_ne _ _ (hj.ne (i := 10) (j := 25) (by decide) (by decide) (by decide)), ew22, va_up_ne _ _ (hj.ne (i := 10) (j := 23) (by decide) (by decide) (by decide))]; exact r10
          refine fw_iald (tys := tyl dA) hx hb hK hP r10 0 rfl (j := 12 * (m_wkr μ) + k) (by omega) (by decide) d_D_ask_144 ?_
          have r27 : w30 (md 27) = some (.inl (dA 0, 13, .inl (m_chk μ))) := by rw [ew31, va_up_ne _ _ (hj.ne (i := 27) (j := 26) (by decide) (by decide) (by decide)), ew28, va_up_ne _ _ (hj.ne (i := 27) (j := 30) (by decide) (by decide) (by decide)), ew25, va_up_ne _ _ (hj.ne (i := 27) (j := 25) (by decide) (by decide) (by decide)), ew22, va_up_ne _ _ (hj.ne (i := 27) (j := 23) (by decide) (by decide) (by decide))]; exact r27
          refine fw_iast (tys := tyl dA) hx hb hK hP hS r27 0 rfl (j := m_hgt μ) (x := ((m_trc μ) (12 * (m_wkr μ) + k))) (by omega) (by decide) d_D_ask_145 (fun w33 H locs ew34 hP hS => ?_)
          have r27 : w33 (md 27) = some (.inl (dA 0, 13, .inl (upd (m_chk μ) (m_hgt μ) ((m_trc μ) (12 * (m_wkr μ) + k))))) := by rw [ew34]; exact va_up_self _ _ _
          have ho35 : OutD md w w33 := OutD.up ho32 ew34 (by decide)
          refine lv_aload_n hx hb d_D_ask_146 rfl (lv_at hl 0 rfl) ?_
          have r36 : w33 (md 36) = some (.inr (5, [.ref (md 0), .ref (md 1), .ref (md 2), .ref (md 3), .ref (md 4), .ref (md 5), .ref (md 6), .ref (md 7), .ref (md 8), .ref (md 9), .ref (md 10), .ref (md 11), .ref (md 12), .ref (md 13), .ref (md 14), .ref (md 15), .int (nI (m_cached μ)), .int (nI (m_ocached μ)), .int (m_circ μ), .int (m_ocirc μ), .int (nI (m_thr μ)), .int (nI (m_wkr μ)), .int (nI (m_ran μ).toNat), .ref (md 23), .ref (md 24), .ref (md 25), .ref (md 26), .ref (md 27), .ref (md 28), .ref (md 29), .ref (md 30), .ref (md 31), .ref (md 32), .ref (md 33), .ref (md 34), .int (nI (m_hgt μ))])) := by rw [ew34, va_up_ne _ _ (hj.ne (i := 36) (j := 27) (by decide) (by decide) (by decide))]; exact r36
          refine va_get (D := (dC, dI)) (ci := 5) (v := .ref (md 28)) (C := R_D) (T := F_D) (N := 36) hx hb hg in_D hown hK (hP.one r36) 0 rfl rfl 28 (by decide) (hg _ k_619) (fun _ h9 => h9) rfl d_D_ask_147 ?_
          refine lv_aload_n hx hb d_D_ask_150 rfl (lv_at hl 0 rfl) ?_
          refine va_get (D := (dC, dI)) (ci := 5) (v := .int (nI (m_hgt μ))) (C := R_D) (T := F_D) (N := 36) hx hb hg in_D hown hK (hP.one r36) 0 rfl rfl 35 (by decide) (hg _ k_626) (fun _ h9 => h9) rfl d_D_ask_151 ?_
          refine lv_iconst (v := (nI 0)) hx hb d_D_ask_154 (by decide) ?_
          have r28 : w33 (md 28) = some (.inl (dA 0, 13, .inl (nf (m_at μ)))) := by rw [ew34, va_up_ne _ _ (hj.ne (i := 28) (j := 27) (by decide) (by decide) (by decide)), ew31, va_up_ne _ _ (hj.ne (i := 28) (j := 26) (by decide) (by decide) (by decide)), ew28, va_up_ne _ _ (hj.ne (i := 28) (j := 30) (by decide) (by decide) (by decide)), ew25, va_up_ne _ _ (hj.ne (i := 28) (j := 25) (by decide) (by decide) (by decide)), ew22, va_up_ne _ _ (hj.ne (i := 28) (j := 23) (by decide) (by decide) (by decide))]; exact r28
          refine fw_iast (tys := tyl dA) hx hb hK hP hS r28 0 rfl (j := m_hgt μ) (x := (nI 0)) (by omega) (by decide) d_D_ask_155 (fun w36 H locs ew37 hP hS => ?_)
          rw [nf_up] at ew37
          have r28 : w36 (md 28) = some (.inl (dA 0, 13, .inl (nf (va_up (m_at μ) (m_hgt μ) 0)))) := by rw [ew37]; exact va_up_self _ _ _
          have ho38 : OutD md w w36 := OutD.up ho35 ew37 (by decide)
          refine lv_aload_n hx hb d_D_ask_156 rfl (lv_at hl 0 rfl) ?_
          refine lv_dup hx hb d_D_ask_157 rfl ?_
          have r36 : w36 (md 36) = some (.inr (5, [.ref (md 0), .ref (md 1), .ref (md 2), .ref (md 3), .ref (md 4), .ref (md 5), .ref (md 6), .ref (md 7), .ref (md 8), .ref (md 9), .ref (md 10), .ref (md 11), .ref (md 12), .ref (md 13), .ref (md 14), .ref (md 15), .int (nI (m_cached μ)), .int (nI (m_ocached μ)), .int (m_circ μ), .int (m_ocirc μ), .int (nI (m_thr μ)), .int (nI (m_wkr μ)), .int (nI (m_ran μ).toNat), .ref (md 23), .ref (md 24), .ref (md 25), .ref (md 26), .ref (md 27), .ref (md 28), .ref (md 29), .ref (md 30), .ref (md 31), .ref (md 32), .ref (md 33), .ref (md 34), .int (nI (m_hgt μ))])) := by rw [ew37, va_up_ne _ _ (hj.ne (i := 36) (j := 28) (by decide) (by decide) (by decide))]; exact r36
          refine va_get (D := (dC, dI)) (ci := 5) (v := .int (nI (m_hgt μ))) (C := R_D) (T := F_D) (N := 36) hx hb hg in_D hown hK (hP.one r36) 0 rfl rfl 35 (by decide) (hg _ k_626) (fun _ h9 => h9) rfl d_D_ask_158 ?_
          refine lv_iconst (v := (nI 1)) hx hb d_D_ask_161 (by decide) ?_
          refine nu_iadd (r := m_hgt μ + 1) hx hb d_D_ask_162 (by omega) ?_
          refine fw_put (D := (dC, dI)) (ci := 5) (v := .int (nI (m_hgt μ + 1))) (ty := .int) (C := R_D) (T := F_D) (N := 36) hx hb hg in_D ft_D ft_D_ok n_D hown hK hP hS r36 rfl 35 (by decide) (hg _ k_626) (fun _ h9 => h9) rfl (by decide +kernel) rfl rfl (Nat.le_of_ble_eq_true rfl) d_D_ask_163 (fun w39 H locs ew40 hP hS => ?_)
          have r36 : w39 (md 36) = some (.inr (5, [.ref (md 0), .ref (md 1), .ref (md 2), .ref (md 3), .ref (md 4), .ref (md 5), .ref (md 6), .ref (md 7), .ref (md 8), .ref (md 9), .ref (md 10), .ref (md 11), .ref (md 12), .ref (md 13), .ref (md 14), .ref (md 15), .int (nI (m_cached μ)), .int (nI (m_ocached μ)), .int (m_circ μ), .int (m_ocirc μ), .int (nI (m_thr μ)), .int (nI (m_wkr μ)), .int (nI (m_ran μ).toNat), .ref (md 23), .ref (md 24), .ref (md 25), .ref (md 26), .ref (md 27), .ref (md 28), .ref (md 29), .ref (md 30), .ref (md 31), .ref (md 32), .ref (md 33), .ref (md 34), .int (nI (m_hgt μ + 1))])) := by rw [ew40]; exact va_up_self _ _ _
          have ho41 : OutD md w w39 := OutD.up ho38 ew40 (by decide)
          refine lv_iconst (v := (nI 0)) hx hb d_D_ask_166 (by decide) ?_
          have hk42 : ∀ i, U37 i → i ∉ [23, 25, 26, 27, 28, 30, 36] → w39 (md i) = w (md i) := fun i hi hn => by rw [ew40, va_up_ne _ _ (hj.ne hi (j := 36) (by decide) (fun e9 => hn (by rw [e9]; decide))), ew37, va_up_ne _ _ (hj.ne hi (j := 28) (by decide) (fun e9 => hn (by rw [e9]; decide))), ew34, va_up_ne _ _ (hj.ne hi (j := 27) (by decide) (fun e9 => hn (by rw [e9]; decide))), ew31, va_up_ne _ _ (hj.ne hi (j := 26) (by decide) (fun e9 => hn (by rw [e9]; decide))), ew28, va_up_ne _ _ (hj.ne hi (j := 30) (by decide) (fun e9 => hn (by rw [e9]; decide))), ew25, va_up_ne _ _ (hj.ne hi (j := 25) (by decide) (fun e9 => hn (by rw [e9]; decide))), ew22, va_up_ne _ _ (hj.ne hi (j := 23) (by decide) (fun e9 => hn (by rw [e9]; decide)))]
          have hk43 : ∀ i, U37 i → i ∉ [27, 28, 36] → w39 (md i) = w30 (md i) := fun i hi hn => by rw [ew40, va_up_ne _ _ (hj.ne hi (j := 36) (by decide) (fun e9 => hn (by rw [e9]; decide))), ew37, va_up_ne _ _ (hj.ne hi (j := 28) (by decide) (fun e9 => hn (by rw [e9]; decide))), ew34, va_up_ne _ _ (hj.ne hi (j := 27) (by decide) (fun e9 => hn (by rw [e9]; decide)))]
          have hk44 : ∀ i, U37 i → i ∉ [25, 26, 27, 28, 30, 36] → w39 (md i) = w21 (md i) := fun i hi hn => by rw [ew40, va_up_ne _ _ (hj.ne hi (j := 36) (by decide) (fun e9 => hn (by rw [e9]; decide))), ew37, va_up_ne _ _ (hj.ne hi (j := 28) (by decide) (fun e9 => hn (by rw [e9]; decide))), ew34, va_up_ne _ _ (hj.ne hi (j := 27) (by decide) (fun e9 => hn (by rw [e9]; decide))), ew31, va_up_ne _ _ (hj.ne hi (j := 26) (by decide) (fun e9 => hn (by rw [e9]; decide))), ew28, va_up_ne _ _ (hj.ne hi (j := 30) (by decide) (fun e9 => hn (by rw [e9]; decide))), ew25, va_up_ne _ _ (hj.ne hi (j := 25) (by decide) (fun e9 => hn (by rw [e9]; decide)))]
          have hk45 : ∀ i, U37 i → i ∉ [26, 27, 28, 30, 36] → w39 (md i) = w24 (md i) := fun i hi hn => by rw [ew40, va_up_ne _ _ (hj.ne hi (j := 36) (by decide) (fun e9 => hn (by rw [e9]; decide))), ew37, va_up_ne _ _ (hj.ne hi (j := 28) (by decide) (fun e9 => hn (by rw [e9]; decide))), ew34, va_up_ne _ _ (hj.ne hi (j := 27) (by decide) (fun e9 => hn (by rw [e9]; decide))), ew31, va_up_ne _ _ (hj.ne hi (j := 26) (by decide) (fun e9 => hn (by rw [e9]; decide))), ew28, va_up_ne _ _ (hj.ne hi (j := 30) (by decide) (fun e9 => hn (by rw [e9]; decide)))]
          have hk46 : ∀ i, U37 i → i ∉ [28, 36] → w39 (md i) = w33 (md i) := fun i hi hn => by rw [ew40, va_up_ne _ _ (hj.ne hi (j := 36) (by decide) (fun e9 => hn (by rw [e9]; decide))), ew37, va_up_ne _ _ (hj.ne hi (j := 28) (by decide) (fun e9 => hn (by rw [e9]; decide)))]
          have hk47 : ∀ i, U37 i → i ∉ [36] → w39 (md i) = w36 (md i) := fun i hi hn => by rw [ew40, va_up_ne _ _ (hj.ne hi (j := 36) (by decide) (fun e9 => hn (by rw [e9]; decide)))]
          have hk48 : ∀ i, U37 i → i ∉ [26, 27, 28, 36] → w39 (md i) = w27 (md i) := fun i hi hn => by rw [ew40, va_up_ne _ _ (hj.ne hi (j := 36) (by decide) (fun e9 => hn (by rw [e9]; decide))), ew37, va_up_ne _ _ (hj.ne hi (j := 28) (by decide) (fun e9 => hn (by rw [e9]; decide))), ew34, va_up_ne _ _ (hj.ne hi (j := 27) (by decide) (fun e9 => hn (by rw [e9]; decide))), ew31, va_up_ne _ _ (hj.ne hi (j := 26) (by decide) (fun e9 => hn (by rw [e9]; decide)))]
          exact W.zret (v := (nI 0)) hx hb hr (by decide) (fun tS ht hW => ⟨⟨(nI 0), w39, rfl, ⟨by unfold dAskB; rw [if_neg c1, if_neg c2, if_neg c3, if_neg c4]; rfl, (by rw [show dAsk k μ = (((m_sort μ), (m_rule μ), m_parts μ, m_inp μ), ((m_size μ), (m_keys μ), (m_own μ), m_got μ, m_came μ), (m_trc μ, (m_cch μ), m_cached μ, m_cnt μ, (m_circ μ)), (m_otrc μ, (m_occh μ), m_ocached μ, m_ocnt μ, (m_ocirc μ)), (m_thr μ, m_wkr μ, (m_ran μ), (va_up (m_st μ) k 1), m_val μ), ((va_up (m_key μ) (m_hgt μ) k), (va_up (m_ph μ) (m_hgt μ) 1), upd (m_chk μ) (m_hgt μ) ((m_trc μ) (12 * (m_wkr μ) + k)), (va_up (m_at μ) (m_hgt μ) 0), (m_cand μ), (va_up (m_cc μ) (m_hgt μ) 0), (m_mk μ), (m_asked μ), m_first μ, m_sum μ, m_hgt μ + 1)) from (by unfold dAsk; rw [if_neg c1, if_neg c2, if_neg c3, if_neg c4] <;> rfl)]; exact ⟨⟨r36, (hk42 0 (by decide) (by decide)).trans r0, (hk42 1 (by decide) (by decide)).trans r1, (hk42 2 (by decide) (by decide)).trans r2, (hk42 3 (by decide) (by decide)).trans r3, (hk42 4 (by decide) (by decide)).trans r4, (hk42 5 (by decide) (by decide)).trans r5, (hk42 6 (by decide) (by decide)).trans r6, (hk42 7 (by decide) (by decide)).trans r7, (hk42 8 (by decide) (by decide)).trans r8, ⟨_, (hk42 9 (by decide) (by decide)).trans r9⟩, (hk43 10 (by decide) (by decide)).trans r10, (hk42 11 (by decide) (by decide)).trans r11, (hk42 12 (by decide) (by decide)).trans r12, (hk42 13 (by decide) (by decide)).trans r13, (hk42 14 (by decide) (by decide)).trans r14, (hk42 15 (by decide) (by decide)).trans r15, (hk44 23 (by decide) (by decide)).trans r23, (hk42 24 (by decide) (by decide)).trans r24, (hk45 25 (by decide) (by decide)).trans r25, (hk43 26 (by decide) (by decide)).trans r26, (hk46 27 (by decide) (by decide)).trans r27, (hk47 28 (by decide) (by decide)).trans r28, (hk42 29 (by decide) (by decide)).trans r29, (hk48 30 (by decide) (by decide)).trans r30, (hk42 31 (by decide) (by decide)).trans r31, (hk42 32 (by decide) (by decide)).trans r32, (hk42 33 (by decide) (by decide)).trans r33, (hk42 34 (by decide) (by decide)).trans r34⟩, ho41⟩)⟩, mB_of ht hP⟩, hS.F ht⟩) hS.2.2 d_D_ask_167
        · refine lv_aload_n hx hb d_D_ask_65 rfl (lv_at hl 0 rfl) ?_
          refine va_get (D := (dC, dI)) (ci := 5) (v := .ref (md 23)) (C := R_D) (T := F_D) (N := 36) hx hb hg in_D hown hK (hP.one r36) 0 rfl rfl 23 (by decide) (hg _ k_614) (fun _ h9 => h9) rfl d_D_ask_66 ?_
          refine lv_iload_n hx hb d_D_ask_69 rfl (lv_at hl 1 rfl) ?_
          refine lv_iconst (v := (nI 2)) hx hb d_D_ask_70 (by decide) ?_
          refine fw_iast (tys := tyl dA) hx hb hK hP hS r23 0 rfl (j := k) (x := (nI 2)) (by omega) (by decide) d_D_ask_71 (fun w49 H locs ew50 hP hS => ?_)
          rw [nf_up] at ew50
          have r23 : w49 (md 23) = some (.inl (dA 0, 12, .inl (nf (va_up (m_st μ) k 2)))) := by rw [ew50]; exact va_up_self _ _ _
          have ho51 : OutD md w w49 := OutD.up OutD.rf ew50 (by decide)
          refine lv_aload_n hx hb d_D_ask_72 rfl (lv_at hl 0 rfl) ?_
          have r36 : w49 (md 36) = some (.inr (5, [.ref (md 0), .ref (md 1), .ref (md 2), .ref (md 3), .ref (md 4), .ref (md 5), .ref (md 6), .ref (md 7), .ref (md 8), .ref (md 9), .ref (md 10), .ref (md 11), .ref (md 12), .ref (md 13), .ref (md 14), .ref (md 15), .int (nI (m_cached μ)), .int (nI (m_ocached μ)), .int (m_circ μ), .int (m_ocirc μ), .int (nI (m_thr μ)), .int (nI (m_wkr μ)), .int (nI (m_ran μ).toNat), .ref (md 23), .ref (md 24), .ref (md 25), .ref (md 26), .ref (md 27), .ref (md 28), .ref (md 29), .ref (md 30), .ref (md 31), .ref (md 32), .ref (md 33), .ref (md 34), .int (nI (m_hgt μ))])) := by rw [ew50, va_up_ne _ _ (hj.ne (i := 36) (j := 23) (by decide) (by decide) (by decide))]; exact r36
          refine va_get (D := (dC, dI)) (ci := 5) (v := .ref (md 24)) (C := R_D) (T := F_D) (N := 36) hx hb hg in_D hown hK (hP.one r36) 0 rfl rfl 24 (by decide) (hg _ k_615) (fun _ h9 => h9) rfl d_D_ask_73 ?_
          refine lv_iload_n hx hb d_D_ask_76 rfl (lv_at hl 1 rfl) ?_
          refine lv_aload_n hx hb d_D_ask_77 rfl (lv_at hl 0 rfl) ?_
          refine va_get (D := (dC, dI)) (ci := 5) (v := .ref (md 3)) (C := R_D) (T := F_D) (N := 36) hx hb hg in_D hown hK (hP.one r36) 0 rfl rfl 3 (by decide) (hg _ k_594) (fun _ h9 => h9) rfl d_D_ask_78 ?_
          refine lv_iload_n hx hb d_D_ask_81 rfl (lv_at hl 1 rfl) ?_
          have r3 : w49 (md 3) = some (.inl (dA 1, 12, .inr (.inl (m_inp μ)))) := by rw [ew50, va_up_ne _ _ (hj.ne (i := 3) (j := 23) (by decide) (by decide) (by decide))]; exact r3
          refine fw_lald (tys := tyl dA) hx hb hK hP r3 1 rfl (j := k) (by omega) (by decide) d_D_ask_82 ?_
          have r24 : w49 (md 24) = some (.inl (dA 1, 12, .inr (.inl (m_val μ)))) := by rw [ew50, va_up_ne _ _ (hj.ne (i := 24) (j := 23) (by decide) (by decide) (by decide))]; exact r24
          refine fw_last (tys := tyl dA) hx hb hK hP hS r24 1 rfl (j := k) (by omega) (by decide) d_D_ask_83 (fun w52 H locs ew53 hP hS => ?_)
          have r24 : w52 (md 24) = some (.inl (dA 1, 12, .inr (.inl (vp_updL (m_val μ) k ((m_inp μ) k))))) := by rw [ew53]; exact va_up_self _ _ _
          have ho54 : OutD md w w52 := OutD.up ho51 ew53 (by decide)
          refine lv_iconst (v := (nI 1)) hx hb d_D_ask_84 (by decide) ?_
          have hk55 : ∀ i, U37 i → i ∉ [24] → w52 (md i) = w49 (md i) := fun i hi hn => by rw [ew53, va_up_ne _ _ (hj.ne hi (j := 24) (by decide) (fun e9 => hn (by rw [e9]; decide)))]
          have hk56 : ∀ i, U37 i → i ∉ [23, 24] → w52 (md i) = w (md i) := fun i hi hn => by rw [ew53, va_up_ne _ _ (hj.ne hi (j := 24) (by decide) (fun e9 => hn (by rw [e9]; decide))), ew50, va_up_ne _ _ (hj.ne hi (j := 23) (by decide) (fun e9 => hn (by rw [e9]; decide)))]
          exact W.zret (v := (nI 1)) hx hb hr (by decide) (fun tS ht hW => ⟨⟨(nI 1), w52, rfl, ⟨by unfold dAskB; rw [if_neg c1, if_neg c2, if_neg c3, if_pos c4]; rfl, (by rw [show dAsk k μ = (((m_sort μ), (m_rule μ), m_parts μ, m_inp μ), ((m_size μ), (m_keys μ), (m_own μ), m_got μ, m_came μ), (m_trc μ, (m_cch μ), m_cached μ, m_cnt μ, (m_circ μ)), (m_otrc μ, (m_occh μ), m_ocached μ, m_ocnt μ, (m_ocirc μ)), (m_thr μ, m_wkr μ, (m_ran μ), (va_up (m_st μ) k 2), vp_updL (m_val μ) k ((m_inp μ) k)), ((m_key μ), (m_ph μ), m_chk μ, (m_at μ), (m_cand μ), (m_cc μ), (m_mk μ), (m_asked μ), m_first μ, m_sum μ, m_hgt μ)) from (by unfold dAsk; rw [if_neg c1, if_neg c2, if_neg c3, if_pos c4] <;> rfl)]; exact ⟨⟨(hk55 36 (by decide) (by decide)).trans r36, (hk56 0 (by decide) (by decide)).trans r0, (hk56 1 (by decide) (by decide)).trans r1, (hk56 2 (by decide) (by decide)).trans r2, (hk55 3 (by decide) (by decide)).trans r3, (hk56 4 (by decide) (by decide)).trans r4, (hk56 5 (by decide) (by decide)).trans r5, (hk56 6 (by decide) (by decide)).trans r6, (hk56 7 (by decide) (by decide)).trans r7, (hk56 8 (by decide) (by decide)).trans r8, ⟨_, (hk56 9 (by decide) (by decide)).trans r9⟩, (hk56 10 (by decide) (by decide)).trans r10, (hk56 11 (by decide) (by decide)).trans r11, (hk56 12 (by decide) (by decide)).trans r12, (hk56 13 (by decide) (by decide)).trans r13, (hk56 14 (by decide) (by decide)).trans r14, (hk56 15 (by decide) (by decide)).trans r15, (hk55 23 (by decide) (by decide)).trans r23, r24, (hk56 25 (by decide) (by decide)).trans r25, (hk56 26 (by decide) (by decide)).trans r26, (hk56 27 (by decide) (by decide)).trans r27, (hk56 28 (by decide) (by decide)).trans r28, (hk56 29 (by decide) (by decide)).trans r29, (hk56 30 (by decide) (by decide)).trans r30, (hk56 31 (by decide) (by decide)).trans r31, (hk56 32 (by decide) (by decide)).trans r32, (hk56 33 (by decide) (by decide)).trans r33, (hk56 34 (by decide) (by decide)).trans r34⟩, ho54⟩)⟩, mB_of ht hP⟩, hS.F ht⟩) hS.2.2 d_D_ask_85
      · refine lv_aload_n hx hb d_D_ask_48 rfl (lv_at hl 0 rfl) ?_
        refine lv_iconst (v := (nI 2)) hx hb d_D_ask_49 (by decide) ?_
        refine fw_put (D := (dC, dI)) (ci := 5) (v := .int (nI 2)) (ty := .int) (C := R_D) (T := F_D) (N := 36) hx hb hg in_D ft_D ft_D_ok n_D hown hK hP hS r36 rfl 20 (by decide) (hg _ k_611) (fun _ h9 => h9) rfl (by decide +kernel) rfl rfl (Nat.le_of_ble_eq_true rfl) d_D_ask_50 (fun w57 H locs ew58 hP hS => ?_)
        have r36 : w57 (md 36) = some (.inr (5, [.ref (md 0), .ref (md 1), .ref (md 2), .ref (md 3), .ref (md 4), .ref (md 5), .ref (md 6), .ref (md 7), .ref (md 8), .ref (md 9), .ref (md 10), .ref (md 11), .ref (md 12), .ref (md 13), .ref (md 14), .ref (md 15), .int (nI (m_cached μ)), .int (nI (m_ocached μ)), .int (m_circ μ), .int (m_ocirc μ), .int (nI 2), .int (nI (m_wkr μ)), .int (nI (m_ran μ).toNat), .ref (md 23), .ref (md 24), .ref (md 25), .ref (md 26), .ref (md 27), .ref (md 28), .ref (md 29), .ref (md 30), .ref (md 31), .ref (md 32), .ref (md 33), .ref (md 34), .int (nI (m_hgt μ))])) := by rw [ew58]; exact va_up_self _ _ _
        have ho59 : OutD md w w57 := OutD.up OutD.rf ew58 (by decide)
        refine lv_iconst (v := (nI 0)) hx hb d_D_ask_53 (by decide) ?_
        have hk60 : ∀ i, U37 i → i ∉ [36] → w57 (md i) = w (md i) := fun i hi hn => by rw [ew58, va_up_ne _ _ (hj.ne hi (j := 36) (by decide) (fun e9 => hn (by rw [e9]; decide)))]
        exact W.zret (v := (nI 0)) hx hb hr (by decide) (fun tS ht hW => ⟨⟨(nI 0), w57, rfl, ⟨by unfold dAskB; rw [if_neg c1, if_neg c2, if_pos c3]; rfl, (by rw [show dAsk k μ = (((m_sort μ), (m_rule μ), m_parts μ, m_inp μ), ((m_size μ), (m_keys μ), (m_own μ), m_got μ, m_came μ), (m_trc μ, (m_cch μ), m_cached μ, m_cnt μ, (m_circ μ)), (m_otrc μ, (m_occh μ), m_ocached μ, m_ocnt μ, (m_ocirc μ)), (2, m_wkr μ, (m_ran μ), (m_st μ), m_val μ), ((m_key μ), (m_ph μ), m_chk μ, (m_at μ), (m_cand μ), (m_cc μ), (m_mk μ), (m_asked μ), m_first μ, m_sum μ, m_hgt μ)) from (by unfold dAsk; rw [if_neg c1, if_neg c2, if_pos c3] <;> rfl)]; exact ⟨⟨r36, (hk60 0 (by decide) (by decide)).trans r0, (hk60 1 (by decide) (by decide)).trans r1, (hk60 2 (by decide) (by decide)).trans r2, (hk60 3 (by decide) (by decide)).trans r3, (hk60 4 (by decide) (by decide)).trans r4, (hk60 5 (by decide) (by decide)).trans r5, (hk60 6 (by decide) (by decide)).trans r6, (hk60 7 (by decide) (by decide)).trans r7, (hk60 8 (by decide) (by decide)).trans r8, ⟨_, (hk60 9 (by decide) (by decide)).trans r9⟩, (hk60 10 (by decide) (by decide)).trans r10, (hk60 11 (by decide) (by decide)).trans r11, (hk60 12 (by decide) (by decide)).trans r12, (hk60 13 (by decide) (by decide)).trans r13, (hk60 14 (by decide) (by decide)).trans r14, (hk60 15 (by decide) (by decide)).trans r15, (hk60 23 (by decide) (by decide)).trans r23, (hk60 24 (by decide) (by decide)).trans r24, (hk60 25 (by decide) (by decide)).trans r25, (hk60 26 (by decide) (by decide)).trans r26, (hk60 27 (by decide) (by decide)).trans r27, (hk60 28 (by decide) (by decide)).trans r28, (hk60 29 (by decide) (by decide)).trans r29, (hk60 30 (by decide) (by decide)).trans r30, (hk60 31 (by decide) (by decide)).trans r31, (hk60 32 (by decide) (by decide)).trans r32, (hk60 33 (by decide) (by decide)).trans r33, (hk60 34 (by decide) (by decide)).trans r34⟩, ho59⟩)⟩, mB_of ht hP⟩, hS.F ht⟩) hS.2.2 d_D_ask_54
    · refine lv_aload_n hx hb d_D_ask_22 rfl (lv_at hl 0 rfl) ?_
      refine lv_dup hx hb d_D_ask_23 rfl ?_
      refine va_get (D := (dC, dI)) (ci := 5) (v := .int (m_circ μ)) (C := R_D) (T := F_D) (N := 36) hx hb hg in_D hown hK (hP.one r36) 0 rfl rfl 18 (by decide) (hg _ k_609) (fun _ h9 => h9) rfl d_D_ask_24 ?_
      refine lv_iconst (v := (nI 1)) hx hb d_D_ask_27 (by decide) ?_
      refine lv_iadd hx hb d_D_ask_28 ?_
      refine fw_put (D := (dC, dI)) (ci := 5) (v := .int ((m_circ μ) + (nI 1))) (ty := .int) (C := R_D) (T := F_D) (N := 36) hx hb hg in_D ft_D ft_D_ok n_D hown hK hP hS r36 rfl 18 (by decide) (hg _ k_609) (fun _ h9 => h9) rfl (by decide +kernel) rfl rfl (Nat.le_of_ble_eq_true rfl) d_D_ask_29 (fun w61 H locs ew62 hP hS => ?_)
      have r36 : w61 (md 36) = some (.inr (5, [.ref (md 0), .ref (md 1), .ref (md 2), .ref (md 3), .ref (md 4), .ref (md 5), .ref (md 6), .ref (md 7), .ref (md 8), .ref (md 9), .ref (md 10), .ref (md 11), .ref (md 12), .ref (md 13), .ref (md 14), .ref (md 15), .int (nI (m_cached μ)), .int (nI (m_ocached μ)), .int ((m_circ μ) + (nI 1)), .int (m_ocirc μ), .int (nI (m_thr μ)), .int (nI (m_wkr μ)), .int (nI (m_ran μ).toNat), .ref (md 23), .ref (md 24), .ref (md 25), .ref (md 26), .ref (md 27), .ref (md 28), .ref (md 29), .ref (md 30), .ref (md 31), .ref (md 32), .ref (md 33), .ref (md 34), .int (nI (m_hgt μ))])) := by rw [ew62]; exact va_up_self _ _ _
      have ho63 : OutD md w w61 := OutD.up OutD.rf ew62 (by decide)
      refine lv_aload_n hx hb d_D_ask_32 rfl (lv_at hl 0 rfl) ?_
      refine lv_iconst (v := (nI 4)) hx hb d_D_ask_33 (by decide) ?_
      refine fw_put (D := (dC, dI)) (ci := 5) (v := .int (nI 4)) (ty := .int) (C := R_D) (T := F_D) (N := 36) hx hb hg in_D ft_D ft_D_ok n_D hown hK hP hS r36 rfl 20 (by decide) (hg _ k_611) (fun _ h9 => h9) rfl (by decide +kernel) rfl rfl (Nat.le_of_ble_eq_true rfl) d_D_ask_34 (fun w64 H locs ew65 hP hS => ?_)
      have r36 : w64 (md 36) = some (.inr (5, [.ref (md 0), .ref (md 1), .ref (md 2), .ref (md 3), .ref (md 4), .ref (md 5), .ref (md 6), .ref (md 7), .ref (md 8), .ref (md 9), .ref (md 10), .ref (md 11), .ref (md 12), .ref (md 13), .ref (md 14), .ref (md 15), .int (nI (m_cached μ)), .int (nI (m_ocached μ)), .int ((m_circ μ) + (nI 1)), .int (m_ocirc μ), .int (nI 4), .int (nI (m_wkr μ)), .int (nI (m_ran μ).toNat), .ref (md 23), .ref (md 24), .ref (md 25), .ref (md 26), .ref (md 27), .ref (md 28), .ref (md 29), .ref (md 30), .ref (md 31), .ref (md 32), .ref (md 33), .ref (md 34), .int (nI (m_hgt μ))])) := by rw [ew65]; exact va_up_self _ _ _
      have ho66 : OutD md w w64 := OutD.up ho63 ew65 (by decide)
      refine lv_iconst (v := (nI 0)) hx hb d_D_ask_37 (by decide) ?_
      have hk67 : ∀ i, U37 i → i ∉ [36] → w64 (md i) = w (md i) := fun i hi hn => by rw [ew65, va_up_ne _ _ (hj.ne hi (j := 36) (by decide) (fun e9 => hn (by rw [e9]; decide))), ew62, va_up_ne _ _ (hj.ne hi (j := 36) (by decide) (fun e9 => hn (by rw [e9]; decide)))]
      exact W.zret (v := (nI 0)) hx hb hr (by decide) (fun tS ht hW => ⟨⟨(nI 0), w64, rfl, ⟨by unfold dAskB; rw [if_neg c1, if_pos c2]; rfl, (by rw [show dAsk k μ = (((m_sort μ), (m_rule μ), m_parts μ, m_inp μ), ((m_size μ), (m_keys μ), (m_own μ), m_got μ, m_came μ), (m_trc μ, (m_cch μ), m_cached μ, m_cnt μ, ((m_circ μ) + (nI 1))), (m_otrc μ, (m_occh μ), m_ocached μ, m_ocnt μ, (m_ocirc μ)), (4, m_wkr μ, (m_ran μ), (m_st μ), m_val μ), ((m_key μ), (m_ph μ), m_chk μ, (m_at μ), (m_cand μ), (m_cc μ), (m_mk μ), (m_asked μ), m_first μ, m_sum μ, m_hgt μ)) from (by unfold dAsk; rw [if_neg c1, if_pos c2] <;> rfl)]; exact ⟨⟨r36, (hk67 0 (by decide) (by decide)).trans r0, (hk67 1 (by decide) (by decide)).trans r1, (hk67 2 (by decide) (by decide)).trans r2, (hk67 3 (by decide) (by decide)).trans r3, (hk67 4 (by decide) (by decide)).trans r4, (hk67 5 (by decide) (by decide)).trans r5, (hk67 6 (by decide) (by decide)).trans r6, (hk67 7 (by decide) (by decide)).trans r7, (hk67 8 (by decide) (by decide)).trans r8, ⟨_, (hk67 9 (by decide) (by decide)).trans r9⟩, (hk67 10 (by decide) (by decide)).trans r10, (hk67 11 (by decide) (by decide)).trans r11, (hk67 12 (by decide) (by decide)).trans r12, (hk67 13 (by decide) (by decide)).trans r13, (hk67 14 (by decide) (by decide)).trans r14, (hk67 15 (by decide) (by decide)).trans r15, (hk67 23 (by decide) (by decide)).trans r23, (hk67 24 (by decide) (by decide)).trans r24, (hk67 25 (by decide) (by decide)).trans r25, (hk67 26 (by decide) (by decide)).trans r26, (hk67 27 (by decide) (by decide)).trans r27, (hk67 28 (by decide) (by decide)).trans r28, (hk67 29 (by decide) (by decide)).trans r29, (hk67 30 (by decide) (by decide)).trans r30, (hk67 31 (by decide) (by decide)).trans r31, (hk67 32 (by decide) (by decide)).trans r32, (hk67 33 (by decide) (by decide)).trans r33, (hk67 34 (by decide) (by decide)).trans r34⟩, ho66⟩)⟩, mB_of ht hP⟩, hS.F ht⟩) hS.2.2 d_D_ask_38
  · refine lv_iconst (v := (nI 1)) hx hb d_D_ask_10 (by decide) ?_
    exact W.zret (v := (nI 1)) hx hb hr (by decide) (fun tS ht hW => ⟨⟨(nI 1), w, rfl, ⟨by unfold dAskB; rw [if_pos c1]; rfl, (by rw [show dAsk k μ = (((m_sort μ), (m_rule μ), m_parts μ, m_inp μ), ((m_size μ), (m_keys μ), (m_own μ), m_got μ, m_came μ), (m_trc μ, (m_cch μ), m_cached μ, m_cnt μ, (m_circ μ)), (m_otrc μ, (m_occh μ), m_ocached μ, m_ocnt μ, (m_ocirc μ)), (m_thr μ, m_wkr μ, (m_ran μ), (m_st μ), m_val μ), ((m_key μ), (m_ph μ), m_chk μ, (m_at μ), (m_cand μ), (m_cc μ), (m_mk μ), (m_asked μ), m_first μ, m_sum μ, m_hgt μ)) from (by unfold dAsk; rw [if_pos c1] <;> rfl)]; exact ⟨⟨r36, r0, r1, r2, r3, r4, r5, r6, r7, r8, ⟨_, r9⟩, r10, r11, r12, r13, r14, r15, r23, r24, r25, r26, r27, r28, r29, r30, r31, r32, r33, r34⟩, OutD.rf⟩)⟩, mB_of ht hP⟩, hS.F ht⟩) hS.2.2 d_D_ask_11
