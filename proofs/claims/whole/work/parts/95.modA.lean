/-- the reference's remainder -/
def dMod (v : Int64) (n : Nat) : Int64 := (v - v / (nI n).toInt64 * (nI n).toInt64 + (nI n).toInt64) - (v - v / (nI n).toInt64 * (nI n).toInt64 + (nI n).toInt64) / (nI n).toInt64 * (nI n).toInt64
def dWant (μ : MS) (f : Nat) : Int32 :=
  if m_rule μ (m_key μ f) < 2 ∨ m_rule μ (m_key μ f) = 6 then (if m_asked μ f = 3 then -1 else m_parts μ (3 * m_key μ f + m_asked μ f))
  else if m_asked μ f = 0 then m_parts μ (3 * m_key μ f)
  else if m_rule μ (m_key μ f) = 2 then (if m_asked μ f = 2 then -1 else if 0 < m_first μ f then m_parts μ (3 * m_key μ f + 1) else m_parts μ (3 * m_key μ f + 2))
  else if m_rule μ (m_key μ f) = 4 then (if m_asked μ f = 2 then -1 else (dMod (m_first μ f) 12).toInt32)
  else if m_rule μ (m_key μ f) = 7 then (if dMod (m_first μ f) 4 < (nI (m_asked μ f)).toInt64 then -1 else m_parts μ (3 * m_key μ f + 1))
  else if m_rule μ (m_key μ f) = 8 ∨ m_asked μ f = 2 then -1 else m_parts μ (3 * m_key μ f + 1)
def dAcc (r n : Nat) (s v : Int64) : Int64 := if r = 0 ∨ r = 7 then s + v else if r = 1 then s * v else if r = 6 then (if n = 0 ∨ s < v then v else s) else v
def dFst (n f : Nat) (v : Int64) (g : Nat → Int64) : Nat → Int64 := if n = 0 then vp_updL g f v else g
def dTake (f : Nat) (v : Int64) (μ : MS) : MS := u_fr μ (m_key μ, m_ph μ, m_chk μ, m_at μ, m_cand μ, m_cc μ, m_mk μ, va_up (m_asked μ) f (m_asked μ f + 1), dFst (m_asked μ f) f v (m_first μ), vp_updL (m_sum μ) f (dAcc (m_rule μ (m_key μ f)) (m_asked μ f) (m_sum μ f) v), m_hgt μ)
def dThr (n : Nat) (μ : MS) : MS := u_se μ (n, m_wkr μ, m_ran μ, m_st μ, m_val μ)
def dFin (f : Nat) (v : Int64) (μ : MS) : MS := u_fr (u_se μ (m_thr μ, m_wkr μ, m_ran μ, va_up (m_st μ) (m_key μ f) 2, vp_updL (m_val μ) (m_key μ f) v)) (m_key μ, m_ph μ, m_chk μ, m_at μ, m_cand μ, m_cc μ, m_mk μ, m_asked μ, m_first μ, m_sum μ, m_hgt μ - 1)
def dPush (k : Nat) (μ : MS) : MS := u_fr (u_se μ (m_thr μ, m_wkr μ, m_ran μ, va_up (m_st μ) k 1, m_val μ)) (va_up (m_key μ) (m_hgt μ) k, va_up (m_ph μ) (m_hgt μ) 1, upd (m_chk μ) (m_hgt μ) (m_trc μ (12 * m_wkr μ + k)), va_up (m_at μ) (m_hgt μ) 0, m_cand μ, va_up (m_cc μ) (m_hgt μ) 0, m_mk μ, m_asked μ, m_first μ, m_sum μ, m_hgt μ + 1)
def dAskB (k : Nat) (μ : MS) : Bool := if m_st μ k = 2 then true else if m_st μ k = 1 then false else if m_sort μ k = 0 then false else if m_sort μ k = 1 then true else false
def dAsk (k : Nat) (μ : MS) : MS :=
  if m_st μ k = 2 then μ
  else if m_st μ k = 1 then u_mm (dThr 4 μ) (m_trc μ, m_cch μ, m_cached μ, m_cnt μ, m_circ μ + nI 1)
  else if m_sort μ k = 0 then dThr 2 μ
  else if m_sort μ k = 1 then u_se μ (m_thr μ, m_wkr μ, m_ran μ, va_up (m_st μ) k 2, vp_updL (m_val μ) k (m_inp μ k))
  else dPush k μ
set_option maxHeartbeats 4000000 in
set_option maxRecDepth 100000 in
theorem c_D_thrown {l : Launch} {s0 : State} {dC : Nat → ClassId} {dI : Nat → Nat → Nat} {dA : Nat → ClassId} (B0 : BB s0 dC dI dA) (w : fw_W) (md : Nat → Nat) (μ : MS) (hj : Inj37 md) (hD : RD dA md w μ) : Met l y_D_thrown [.code y_D_thrown b_D_thrown 1 (some .int)] ({ frames := 0, cells := 0, slots := 0, locals := 0 }) (mP s0 dC dI w [.ref (md 36)]) (mQi s0 dC dI (fun r w' => w' = w ∧ r = nI (m_thr μ))) 0 0 (AA s0) := by
  refine mt_ofW B0 (by decide) (Nat.le_of_ble_eq_true rfl) (fun p e s m args below meth c ls hargs X hin hl hP => ?_)
  have X9 := X
  obtain ⟨hx, hb, hr, hml, hown, hg, hK, hn, hE, hlocks, hA⟩ := X9
  have hS : va_S (AA s0) s.heap s.heap [] := va_S.rf
  have hl : lv_has ls 1 [(0, .ref (md 36))] := hl
  obtain ⟨r36, r0, r1, r2, r3, r4, r5, r6, r7, r8, ⟨u, r9⟩, r10, r11, r12, r13, r14, r15, r23, r24, r25, r26, r27, r28, r29, r30, r31, r32, r33, r34⟩ := (id hD)
  refine lv_aload_n hx hb d_D_thrown_0 rfl (lv_at hl 0 rfl) ?_
  refine va_get (D := (dC, dI)) (ci := 5) (v := .int (nI (m_thr μ))) (C := R_D) (T := F_D) (N := 36) hx hb hg in_D hown hK (hP.one r36) 0 rfl rfl 20 (by decide) (hg _ k_611) (fun _ h9 => h9) rfl d_D_thrown_1 ?_
  exact W.iret (v := (nI (m_thr μ))) hx hb hr (fun tS ht hW => ⟨⟨(nI (m_thr μ)), w, rfl, ⟨rfl, rfl⟩, mB_of ht hP⟩, hS.F ht⟩) hS.2.2 d_D_thrown_4
set_option maxHeartbeats 4000000 in
set_option maxRecDepth 100000 in
theorem c_D_in {l : Launch} {s0 : State} {dC : Nat → ClassId} {dI : Nat → Nat → Nat} {dA : Nat → ClassId} (B0 : BB s0 dC dI dA) (w : fw_W) (v a b : Int32)  : Met l y_D_in [.code y_D_in b_D_in 3 (some .boolean)] ({ frames := 0, cells := 0, slots := 0, locals := 0 }) (mP s0 dC dI w [.int v, .int a, .int b]) (mQi s0 dC dI (fun r w' => w' = w ∧ ∃ b9 : Bool, r = nI b9.toNat ∧ (b9 = true ↔ (a ≤ v ∧ v ≤ b)))) 0 0 (AA s0) := by
  refine mt_ofW B0 (by decide) (Nat.le_of_ble_eq_true rfl) (fun p e s m args below meth c ls hargs X hin hl hP => ?_)
  have X9 := X
  obtain ⟨hx, hb, hr, hml, hown, hg, hK, hn, hE, hlocks, hA⟩ := X9
  have hS : va_S (AA s0) s.heap s.heap [] := va_S.rf
  have hl : lv_has ls 3 [(0, .int v), (1, .int a), (2, .int b)] := hl
  refine lv_iload_n hx hb d_D_in_0 rfl (lv_at hl 0 rfl) ?_
  refine lv_iload_n hx hb d_D_in_1 rfl (lv_at hl 1 rfl) ?_
  refine lv_icmp_lt (tgt := 14) hx hb d_D_in_2 (by decide) (fun c1 => ?_) (fun c1 => ?_)
  · refine lv_iconst (v := (nI 0)) hx hb d_D_in_14 (by decide) ?_
    exact W.zret (v := (nI 0)) hx hb hr (by decide) (fun tS ht hW => ⟨⟨(nI 0), w, rfl, ⟨rfl, false, rfl, fun h9 => (by cases h9), fun h9 => absurd h9 (fun h8 => absurd (Int32.not_lt.mpr h8.1) (fun h7 => h7 c1))⟩, mB_of ht hP⟩, hS.F ht⟩) hS.2.2 d_D_in_15
  · refine lv_iload_n hx hb d_D_in_5 rfl (lv_at hl 0 rfl) ?_
    refine lv_iload_n hx hb d_D_in_6 rfl (lv_at hl 2 rfl) ?_
    refine lv_icmp_gt (tgt := 14) hx hb d_D_in_7 (by decide) (fun c2 => ?_) (fun c2 => ?_)
    · refine lv_iconst (v := (nI 0)) hx hb d_D_in_14 (by decide) ?_
      exact W.zret (v := (nI 0)) hx hb hr (by decide) (fun tS ht hW => ⟨⟨(nI 0), w, rfl, ⟨rfl, false, rfl, fun h9 => (by cases h9), fun h9 => absurd h9 (fun h8 => absurd (Int32.not_lt.mpr h8.2) (fun h7 => h7 c2))⟩, mB_of ht hP⟩, hS.F ht⟩) hS.2.2 d_D_in_15
    · refine lv_iconst (v := (nI 1)) hx hb d_D_in_10 (by decide) ?_
      refine lv_goto (tgt := 15) hx hb d_D_in_11 (by decide) ?_
      exact W.zret (v := (nI 1)) hx hb hr (by decide) (fun tS ht hW => ⟨⟨(nI 1), w, rfl, ⟨rfl, true, rfl, fun _ => ⟨Int32.not_lt.mp c1, Int32.not_lt.mp c2⟩, fun _ => rfl⟩, mB_of ht hP⟩, hS.F ht⟩) hS.2.2 d_D_in_15
set_option maxHeartbeats 4000000 in
set_option maxRecDepth 100000 in
theorem c_D_bad {l : Launch} {s0 : State} {dC : Nat → ClassId} {dI : Nat → Nat → Nat} {dA : Nat → ClassId} (B0 : BB s0 dC dI dA) (w : fw_W) (md : Nat → Nat) (μ : MS) (b : Bool) (hj : Inj37 md) (hD : RD dA md w μ) : Met l y_D_bad [.code y_D_bad b_D_bad 2 (some .boolean)] ({ frames := 0, cells := 0, slots := 0, locals := 0 }) (mP s0 dC dI w [.ref (md 36), .int (nI b.toNat)]) (mQi s0 dC dI (fun r w' => r = nI (!b).toNat ∧ RD dA md w' (dThr (if b = true then 0 else 1) μ) ∧ OutD md w w')) 0 0 (AA s0) := by
  refine mt_ofW B0 (by decide) (Nat.le_of_ble_eq_true rfl) (fun p e s m args below meth c ls hargs X hin hl hP => ?_)
  have X9 := X
  obtain ⟨hx, hb, hr, hml, hown, hg, hK, hn, hE, hlocks, hA⟩ := X9
  have hS : va_S (AA s0) s.heap s.heap [] := va_S.rf
  have hl : lv_has ls 2 [(0, .ref (md 36)), (1, .int (nI b.toNat))] := hl
  obtain ⟨r36, r0, r1, r2, r3, r4, r5, r6, r7, r8, ⟨u, r9⟩, r10, r11, r12, r13, r14, r15, r23, r24, r25, r26, r27, r28, r29, r30, r31, r32, r33, r34⟩ := (id hD)
  refine lv_aload_n hx hb d_D_bad_0 rfl (lv_at hl 0 rfl) ?_
  refine lv_iload_n hx hb d_D_bad_1 rfl (lv_at hl 1 rfl) ?_
  refine nu_ifeq (tgt := 9) hx hb d_D_bad_2 (by decide) (fun c1 => ?_) (fun c1 => ?_)
  · refine lv_iconst (v := (nI 1)) hx hb d_D_bad_9 (by decide) ?_
    refine fw_put (D := (dC, dI)) (ci := 5) (v := .int (nI 1)) (ty := .int) (C := R_D) (T := F_D) (N := 36) hx hb hg in_D ft_D ft_D_ok n_D hown hK hP hS r36 rfl 20 (by decide) (hg _ k_611) (fun _ h9 => h9) rfl (by decide +kernel) rfl rfl (Nat.le_of_ble_eq_true rfl) d_D_bad_10 (fun w1 H locs ew2 hP hS => ?_)
    have r0 : w1 (md 0) = some (.inl (dA 0, 12, .inl (nf (m_sort μ)))) := by rw [ew2, va_up_ne _ _ (hj.ne (i := 0) (j := 36) (by decide) (by decide) (by decide))]; exact r0
    have r1 : w1 (md 1) = some (.inl (dA 0, 12, .inl (nf (m_rule μ)))) := by rw [ew2, va_up_ne _ _ (hj.ne (i := 1) (j := 36) (by decide) (by decide) (by decide))]; exact r1
    have r2 : w1 (md 2) = some (.inl (dA 0, 36, .inl (m_parts μ))) := by rw [ew2, va_up_ne _ _ (hj.ne (i := 2) (j := 36) (by decide) (by decide) (by decide))]; exact r2
    have r3 : w1 (md 3) = some (.inl (dA 1, 12, .inr (.inl (m_inp μ)))) := by rw [ew2, va_up_ne _ _ (hj.ne (i := 3) (j := 36) (by decide) (by decide) (by decide))]; exact r3
    have r4 : w1 (md 4) = some (.inl (dA 0, 320, .inl (nf (m_size μ)))) := by rw [ew2, va_up_ne _ _ (hj.ne (i := 4) (j := 36) (by decide) (by decide) (by decide))]; exact r4
    have r5 : w1 (md 5) = some (.inl (dA 0, 3840, .inl (nf (m_keys μ)))) := by rw [ew2, va_up_ne _ _ (hj.ne (i := 5) (j := 36) (by decide) (by decide) (by decide))]; exact r5
    have r6 : w1 (md 6) = some (.inl (dA 0, 320, .inl (nf (m_own μ)))) := by rw [ew2, va_up_ne _ _ (hj.ne (i := 6) (j := 36) (by decide) (by decide) (by decide))]; exact r6
    have r7 : w1 (md 7) = some (.inl (dA 1, 3840, .inr (.inl (m_got μ)))) := by rw [ew2, va_up_ne _ _ (hj.ne (i := 7) (j := 36) (by decide) (by decide) (by decide))]; exact r7
    have r8 : w1 (md 8) = some (.inl (dA 1, 320, .inr (.inl (m_came μ)))) := by rw [ew2, va_up_ne _ _ (hj.ne (i := 8) (j := 36) (by decide) (by decide) (by decide))]; exact r8
    have r9 : w1 (md 9) = some (.inl (dA 2, 320, .inl (zf u))) := by rw [ew2, va_up_ne _ _ (hj.ne (i := 9) (j := 36) (by decide) (by decide) (by decide))]; exact r9
    have r10 : w1 (md 10) = some (.inl (dA 0, 24, .inl (m_trc μ))) := by rw [ew2, va_up_ne _ _ (hj.ne (i := 10) (j := 36) (by decide) (by decide) (by decide))]; exact r10
    have r11 : w1 (md 11) = some (.inl (dA 0, 24, .inl (m_otrc μ))) := by rw [ew2, va_up_ne _ _ (hj.ne (i := 11) (j := 36) (by decide) (by decide) (by decide))]; exact r11
    have r12 : w1 (md 12) = some (.inl (dA 0, 17, .inl (nf (m_cch μ)))) := by rw [ew2, va_up_ne _ _ (hj.ne (i := 12) (j := 36) (by decide) (by decide) (by decide))]; exact r12
    have r13 : w1 (md 13) = some (.inl (dA 0, 17, .inl (nf (m_occh μ)))) := by rw [ew2, va_up_ne _ _ (hj.ne (i := 13) (j := 36) (by decide) (by decide) (by decide))]; exact r13
    have r14 : w1 (md 14) = some (.inl (dA 0, 7, .inl (m_cnt μ))) := by rw [ew2, va_up_ne _ _ (hj.ne (i := 14) (j := 36) (by decide) (by decide) (by decide))]; exact r14
    have r15 : w1 (md 15) = some (.inl (dA 0, 7, .inl (m_ocnt μ))) := by rw [ew2, va_up_ne _ _ (hj.ne (i := 15) (j := 36) (by decide) (by decide) (by decide))]; exact r15
    have r23 : w1 (md 23) = some (.inl (dA 0, 12, .inl (nf (m_st μ)))) := by rw [ew2, va_up_ne _ _ (hj.ne (i := 23) (j := 36) (by decide) (by decide) (by decide))]; exact r23
    have r24 : w1 (md 24) = some (.inl (dA 1, 12, .inr (.inl (m_val μ)))) := by rw [ew2, va_up_ne _ _ (hj.ne (i := 24) (j := 36) (by decide) (by decide) (by decide))]; exact r24
    have r25 : w1 (md 25) = some (.inl (dA 0, 13, .inl (nf (m_key μ)))) := by rw [ew2, va_up_ne _ _ (hj.ne (i := 25) (j := 36) (by decide) (by decide) (by decide))]; exact r25
    have r26 : w1 (md 26) = some (.inl (dA 0, 13, .inl (nf (m_ph μ)))) := by rw [ew2, va_up_ne _ _ (hj.ne (i := 26) (j := 36) (by decide) (by decide) (by decide))]; exact r26
    have r27 : w1 (md 27) = some (.inl (dA 0, 13, .inl (m_chk μ))) := by rw [ew2, va_up_ne _ _ (hj.ne (i := 27) (j := 36) (by decide) (by decide) (by decide))]; exact r27
    have r28 : w1 (md 28) = some (.inl (dA 0, 13, .inl (nf (m_at μ)))) := by rw [ew2, va_up_ne _ _ (hj.ne (i := 28) (j := 36) (by decide) (by decide) (by decide))]; exact r28
    have r29 : w1 (md 29) = some (.inl (dA 0, 208, .inl (nf (m_cand μ)))) := by rw [ew2, va_up_ne _ _ (hj.ne (i := 29) (j := 36) (by decide) (by decide) (by decide))]; exact r29
    have r30 : w1 (md 30) = some (.inl (dA 0, 13, .inl (nf (m_cc μ)))) := by rw [ew2, va_up_ne _ _ (hj.ne (i := 30) (j := 36) (by decide) (by decide) (by decide))]; exact r30
    have r31 : w1 (md 31) = some (.inl (dA 0, 13, .inl (nf (m_mk μ)))) := by rw [ew2, va_up_ne _ _ (hj.ne (i := 31) (j := 36) (by decide) (by decide) (by decide))]; exact r31
    have r32 : w1 (md 32) = some (.inl (dA 0, 13, .inl (nf (m_asked μ)))) := by rw [ew2, va_up_ne _ _ (hj.ne (i := 32) (j := 36) (by decide) (by decide) (by decide))]; exact r32
    have r33 : w1 (md 33) = some (.inl (dA 1, 13, .inr (.inl (m_first μ)))) := by rw [ew2, va_up_ne _ _ (hj.ne (i := 33) (j := 36) (by decide) (by decide) (by decide))]; exact r33
    have r34 : w1 (md 34) = some (.inl (dA 1, 13, .inr (.inl (m_sum μ)))) := by rw [ew2, va_up_ne _ _ (hj.ne (i := 34) (j := 36) (by decide) (by decide) (by decide))]; exact r34
    have r36 : w1 (md 36) = some (.inr (5, [.ref (md 0), .ref (md 1), .ref (md 2), .ref (md 3), .ref (md 4), .ref (md 5), .ref (md 6), .ref (md 7), .ref (md 8), .ref (md 9), .ref (md 10), .ref (md 11), .ref (md 12), .ref (md 13), .ref (md 14), .ref (md 15), .int (nI (m_cached μ)), .int (nI (m_ocached μ)), .int (m_circ μ), .int (m_ocirc μ), .int (nI 1), .int (nI (m_wkr μ)), .int (nI (m_ran μ).toNat), .ref (md 23), .ref (md 24), .ref (md 25), .ref (md 26), .ref (md 27), .ref (md 28), .ref (md 29), .ref (md 30), .ref (md 31), .ref (md 32), .ref (md 33), .ref (md 34), .int (nI (m_hgt μ))])) := by rw [ew2]; exact va_up_self _ _ _
    have ho3 : OutD md w w1 := OutD.up OutD.rf ew2 (by decide)
    refine lv_iload_n hx hb d_D_bad_13 rfl (lv_at hl 1 rfl) ?_
    refine nu_ifne (tgt := 21) hx hb d_D_bad_14 (by decide) (fun c2 => ?_) (fun c2 => ?_)
    · refine lv_iconst (v := (nI 0)) hx hb d_D_bad_21 (by decide) ?_
      rw [c1] at c2; cases c2
    · refine lv_iconst (v := (nI 1)) hx hb d_D_bad_17 (by decide) ?_
      refine lv_goto (tgt := 22) hx hb d_D_bad_18 (by decide) ?_
      exact W.zret (v := (nI 1)) hx hb hr (by decide) (fun tS ht hW => ⟨⟨(nI 1), w1, rfl, ⟨by rw [c1]; rfl, (by rw [show dThr (if b = true then 0 else 1) μ = (((m_sort μ), (m_rule μ), m_parts μ, m_inp μ), ((m_size μ), (m_keys μ), (m_own μ), m_got μ, m_came μ), (m_trc μ, (m_cch μ), m_cached μ, m_cnt μ, (m_circ μ)), (m_otrc μ, (m_occh μ), m_ocached μ, m_ocnt μ, (m_ocirc μ)), (1, m_wkr μ, (m_ran μ), (m_st μ), m_val μ), ((m_key μ), (m_ph μ), m_chk μ, (m_at μ), (m_cand μ), (m_cc μ), (m_mk μ), (m_asked μ), m_first μ, m_sum μ, m_hgt μ)) from (by rw [c1]; rfl)]; exact ⟨⟨r36, r0, r1, r2, r3, r4, r5, r6, r7, r8, ⟨_, r9⟩, r10, r11, r12, r13, r14, r15, r23, r24, r25, r26, r27, r28, r29, r30, r31, r32, r33, r34⟩, ho3⟩)⟩, mB_of ht hP⟩, hS.F ht⟩) hS.2.2 d_D_bad_22
  · refine lv_iconst (v := (nI 0)) hx hb d_D_bad_5 (by decide) ?_
    refine lv_goto (tgt := 10) hx hb d_D_bad_6 (by decide) ?_
    refine fw_put (D := (dC, dI)) (ci := 5) (v := .int (nI 0)) (ty := .int) (C := R_D) (T := F_D) (N := 36) hx hb hg in_D ft_D ft_D_ok n_D hown hK hP hS r36 rfl 20 (by decide) (hg _ k_611) (fun _ h9 => h9) rfl (by decide +kernel) rfl rfl (Nat.le_of_ble_eq_true rfl) d_D_bad_10 (fun w4 H locs ew5 hP hS => ?_)
    have r0 : w4 (md 0) = some (.inl (dA 0, 12, .inl (nf (m_sort μ)))) := by rw [ew5, va_up_ne _ _ (hj.ne (i := 0) (j := 36) (by decide) (by decide) (by decide))]; exact r0
    have r1 : w4 (md 1) = some (.inl (dA 0, 12, .inl (nf (m_rule μ)))) := by rw [ew5, va_up_ne _ _ (hj.ne (i := 1) (j := 36) (by decide) (by decide) (by decide))]; exact r1
    have r2 : w4 (md 2) = some (.inl (dA 0, 36, .inl (m_parts μ))) := by rw [ew5, va_up_ne _ _ (hj.ne (i := 2) (j := 36) (by decide) (by decide) (by decide))]; exact r2
    have r3 : w4 (md 3) = some (.inl (dA 1, 12, .inr (.inl (m_inp μ)))) := by rw [ew5, va_up_ne _ _ (hj.ne (i := 3) (j := 36) (by decide) (by decide) (by decide))]; exact r3
    have r4 : w4 (md 4) = some (.inl (dA 0, 320, .inl (nf (m_size μ)))) := by rw [ew5, va_up_ne _ _ (hj.ne (i := 4) (j := 36) (by decide) (by decide) (by decide))]; exact r4
    have r5 : w4 (md 5) = some (.inl (dA 0, 3840, .inl (nf (m_keys μ)))) := by rw [ew5, va_up_ne _ _ (hj.ne (i := 5) (j := 36) (by decide) (by decide) (by decide))]; exact r5
    have r6 : w4 (md 6) = some (.inl (dA 0, 320, .inl (nf (m_own μ)))) := by rw [ew5, va_up_ne _ _ (hj.ne (i := 6) (j := 36) (by decide) (by decide) (by decide))]; exact r6
    have r7 : w4 (md 7) = some (.inl (dA 1, 3840, .inr (.inl (m_got μ)))) := by rw [ew5, va_up_ne _ _ (hj.ne (i := 7) (j := 36) (by decide) (by decide) (by decide))]; exact r7
    have r8 : w4 (md 8) = some (.inl (dA 1, 320, .inr (.inl (m_came μ)))) := by rw [ew5, va_up_ne _ _ (hj.ne (i := 8) (j := 36) (by decide) (by decide) (by decide))]; exact r8
    have r9 : w4 (md 9) = some (.inl (dA 2, 320, .inl (zf u))) := by rw [ew5, va_up_ne _ _ (hj.ne (i := 9) (j := 36) (by decide) (by decide) (by decide))]; exact r9
    have r10 : w4 (md 10) = some (.inl (dA 0, 24, .inl (m_trc μ))) := by rw [ew5, va_up_ne _ _ (hj.ne (i := 10) (j := 36) (by decide) (by decide) (by decide))]; exact r10
    have r11 : w4 (md 11) = some (.inl (dA 0, 24, .inl (m_otrc μ))) := by rw [ew5, va_up_ne _ _ (hj.ne (i := 11) (j := 36) (by decide) (by decide) (by decide))]; exact r11
    have r12 : w4 (md 12) = some (.inl (dA 0, 17, .inl (nf (m_cch μ)))) := by rw [ew5, va_up_ne _ _ (hj.ne (i := 12) (j := 36) (by decide) (by decide) (by decide))]; exact r12
    have r13 : w4 (md 13) = some (.inl (dA 0, 17, .inl (nf (m_occh μ)))) := by rw [ew5, va_up_ne _ _ (hj.ne (i := 13) (j := 36) (by decide) (by decide) (by decide))]; exact r13
    have r14 : w4 (md 14) = some (.inl (dA 0, 7, .inl (m_cnt μ))) := by rw [ew5, va_up_ne _ _ (hj.ne (i := 14) (j := 36) (by decide) (by decide) (by decide))]; exact r14
    have r15 : w4 (md 15) = some (.inl (dA 0, 7, .inl (m_ocnt μ))) := by rw [ew5, va_up_ne _ _ (hj.ne (i := 15) (j := 36) (by decide) (by decide) (by decide))]; exact r15
    have r23 : w4 (md 23) = some (.inl (dA 0, 12, .inl (nf (m_st μ)))) := by rw [ew5, va_up_ne _ _ (hj.ne (i := 23) (j := 36) (by decide) (by decide) (by decide))]; exact r23
    have r24 : w4 (md 24) = some (.inl (dA 1, 12, .inr (.inl (m_val μ)))) := by rw [ew5, va_up_ne _ _ (hj.ne (i := 24) (j := 36) (by decide) (by decide) (by decide))]; exact r24
    have r25 : w4 (md 25) = some (.inl (dA 0, 13, .inl (nf (m_key μ)))) := by rw [ew5, va_up_ne _ _ (hj.ne (i := 25) (j := 36) (by decide) (by decide) (by decide))]; exact r25
    have r26 : w4 (md 26) = some (.inl (dA 0, 13, .inl (nf (m_ph μ)))) := by rw [ew5, va_up_ne _ _ (hj.ne (i := 26) (j := 36) (by decide) (by decide) (by decide))]; exact r26
    have r27 : w4 (md 27) = some (.inl (dA 0, 13, .inl (m_chk μ))) := by rw [ew5, va_up_ne _ _ (hj.ne (i := 27) (j := 36) (by decide) (by decide) (by decide))]; exact r27
    have r28 : w4 (md 28) = some (.inl (dA 0, 13, .inl (nf (m_at μ)))) := by rw [ew5, va_up_ne _ _ (hj.ne (i := 28) (j := 36) (by decide) (by decide) (by decide))]; exact r28
    have r29 : w4 (md 29) = some (.inl (dA 0, 208, .inl (nf (m_cand μ)))) := by rw [ew5, va_up_ne _ _ (hj.ne (i := 29) (j := 36) (by decide) (by decide) (by decide))]; exact r29
    have r30 : w4 (md 30) = some (.inl (dA 0, 13, .inl (nf (m_cc μ)))) := by rw [ew5, va_up_ne _ _ (hj.ne (i := 30) (j := 36) (by decide) (by decide) (by decide))]; exact r30
    have r31 : w4 (md 31) = some (.inl (dA 0, 13, .inl (nf (m_mk μ)))) := by rw [ew5, va_up_ne _ _ (hj.ne (i := 31) (j := 36) (by decide) (by decide) (by decide))]; exact r31
    have r32 : w4 (md 32) = some (.inl (dA 0, 13, .inl (nf (m_asked μ)))) := by rw [ew5, va_up_ne _ _ (hj.ne (i := 32) (j := 36) (by decide) (by decide) (by decide))]; exact r32
    have r33 : w4 (md 33) = some (.inl (dA 1, 13, .inr (.inl (m_first μ)))) := by rw [ew5, va_up_ne _ _ (hj.ne (i := 33) (j := 36) (by decide) (by decide) (by decide))]; exact r33
    have r34 : w4 (md 34) = some (.inl (dA 1, 13, .inr (.inl (m_sum μ)))) := by rw [ew5, va_up_ne _ _ (hj.ne (i := 34) (j := 36) (by decide) (by decide) (by decide))]; exact r34
    have r36 : w4 (md 36) = some (.inr (5, [.ref (md 0), .ref (md 1), .ref (md 2), .ref (md 3), .ref (md 4), .ref (md 5), .ref (md 6), .ref (md 7), .ref (md 8), .ref (md 9), .ref (md 10), .ref (md 11), .ref (md 12), .ref (md 13), .ref (md 14), .ref (md 15), .int (nI (m_cached μ)), .int (nI (m_ocached μ)), .int (m_circ μ), .int (m_ocirc μ), .int (nI 0), .int (nI (m_wkr μ)), .int (nI (m_ran μ).toNat), .ref (md 23), .ref (md 24), .ref (md 25), .ref (md 26), .ref (md 27), .ref (md 28), .ref (md 29), .ref (md 30), .ref (md 31), .ref (md 32), .ref (md 33), .ref (md 34), .int (nI (m_hgt μ))])) := by rw [ew5]; exact va_up_self _ _ _
    have ho6 : OutD md w w4 := OutD.up OutD.rf ew5 (by decide)
    refine lv_iload_n hx hb d_D_bad_13 rfl (lv_at hl 1 rfl) ?_
    refine nu_ifne (tgt := 21) hx hb d_D_bad_14 (by decide) (fun c2 => ?_) (fun c2 => ?_)
    · refine lv_iconst (v := (nI 0)) hx hb d_D_bad_21 (by decide) ?_
      exact W.zret (v := (nI 0)) hx hb hr (by decide) (fun tS ht hW => ⟨⟨(nI 0), w4, rfl, ⟨by rw [c1]; rfl, (by rw [show dThr (if b = true then 0 else 1) μ = (((m_sort μ), (m_rule μ), m_parts μ, m_inp μ), ((m_size μ), (m_keys μ), (m_own μ), m_got μ, m_came μ), (m_trc μ, (m_cch μ), m_cached μ, m_cnt μ, (m_circ μ)), (m_otrc μ, (m_occh μ), m_ocached μ, m_ocnt μ, (m_ocirc μ)), (0, m_wkr μ, (m_ran μ), (m_st μ), m_val μ), ((m_key μ), (m_ph μ), m_chk μ, (m_at μ), (m_cand μ), (m_cc μ), (m_mk μ), (m_asked μ), m_first μ, m_sum μ, m_hgt μ)) from (by rw [c1]; rfl)]; exact ⟨⟨r36, r0, r1, r2, r3, r4, r5, r6, r7, r8, ⟨_, r9⟩, r10, r11, r12, r13, r14, r15, r23, r24, r25, r26, r27, r28, r29, r30, r31, r32, r33, r34⟩, ho6⟩)⟩, mB_of ht hP⟩, hS.F ht⟩) hS.2.2 d_D_bad_22
    · refine lv_iconst (v := (nI 1)) hx hb d_D_bad_17 (by decide) ?_
      refine lv_goto (tgt := 22) hx hb d_D_bad_18 (by decide) ?_
      rw [c1] at c2; cases c2
set_option maxHeartbeats 4000000 in
set_option maxRecDepth 100000 in
theorem c_D_modulo {l : Launch} {s0 : State} {dC : Nat → ClassId} {dI : Nat → Nat → Nat} {dA : Nat → ClassId} (B0 : BB s0 dC dI dA) (w : fw_W) (v : Int64) (n0 : Nat) (hn0 : (nI n0).toInt64 ≠ 0) : Met l y_D_modulo [.code y_D_modulo b_D_modulo 3 (some .long)] ({ frames := 0, cells := 0, slots := 0, locals := 0 }) (mP s0 dC dI w [.long v, .int (nI n0)]) (mQl s0 dC dI (fun r w' => w' = w ∧ r = dMod v n0)) 0 0 (AA s0) := by
  refine mt_ofW B0 (by decide) (Nat.le_of_ble_eq_true rfl) (fun p e s m args below meth c ls hargs X hin hl hP => ?_)
  have X9 := X
  obtain ⟨hx, hb, hr, hml, hown, hg, hK, hn, hE, hlocks, hA⟩ := X9
  have hS : va_S (AA s0) s.heap s.heap [] := va_S.rf
  have hl : lv_has ls 3 [(0, .long v), (2, .int (nI n0))] := hl
  refine lv_lload_n hx hb d_D_modulo_0 rfl (lv_at hl 0 rfl) ?_
  refine lv_iload_n hx hb d_D_modulo_1 rfl (lv_at hl 1 rfl) ?_
  refine lv_i2l (v := ((nI n0)).toInt64) hx hb d_D_modulo_2 rfl ?_
  refine lv_lrem hx hb d_D_modulo_3 hn0 ?_
  refine lv_iload_n hx hb d_D_modulo_4 rfl (lv_at hl 1 rfl) ?_
  refine lv_i2l (v := ((nI n0)).toInt64) hx hb d_D_modulo_5 rfl ?_
  refine lv_ladd hx hb d_D_modulo_6 ?_
  refine lv_iload_n hx hb d_D_modulo_7 rfl (lv_at hl 1 rfl) ?_
  refine lv_i2l (v := ((nI n0)).toInt64) hx hb d_D_modulo_8 rfl ?_
  refine lv_lrem hx hb d_D_modulo_9 hn0 ?_
  exact W.lret (v := ((v - v / (((nI n0)).toInt64) * (((nI n0)).toInt64)) + (((nI n0)).toInt64)) - ((v - v / (((nI n0)).toInt64) * (((nI n0)).toInt64)) + (((nI n0)).toInt64)) / (((nI n0)).toInt64) * (((nI n0)).toInt64)) hx hb hr (fun tS ht hW => ⟨⟨((v - v / (((nI n0)).toInt64) * (((nI n0)).toInt64)) + (((nI n0)).toInt64)) - ((v - v / (((nI n0)).toInt64) * (((nI n0)).toInt64)) + (((nI n0)).toInt64)) / (((nI n0)).toInt64) * (((nI n0)).toInt64), w, rfl, ⟨rfl, rfl⟩, mB_of ht hP⟩, hS.F ht⟩) hS.2.2 d_D_modulo_10
set_option maxHeartbeats 4000000 in
set_option maxRecDepth 100000 in
theorem c_D_finish {l : Launch} {s0 : State} {dC : Nat → ClassId} {dI : Nat → Nat → Nat} {dA : Nat → ClassId} (B0 : BB s0 dC dI dA) (w : fw_W) (md : Nat → Nat) (μ : MS) (f : Nat) (v : Int64) (hj : Inj37 md) (hD : RD dA md w μ) (hf : f < 13) (hk : m_key μ f < 12) (hh : 0 < m_hgt μ) : Met l y_D_finish [.code y_D_finish b_D_finish 4 none] ({ frames := 0, cells := 0, slots := 0, locals := 0 }) (mP s0 dC dI w [.ref (md 36), .int (nI f), .long v]) (mQv s0 dC dI (fun w' => RD dA md w' (dFin f v μ) ∧ OutD md w w')) 0 0 (AA s0) := by
  refine mt_ofW B0 (by decide) (Nat.le_of_ble_eq_true rfl) (fun p e s m args below meth c ls hargs X hin hl hP => ?_)
  have X9 := X
  obtain ⟨hx, hb, hr, hml, hown, hg, hK, hn, hE, hlocks, hA⟩ := X9
  have hS : va_S (AA s0) s.heap s.heap [] := va_S.rf
  have hl : lv_has ls 4 [(0, .ref (md 36)), (1, .int (nI f)), (2, .long v)] := hl
  obtain ⟨r36, r0, r1, r2, r3, r4, r5, r6, r7, r8, ⟨u, r9⟩, r10, r11, r12, r13, r14, r15, r23, r24, r25, r26, r27, r28, r29, r30, r31, r32, r33, r34⟩ := (id hD)
  refine lv_aload_n hx hb d_D_finish_0 rfl (lv_at hl 0 rfl) ?_
  refine va_get (D := (dC, dI)) (ci := 5) (v := .ref (md 23)) (C := R_D) (T := F_D) (N := 36) hx hb hg in_D hown hK (hP.one r36) 0 rfl rfl 23 (by decide) (hg _ k_614) (fun _ h9 => h9) rfl d_D_finish_1 ?_
  refine lv_aload_n hx hb d_D_finish_4 rfl (lv_at hl 0 rfl) ?_
  refine va_get (D := (dC, dI)) (ci := 5) (v := .ref (md 25)) (C := R_D) (T := F_D) (N := 36) hx hb hg in_D hown hK (hP.one r36) 0 rfl rfl 25 (by decide) (hg _ k_616) (fun _ h9 => h9) rfl d_D_finish_5 ?_
  refine lv_iload_n hx hb d_D_finish_8 rfl (lv_at hl 1 rfl) ?_
  refine fw_iald (tys := tyl dA) hx hb hK hP r25 0 rfl (j := f) (by omega) (by decide) d_D_finish_9 ?_
  refine lv_iconst (v := (nI 2)) hx hb d_D_finish_10 (by decide) ?_
  refine fw_iast (tys := tyl dA) hx hb hK hP hS r23 0 rfl (j := (m_key μ) f) (x := (nI 2)) (by omega) (by decide) d_D_finish_11 (fun w7 H locs ew8 hP hS => ?_)
  rw [nf_up] at ew8
  have r36 : w7 (md 36) = some (.inr (5, [.ref (md 0), .ref (md 1), .ref (md 2), .ref (md 3), .ref (md 4), .ref (md 5), .ref (md 6), .ref (md 7), .ref (md 8), .ref (md 9), .ref (md 10), .ref (md 11), .ref (md 12), .ref (md 13), .ref (md 14), .ref (md 15), .int (nI (m_cached μ)), .int (nI (m_ocached μ)), .int (m_circ μ), .int (m_ocirc μ), .int (nI (m_thr μ)), .int (nI (m_wkr μ)), .int (nI (m_ran μ).toNat), .ref (md 23), .ref (md 24), .ref (md 25), .ref (md 26), .ref (md 27), .ref (md 28), .ref (md 29), .ref (md 30), .ref (md 31), .ref (md 32), .ref (md 33), .ref (md 34), .int (nI (m_hgt μ))])) := by rw [ew8, va_up_ne _ _ (hj.ne (i := 36) (j := 23) (by decide) (by decide) (by decide))]; exact r36
  have r0 : w7 (md 0) = some (.inl (dA 0, 12, .inl (nf (m_sort μ)))) := by rw [ew8, va_up_ne _ _ (hj.ne (i := 0) (j := 23) (by decide) (by decide) (by decide))]; exact r0
  have r1 : w7 (md 1) = some (.inl (dA 0, 12, .inl (nf (m_rule μ)))) := by rw [ew8, va_up_ne _ _ (hj.ne (i := 1) (j := 23) (by decide) (by decide) (by decide))]; exact r1
  have r2 : w7 (md 2) = some (.inl (dA 0, 36, .inl (m_parts μ))) := by rw [ew8, va_up_ne _ _ (hj.ne (i := 2) (j := 23) (by decide) (by decide) (by decide))]; exact r2
  have r3 : w7 (md 3) = some (.inl (dA 1, 12, .inr (.inl (m_inp μ)))) := by rw [ew8, va_up_ne _ _ (hj.ne (i := 3) (j := 23) (by decide) (by decide) (by decide))]; exact r3
  have r4 : w7 (md 4) = some (.inl (dA 0, 320, .inl (nf (m_size μ)))) := by rw [ew8, va_up_ne _ _ (hj.ne (i := 4) (j := 23) (by decide) (by decide) (by decide))]; exact r4
  have r5 : w7 (md 5) = some (.inl (dA 0, 3840, .inl (nf (m_keys μ)))) := by rw [ew8, va_up_ne _ _ (hj.ne (i := 5) (j := 23) (by decide) (by decide) (by decide))]; exact r5
  have r6 : w7 (md 6) = some (.inl (dA 0, 320, .inl (nf (m_own μ)))) := by rw [ew8, va_up_ne _ _ (hj.ne (i := 6) (j := 23) (by decide) (by decide) (by decide))]; exact r6
  have r7 : w7 (md 7) = some (.inl (dA 1, 3840, .inr (.inl (m_got μ)))) := by rw [ew8, va_up_ne _ _ (hj.ne (i := 7) (j := 23) (by decide) (by decide) (by decide))]; exact r7
  have r8 : w7 (md 8) = some (.inl (dA 1, 320, .inr (.inl (m_came μ)))) := by rw [ew8, va_up_ne _ _ (hj.ne (i := 8) (j := 23) (by decide) (by decide) (by decide))]; exact r8
  have r9 : w7 (md 9) = some (.inl (dA 2, 320, .inl (zf u))) := by rw [ew8, va_up_ne _ _ (hj.ne (i := 9) (j := 23) (by decide) (by decide) (by decide))]; exact r9
  have r10 : w7 (md 10) = some (.inl (dA 0, 24, .inl (m_trc μ))) := by rw [ew8, va_up_ne _ _ (hj.ne (i := 10) (j := 23) (by decide) (by decide) (by decide))]; exact r10
  have r11 : w7 (md 11) = some (.inl (dA 0, 24, .inl (m_otrc μ))) := by rw [ew8, va_up_ne _ _ (hj.ne (i := 11) (j := 23) (by decide) (by decide) (by decide))]; exact r11
  have r12 : w7 (md 12) = some (.inl (dA 0, 17, .inl (nf (m_cch μ)))) := by rw [ew8, va_up_ne _ _ (hj.ne (i := 12) (j := 23) (by decide) (by decide) (by decide))]; exact r12
  have r13 : w7 (md 13) = some (.inl (dA 0, 17, .inl (nf (m_occh μ)))) := by rw [ew8, va_up_ne _ _ (hj.ne (i := 13) (j := 23) (by decide) (by decide) (by decide))]; exact r13
  have r14 : w7 (md 14) = some (.inl (dA 0, 7, .inl (m_cnt μ))) := by rw [ew8, va_up_ne _ _ (hj.ne (i := 14) (j := 23) (by decide) (by decide) (by decide))]; exact r14
  have r15 : w7 (md 15) = some (.inl (dA 0, 7, .inl (m_ocnt μ))) := by rw [ew8, va_up_ne _ _ (hj.ne (i := 15) (j := 23) (by decide) (by decide) (by decide))]; exact r15
  have r24 : w7 (md 24) = some (.inl (dA 1, 12, .inr (.inl (m_val μ)))) := by rw [ew8, va_up_ne _ _ (hj.ne (i := 24) (j := 23) (by decide) (by decide) (by decide))]; exact r24
  have r25 : w7 (md 25) = some (.inl (dA 0, 13, .inl (nf (m_key μ)))) := by rw [ew8, va_up_ne _ _ (hj.ne (i := 25) (j := 23) (by decide) (by decide) (by decide))]; exact r25
  have r26 : w7 (md 26) = some (.inl (dA 0, 13, .inl (nf (m_ph μ)))) := by rw [ew8, va_up_ne _ _ (hj.ne (i := 26) (j := 23) (by decide) (by decide) (by decide))]; exact r26
  have r27 : w7 (md 27) = some (.inl (dA 0, 13, .inl (m_chk μ))) := by rw [ew8, va_up_ne _ _ (hj.ne (i := 27) (j := 23) (by decide) (by decide) (by decide))]; exact r27
  have r28 : w7 (md 28) = some (.inl (dA 0, 13, .inl (nf (m_at μ)))) := by rw [ew8, va_up_ne _ _ (hj.ne (i := 28) (j := 23) (by decide) (by decide) (by decide))]; exact r28
  have r29 : w7 (md 29) = some (.inl (dA 0, 208, .inl (nf (m_cand μ)))) := by rw [ew8, va_up_ne _ _ (hj.ne (i := 29) (j := 23) (by decide) (by decide) (by decide))]; exact r29
  have r30 : w7 (md 30) = some (.inl (dA 0, 13, .inl (nf (m_cc μ)))) := by rw [ew8, va_up_ne _ _ (hj.ne (i := 30) (j := 23) (by decide) (by decide) (by decide))]; exact r30
  have r31 : w7 (md 31) = some (.inl (dA 0, 13, .inl (nf (m_mk μ)))) := by rw [ew8, va_up_ne _ _ (hj.ne (i := 31) (j := 23) (by decide) (by decide) (by decide))]; exact r31
  have r32 : w7 (md 32) = some (.inl (dA 0, 13, .inl (nf (m_asked μ)))) := by rw [ew8, va_up_ne _ _ (hj.ne (i := 32) (j := 23) (by decide) (by decide) (by decide))]; exact r32
  have r33 : w7 (md 33) = some (.inl (dA 1, 13, .inr (.inl (m_first μ)))) := by rw [ew8, va_up_ne _ _ (hj.ne (i := 33) (j := 23) (by decide) (by decide) (by decide))]; exact r33
  have r34 : w7 (md 34) = some (.inl (dA 1, 13, .inr (.inl (m_sum μ)))) := by rw [ew8, va_up_ne _ _ (hj.ne (i := 34) (j := 23) (by decide) (by decide) (by decide))]; exact r34
  have r23 : w7 (md 23) = some (.inl (dA 0, 12, .inl (nf (va_up (m_st μ) ((m_key μ) f) 2)))) := by rw [ew8]; exact va_up_self _ _ _
  have ho9 : OutD md w w7 := OutD.up OutD.rf ew8 (by decide)
  refine lv_aload_n hx hb d_D_finish_12 rfl (lv_at hl 0 rfl) ?_
  refine va_get (D := (dC, dI)) (ci := 5) (v := .ref (md 24)) (C := R_D) (T := F_D) (N := 36) hx hb hg in_D hown hK (hP.one r36) 0 rfl rfl 24 (by decide) (hg _ k_615) (fun _ h9 => h9) rfl d_D_finish_13 ?_
  refine lv_aload_n hx hb d_D_finish_16 rfl (lv_at hl 0 rfl) ?_
  refine va_get (D := (dC, dI)) (ci := 5) (v := .ref (md 25)) (C := R_D) (T := F_D) (N := 36) hx hb hg in_D hown hK (hP.one r36) 0 rfl rfl 25 (by decide) (hg _ k_616) (fun _ h9 => h9) rfl d_D_finish_17 ?_
  refine lv_iload_n hx hb d_D_finish_20 rfl (lv_at hl 1 rfl) ?_
  refine fw_iald (tys := tyl dA) hx hb hK hP r25 0 rfl (j := f) (by omega) (by decide) d_D_finish_21 ?_
  refine lv_lload_n hx hb d_D_finish_22 rfl (lv_at hl 2 rfl) ?_
  refine fw_last (tys := tyl dA) hx hb hK hP hS r24 1 rfl (j := (m_key μ) f) (by omega) (by decide) d_D_finish_23 (fun w10 H locs ew11 hP hS => ?_)
  have r36 : w10 (md 36) = some (.inr (5, [.ref (md 0), .ref (md 1), .ref (md 2), .ref (md 3), .ref (md 4), .ref (md 5), .ref (md 6), .ref (md 7), .ref (md 8), .ref (md 9), .ref (md 10), .ref (md 11), .ref (md 12), .ref (md 13), .ref (md 14), .ref (md 15), .int (nI (m_cached μ)), .int (nI (m_ocached μ)), .int (m_circ μ), .int (m_ocirc μ), .int (nI (m_thr μ)), .int (nI (m_wkr μ)), .int (nI (m_ran μ).toNat), .ref (md 23), .ref (md 24), .ref (md 25), .ref (md 26), .ref (md 27), .ref (md 28), .ref (md 29), .ref (md 30), .ref (md 31), .ref (md 32), .ref (md 33), .ref (md 34), .int (nI (m_hgt μ))])) := by rw [ew11, va_up_ne _ _ (hj.ne (i := 36) (j := 24) (by decide) (by decide) (by decide))]; exact r36
  have r0 : w10 (md 0) = some (.inl (dA 0, 12, .inl (nf (m_sort μ)))) := by rw [ew11, va_up_ne _ _ (hj.ne (i := 0) (j := 24) (by decide) (by decide) (by decide))]; exact r0
  have r1 : w10 (md 1) = some (.inl (dA 0, 12, .inl (nf (m_rule μ)))) := by rw [ew11, va_up_ne _ _ (hj.ne (i := 1) (j := 24) (by decide) (by decide) (by decide))]; exact r1
  have r2 : w10 (md 2) = some (.inl (dA 0, 36, .inl (m_parts μ))) := by rw [ew11, va_up_ne _ _ (hj.ne (i := 2) (j := 24) (by decide) (by decide) (by decide))]; exact r2
  have r3 : w10 (md 3) = some (.inl (dA 1, 12, .inr (.inl (m_inp μ)))) := by rw [ew11, va_up_ne _ _ (hj.ne (i := 3) (j := 24) (by decide) (by decide) (by decide))]; exact r3
  have r4 : w10 (md 4) = some (.inl (dA 0, 320, .inl (nf (m_size μ)))) := by rw [ew11, va_up_ne _ _ (hj.ne (i := 4) (j := 24) (by decide) (by decide) (by decide))]; exact r4
  have r5 : w10 (md 5) = some (.inl (dA 0, 3840, .inl (nf (m_keys μ)))) := by rw [ew11, va_up_ne _ _ (hj.ne (i := 5) (j := 24) (by decide) (by decide) (by decide))]; exact r5
  have r6 : w10 (md 6) = some (.inl (dA 0, 320, .inl (nf (m_own μ)))) := by rw [ew11, va_up_ne _ _ (hj.ne (i := 6) (j := 24) (by decide) (by decide) (by decide))]; exact r6
  have r7 : w10 (md 7) = some (.inl (dA 1, 3840, .inr (.inl (m_got μ)))) := by rw [ew11, va_up_ne _ _ (hj.ne (i := 7) (j := 24) (by decide) (by decide) (by decide))]; exact r7
  have r8 : w10 (md 8) = some (.inl (dA 1, 320, .inr (.inl (m_came μ)))) := by rw [ew11, va_up_ne _ _ (hj.ne (i := 8) (j := 24) (by decide) (by decide) (by decide))]; exact r8
  have r9 : w10 (md 9) = some (.inl (dA 2, 320, .inl (zf u))) := by rw [ew11, va_up_ne _ _ (hj.ne (i := 9) (j := 24) (by decide) (by decide) (by decide))]; exact r9
  have r10 : w10 (md 10) = some (.inl (dA 0, 24, .inl (m_trc μ))) := by rw [ew11, va_up_ne _ _ (hj.ne (i := 10) (j := 24) (by decide) (by decide) (by decide))]; exact r10
  have r11 : w10 (md 11) = some (.inl (dA 0, 24, .inl (m_otrc μ))) := by rw [ew11, va_up_ne _ _ (hj.ne (i := 11) (j := 24) (by decide) (by decide) (by decide))]; exact r11
  have r12 : w10 (md 12) = some (.inl (dA 0, 17, .inl (nf (m_cch μ)))) := by rw [ew11, va_up_ne _ _ (hj.ne (i := 12) (j := 24) (by decide) (by decide) (by decide))]; exact r12
  have r13 : w10 (md 13) = some (.inl (dA 0, 17, .inl (nf (m_occh μ)))) := by rw [ew11, va_up_ne _ _ (hj.ne (i := 13) (j := 24) (by decide) (by decide) (by decide))]; exact r13
  have r14 : w10 (md 14) = some (.inl (dA 0, 7, .inl (m_cnt μ))) := by rw [ew11, va_up_ne _ _ (hj.ne (i := 14) (j := 24) (by decide) (by decide) (by decide))]; exact r14
  have r15 : w10 (md 15) = some (.inl (dA 0, 7, .inl (m_ocnt μ))) := by rw [ew11, va_up_ne _ _ (hj.ne (i := 15) (j := 24) (by decide) (by decide) (by decide))]; exact r15
  have r23 : w10 (md 23) = some (.inl (dA 0, 12, .inl (nf (va_up (m_st μ) ((m_key μ) f) 2)))) := by rw [ew11, va_up_ne _ _ (hj.ne (i := 23) (j := 24) (by decide) (by decide) (by decide))]; exact r23
  have r25 : w10 (md 25) = some (.inl (dA 0, 13, .inl (nf (m_key μ)))) := by rw [ew11, va_up_ne _ _ (hj.ne (i := 25) (j := 24) (by decide) (by decide) (by decide))]; exact r25
  have r26 : w10 (md 26) = some (.inl (dA 0, 13, .inl (nf (m_ph μ)))) := by rw [ew11, va_up_ne _ _ (hj.ne (i := 26) (j := 24) (by decide) (by decide) (by decide))]; exact r26
  have r27 : w10 (md 27) = some (.inl (dA 0, 13, .inl (m_chk μ))) := by rw [ew11, va_up_ne _ _ (hj.ne (i := 27) (j := 24) (by decide) (by decide) (by decide))]; exact r27
  have r28 : w10 (md 28) = some (.inl (dA 0, 13, .inl (nf (m_at μ)))) := by rw [ew11, va_up_ne _ _ (hj.ne (i := 28) (j := 24) (by decide) (by decide) (by decide))]; exact r28
  have r29 : w10 (md 29) = some (.inl (dA 0, 208, .inl (nf (m_cand μ)))) := by rw [ew11, va_up_ne _ _ (hj.ne (i := 29) (j := 24) (by decide) (by decide) (by decide))]; exact r29
  have r30 : w10 (md 30) = some (.inl (dA 0, 13, .inl (nf (m_cc μ)))) := by rw [ew11, va_up_ne _ _ (hj.ne (i := 30) (j := 24) (by decide) (by decide) (by decide))]; exact r30
  have r31 : w10 (md 31) = some (.inl (dA 0, 13, .inl (nf (m_mk μ)))) := by rw [ew11, va_up_ne _ _ (hj.ne (i := 31) (j := 24) (by decide) (by decide) (by decide))]; exact r31
  have r32 : w10 (md 32) = some (.inl (dA 0, 13, .inl (nf (m_asked μ)))) := by rw [ew11, va_up_ne _ _ (hj.ne (i := 32) (j := 24) (by decide) (by decide) (by decide))]; exact r32
  have r33 : w10 (md 33) = some (.inl (dA 1, 13, .inr (.inl (m_first μ)))) := by rw [ew11, va_up_ne _ _ (hj.ne (i := 33) (j := 24) (by decide) (by decide) (by decide))]; exact r33
  have r34 : w10 (md 34) = some (.inl (dA 1, 13, .inr (.inl (m_sum μ)))) := by rw [ew11, va_up_ne _ _ (hj.ne (i := 34) (j := 24) (by decide) (by decide) (by decide))]; exact r34
  have r24 : w10 (md 24) = some (.inl (dA 1, 12, .inr (.inl (vp_updL (m_val μ) ((m_key μ) f) v)))) := by rw [ew11]; exact va_up_self _ _ _
  have ho12 : OutD md w w10 := OutD.up ho9 ew11 (by decide)
  refine lv_aload_n hx hb d_D_finish_24 rfl (lv_at hl 0 rfl) ?_
  refine lv_dup hx hb d_D_finish_25 rfl ?_
  refine va_get (D := (dC, dI)) (ci := 5) (v := .int (nI (m_hgt μ))) (C := R_D) (T := F_D) (N := 36) hx hb hg in_D hown hK (hP.one r36) 0 rfl rfl 35 (by decide) (hg _ k_626) (fun _ h9 => h9) rfl d_D_finish_26 ?_
  refine lv_iconst (v := (nI 1)) hx hb d_D_finish_29 (by decide) ?_
  refine nu_isub (r := (m_hgt μ) - 1) hx hb d_D_finish_30 (by omega) ?_
  refine fw_put (D := (dC, dI)) (ci := 5) (v := .int (nI ((m_hgt μ) - 1))) (ty := .int) (C := R_D) (T := F_D) (N := 36) hx hb hg in_D ft_D ft_D_ok n_D hown hK hP hS r36 rfl 35 (by decide) (hg _ k_626) (fun _ h9 => h9) rfl (by decide +kernel) rfl rfl (Nat.le_of_ble_eq_true rfl) d_D_finish_31 (fun w13 H locs ew14 hP hS => ?_)
  have r0 : w13 (md 0) = some (.inl (dA 0, 12, .inl (nf (m_sort μ)))) := by rw [ew14, va_up_ne _ _ (hj.ne (i := 0) (j := 36) (by decide) (by decide) (by decide))]; exact r0
  have r1 : w13 (md 1) = some (.inl (dA 0, 12, .inl (nf (m_rule μ)))) := by rw [ew14, va_up_ne _ _ (hj.ne (i := 1) (j := 36) (by decide) (by decide) (by decide))]; exact r1
  have r2 : w13 (md 2) = some (.inl (dA 0, 36, .inl (m_parts μ))) := by rw [ew14, va_up_ne _ _ (hj.ne (i := 2) (j := 36) (by decide) (by decide) (by decide))]; exact r2
  have r3 : w13 (md 3) = some (.inl (dA 1, 12, .inr (.inl (m_inp μ)))) := by rw [ew14, va_up_ne _ _ (hj.ne (i := 3) (j := 36) (by decide) (by decide) (by decide))]; exact r3
  have r4 : w13 (md 4) = some (.inl (dA 0, 320, .inl (nf (m_size μ)))) := by rw [ew14, va_up_ne _ _ (hj.ne (i := 4) (j := 36) (by decide) (by decide) (by decide))]; exact r4
  have r5 : w13 (md 5) = some (.inl (dA 0, 3840, .inl (nf (m_keys μ)))) := by rw [ew14, va_up_ne _ _ (hj.ne (i := 5) (j := 36) (by decide) (by decide) (by decide))]; exact r5
  have r6 : w13 (md 6) = some (.inl (dA 0, 320, .inl (nf (m_own μ)))) := by rw [ew14, va_up_ne _ _ (hj.ne (i := 6) (j := 36) (by decide) (by decide) (by decide))]; exact r6
  have r7 : w13 (md 7) = some (.inl (dA 1, 3840, .inr (.inl (m_got μ)))) := by rw [ew14, va_up_ne _ _ (hj.ne (i := 7) (j := 36) (by decide) (by decide) (by decide))]; exact r7
  have r8 : w13 (md 8) = some (.inl (dA 1, 320, .inr (.inl (m_came μ)))) := by rw [ew14, va_up_ne _ _ (hj.ne (i := 8) (j := 36) (by decide) (by decide) (by decide))]; exact r8
  have r9 : w13 (md 9) = some (.inl (dA 2, 320, .inl (zf u))) := by rw [ew14, va_up_ne _ _ (hj.ne (i := 9) (j := 36) (by decide) (by decide) (by decide))]; exact r9
  have r10 : w13 (md 10) = some (.inl (dA 0, 24, .inl (m_trc μ))) := by rw [ew14, va_up_ne _ _ (hj.ne (i := 10) (j := 36) (by decide) (by decide) (by decide))]; exact r10
  have r11 : w13 (md 11) = some (.inl (dA 0, 24, .inl (m_otrc μ))) := by rw [ew14, va_up_ne _ _ (hj.ne (i := 11) (j := 36) (by decide) (by decide) (by decide))]; exact r11
  have r12 : w13 (md 12) = some (.inl (dA 0, 17, .inl (nf (m_cch μ)))) := by rw [ew14, va_up_ne _ _ (hj.ne (i := 12) (j := 36) (by decide) (by decide) (by decide))]; exact r12
  have r13 : w13 (md 13) = some (.inl (dA 0, 17, .inl (nf (m_occh μ)))) := by rw [ew14, va_up_ne _ _ (hj.ne (i := 13) (j := 36) (by decide) (by decide) (by decide))]; exact r13
  have r14 : w13 (md 14) = some (.inl (dA 0, 7, .inl (m_cnt μ))) := by rw [ew14, va_up_ne _ _ (hj.ne (i := 14) (j := 36) (by decide) (by decide) (by decide))]; exact r14
  have r15 : w13 (md 15) = some (.inl (dA 0, 7, .inl (m_ocnt μ))) := by rw [ew14, va_up_ne _ _ (hj.ne (i := 15) (j := 36) (by decide) (by decide) (by decide))]; exact r15
  have r23 : w13 (md 23) = some (.inl (dA 0, 12, .inl (nf (va_up (m_st μ) ((m_key μ) f) 2)))) := by rw [ew14, va_up_ne _ _ (hj.ne (i := 23) (j := 36) (by decide) (by decide) (by decide))]; exact r23
  have r24 : w13 (md 24) = some (.inl (dA 1, 12, .inr (.inl (vp_updL (m_val μ) ((m_key μ) f) v)))) := by rw [ew14, va_up_ne _ _ (hj.ne (i := 24) (j := 36) (by decide) (by decide) (by decide))]; exact r24
  have r25 : w13 (md 25) = some (.inl (dA 0, 13, .inl (nf (m_key μ)))) := by rw [ew14, va_up_ne _ _ (hj.ne (i := 25) (j := 36) (by decide) (by decide) (by decide))]; exact r25
  have r26 : w13 (md 26) = some (.inl (dA 0, 13, .inl (nf (m_ph μ)))) := by rw [ew14, va_up_ne _ _ (hj.ne (i := 26) (j := 36) (by decide) (by decide) (by decide))]; exact r26
  have r27 : w13 (md 27) = some (.inl (dA 0, 13, .inl (m_chk μ))) := by rw [ew14, va_up_ne _ _ (hj.ne (i := 27) (j := 36) (by decide) (by decide) (by decide))]; exact r27
  have r28 : w13 (md 28) = some (.inl (dA 0, 13, .inl (nf (m_at μ)))) := by rw [ew14, va_up_ne _ _ (hj.ne (i := 28) (j := 36) (by decide) (by decide) (by decide))]; exact r28
  have r29 : w13 (md 29) = some (.inl (dA 0, 208, .inl (nf (m_cand μ)))) := by rw [ew14, va_up_ne _ _ (hj.ne (i := 29) (j := 36) (by decide) (by decide) (by decide))]; exact r29
  have r30 : w13 (md 30) = some (.inl (dA 0, 13, .inl (nf (m_cc μ)))) := by rw [ew14, va_up_ne _ _ (hj.ne (i := 30) (j := 36) (by decide) (by decide) (by decide))]; exact r30
  have r31 : w13 (md 31) = some (.inl (dA 0, 13, .inl (nf (m_mk μ)))) := by rw [ew14, va_up_ne _ _ (hj.ne (i := 31) (j := 36) (by decide) (by decide) (by decide))]; exact r31
  have r32 : w13 (md 32) = some (.inl (dA 0, 13, .inl (nf (m_asked μ)))) := by rw [ew14, va_up_ne _ _ (hj.ne (i := 32) (j := 36) (by decide) (by decide) (by decide))]; exact r32
  have r33 : w13 (md 33) = some (.inl (dA 1, 13, .inr (.inl (m_first μ)))) := by rw [ew14, va_up_ne _ _ (hj.ne (i := 33) (j := 36) (by decide) (by decide) (by decide))]; exact r33
  have r34 : w13 (md 34) = some (.inl (dA 1, 13, .inr (.inl (m_sum μ)))) := by rw [ew14, va_up_ne _ _ (hj.ne (i := 34) (j := 36) (by decide) (by decide) (by decide))]; exact r34
  have r36 : w13 (md 36) = some (.inr (5, [.ref (md 0), .ref (md 1), .ref (md 2), .ref (md 3), .ref (md 4), .ref (md 5), .ref (md 6), .ref (md 7), .ref (md 8), .ref (md 9), .ref (md 10), .ref (md 11), .ref (md 12), .ref (md 13), .ref (md 14), .ref (md 15), .int (nI (m_cached μ)), .int (nI (m_ocached μ)), .int (m_circ μ), .int (m_ocirc μ), .int (nI (m_thr μ)), .int (nI (m_wkr μ)), .int (nI (m_ran μ).toNat), .ref (md 23), .ref (md 24), .ref (md 25), .ref (md 26), .ref (md 27), .ref (md 28), .ref (md 29), .ref (md 30), .ref (md 31), .ref (md 32), .ref (md 33), .ref (md 34), .int (nI ((m_hgt μ) - 1))])) := by rw [ew14]; exact va_up_self _ _ _
  have ho15 : OutD md w w13 := OutD.up ho12 ew14 (by decide)
  exact W.vret hx hb hr (fun tS ht hW => ⟨⟨w13, rfl, ⟨⟨r36, r0, r1, r2, r3, r4, r5, r6, r7, r8, ⟨_, r9⟩, r10, r11, r12, r13, r14, r15, r23, r24, r25, r26, r27, r28, r29, r30, r31, r32, r33, r34⟩, ho15⟩, mB_of ht hP⟩, hS.F ht⟩) hS.2.2 d_D_finish_34
set_option maxHeartbeats 4000000 in
set_option maxRecDepth 100000 in
theorem c_D_ask {l : Launch} {s0 : State} {dC : Nat → ClassId} {dI : Nat → Nat → Nat} {dA : Nat → ClassId} (B0 : BB s0 dC dI dA) (w : fw_W) (md : Nat → Nat) (μ : MS) (k : Nat) (hj : Inj37 md) (hD : RD dA md w μ) (hk : k < 12) (hw2 : m_wkr μ < 2) (hh : m_hgt μ < 13) (hs3 : m_st μ k < 3) (hq3 : m_sort μ k < 3) : Met l y_D_ask [.code y_D_ask b_D_ask 2 (some .boolean)] ({ frames := 0, cells := 0, slots := 0, locals := 0 }) (mP s0 dC dI w [.ref (md 36), .int (nI k)]) (mQi s0 dC dI (fun r w' => r = nI (dAskB k μ).toNat ∧ RD dA md w' (dAsk k μ) ∧ OutD md w w')) 0 0 (AA s0) := by
  refine mt_ofW B0 (by decide) (Nat.le_of_ble_eq_true rfl) (fun p e s m args below meth c ls hargs X hin hl hP => ?_)
  have X9 := X
  obtain ⟨hx, hb, hr, hml, hown, hg, hK, hn, hE, hlocks, hA⟩ := X9
  have hS : va_S (AA s0) s.heap s.heap [] := va_S.rf
  have hl : lv_has ls 2 [(0, .ref (md 36)), (1, .int (nI k))] := hl
  obtain ⟨r36, r0, r1, r2, r3, r4, r5, r6, r7, r8, ⟨u, r9⟩, r10, r11, r12, r13, r14, r15, r23, r24, r25, r26, r27, r28, r29, r30, r31, r32, r33, r34⟩ := (id hD)
  refine lv_aload_n hx hb d_D_ask_0 rfl (lv_at hl 0 rfl) ?_
  refine va_get (D := (dC, dI)) (ci := 5) (v := .ref (md 23)) (C := R_D) (T := F_D) (N := 36) hx hb hg in_D hown hK (hP.one r36) 0 rfl rfl 23 (by decide) (hg _ k_614) (fun _ h9 => h9) rfl d_D_ask_1 ?_
  refine lv_iload_n hx hb d_D_ask_4 rfl (lv_at hl 1 rfl) ?_
  refine fw_iald (tys := tyl dA) hx hb hK hP r23 0 rfl (j := k) (by omega) (by decide) d_D_ask_5 ?_
  refine lv_iconst (v := (nI 2)) hx hb d_D_ask_6 (by decide) ?_
  refine nu_ne (tgt := 12) hx hb (by omega) (by omega) d_D_ask_7 (by decide) (fun c1 => ?_) (fun c1 => ?_)
  · refine lv_aload_n hx hb d_D_ask_12 rfl (lv_at hl 0 rfl) ?_
    refine va_get (D := (dC, dI)) (ci := 5) (v := .ref (md 23)) (C := R_D) (T := F_D) (N := 36) hx hb hg in_D hown hK (hP.one r36) 0 rfl rfl 23 (by decide) (hg _ k_614) (fun _ h9 => h9) rfl d_D_ask_13 ?_
    refine lv_iload_n hx hb d_D_ask_16 rfl (lv_at hl 1 rfl) ?_
    refine fw_iald (tys := tyl dA) hx hb hK hP r23 0 rfl (j := k) (by omega) (by decide) d_D_ask_17 ?_
    refine lv_iconst (v := (nI 1)) hx hb d_D_ask_18 (by decide) ?_
    refine nu_ne (tgt := 39) hx hb (by omega) (by omega) d_D_ask_19 (by decide) (fun c2 => ?_) (fun c2 => ?_)
    · refine lv_aload_n hx hb d_D_ask_39 rfl (lv_at hl 0 rfl) ?_
      refine va_get (D := (dC, dI)) (ci := 5) (v := .ref (md 0)) (C := R_D) (T := F_D) (N := 36) hx hb hg in_D hown hK (hP.one r36) 0 rfl rfl 0 (by decide) (hg _ k_591) (fun _ h9 => h9) rfl d_D_ask_40 ?_
      refine lv_iload_n hx hb d_D_ask_43 rfl (lv_at hl 1 rfl) ?_
      refine fw_iald (tys := tyl dA) hx hb hK hP r0 0 rfl (j := k) (by omega) (by decide) d_D_ask_44 ?_
      refine nu_zne (tgt := 55) hx hb (by omega) d_D_ask_45 (by decide) (fun c3 => ?_) (fun c3 => ?_)
      · refine lv_aload_n hx hb d_D_ask_55 rfl (lv_at hl 0 rfl) ?_
        refine va_get (D := (dC, dI)) (ci := 5) (v := .ref (md 0)) (C := R_D) (T := F_D) (N := 36) hx hb hg in_D hown hK (hP.one r36) 0 rfl rfl 0 (by decide) (hg _ k_591) (fun _ h9 => h9) rfl d_D_ask_56 ?_
        refine lv_iload_n hx hb d_D_ask_59 rfl (lv_at hl 1 rfl) ?_
        refine fw_iald (tys := tyl dA) hx hb hK hP r0 0 rfl (j := k) (by omega) (by decide) d_D_ask_60 ?_
        refine lv_iconst (v := (nI 1)) hx hb d_D_ask_61 (by decide) ?_
        refine nu_ne (tgt := 86) hx hb (by omega) (by omega) d_D_ask_62 (by decide) (fun c4 => ?_) (fun c4 => ?_)
        · refine lv_aload_n hx hb d_D_ask_86 rfl (lv_at hl 0 rfl) ?_
          refine va_get (D := (dC, dI)) (ci := 5) (v := .ref (md 23)) (C := R_D) (T := F_D) (N := 36) hx hb hg in_D hown hK (hP.one r36) 0 rfl rfl 23 (by decide) (hg _ k_614) (fun _ h9 => h9) rfl d_D_ask_87 ?_
          refine lv_iload_n hx hb d_D_ask_90 rfl (lv_at hl 1 rfl) ?_
          refine lv_iconst (v := (nI 1)) hx hb d_D_ask_91 (by decide) ?_
          refine fw_iast (tys := tyl dA) hx hb hK hP hS r23 0 rfl (j := k) (x := (nI 1)) (by omega) (by decide) d_D_ask_92 (fun w16 H locs ew17 hP hS => ?_)
          rw [nf_up] at ew17
          have r36 : w16 (md 36) = some (.inr (5, [.ref (md 0), .ref (md 1), .ref (md 2), .ref (md 3), .ref (md 4), .ref (md 5), .ref (md 6), .ref (md 7), .ref (md 8), .ref (md 9), .ref (md 10), .ref (md 11), .ref (md 12), .ref (md 13), .ref (md 14), .ref (md 15), .int (nI (m_cached μ)), .int (nI (m_ocached μ)), .int (m_circ μ), .int (m_ocirc μ), .int (nI (m_thr μ)), .int (nI (m_wkr μ)), .int (nI (m_ran μ).toNat), .ref (md 23), .ref (md 24), .ref (md 25), .ref (md 26), .ref (md 27), .ref (md 28), .ref (md 29), .ref (md 30), .ref (md 31), .ref (md 32), .ref (md 33), .ref (md 34), .int (nI (m_hgt μ))])) := by rw [ew17, va_up_ne _ _ (hj.ne (i := 36) (j := 23) (by decide) (by decide) (by decide))]; exact r36
          have r0 : w16 (md 0) = some (.inl (dA 0, 12, .inl (nf (m_sort μ)))) := by rw [ew17, va_up_ne _ _ (hj.ne (i := 0) (j := 23) (by decide) (by decide) (by decide))]; exact r0
          have r1 : w16 (md 1) = some (.inl (dA 0, 12, .inl (nf (m_rule μ)))) := by rw [ew17, va_up_ne _ _ (hj.ne (i := 1) (j := 23) (by decide) (by decide) (by decide))]; exact r1
          have r2 : w16 (md 2) = some (.inl (dA 0, 36, .inl (m_parts μ))) := by rw [ew17, va_up_ne _ _ (hj.ne (i := 2) (j := 23) (by decide) (by decide) (by decide))]; exact r2
          have r3 : w16 (md 3) = some (.inl (dA 1, 12, .inr (.inl (m_inp μ)))) := by rw [ew17, va_up_ne _ _ (hj.ne (i := 3) (j := 23) (by decide) (by decide) (by decide))]; exact r3
          have r4 : w16 (md 4) = some (.inl (dA 0, 320, .inl (nf (m_size μ)))) := by rw [ew17, va_up_ne _ _ (hj.ne (i := 4) (j := 23) (by decide) (by decide) (by decide))]; exact r4
          have r5 : w16 (md 5) = some (.inl (dA 0, 3840, .inl (nf (m_keys μ)))) := by rw [ew17, va_up_ne _ _ (hj.ne (i := 5) (j := 23) (by decide) (by decide) (by decide))]; exact r5
          have r6 : w16 (md 6) = some (.inl (dA 0, 320, .inl (nf (m_own μ)))) := by rw [ew17, va_up_ne _ _ (hj.ne (i := 6) (j := 23) (by decide) (by decide) (by decide))]; exact r6
          have r7 : w16 (md 7) = some (.inl (dA 1, 3840, .inr (.inl (m_got μ)))) := by rw [ew17, va_up_ne _ _ (hj.ne (i := 7) (j := 23) (by decide) (by decide) (by decide))]; exact r7
          have r8 : w16 (md 8) = some (.inl (dA 1, 320, .inr (.inl (m_came μ)))) := by rw [ew17, va_up_ne _ _ (hj.ne (i := 8) (j := 23) (by decide) (by decide) (by decide))]; exact r8
          have r9 : w16 (md 9) = some (.inl (dA 2, 320, .inl (zf u))) := by rw [ew17, va_up_ne _ _ (hj.ne (i := 9) (j := 23) (by decide) (by decide) (by decide))]; exact r9
          have r10 : w16 (md 10) = some (.inl (dA 0, 24, .inl (m_trc μ))) := by rw [ew17, va_up_ne _ _ (hj.ne (i := 10) (j := 23) (by decide) (by decide) (by decide))]; exact r10
          have r11 : w16 (md 11) = some (.inl (dA 0, 24, .inl (m_otrc μ))) := by rw [ew17, va_up_ne _ _ (hj.ne (i := 11) (j := 23) (by decide) (by decide) (by decide))]; exact r11
          have r12 : w16 (md 12) = some (.inl (dA 0, 17, .inl (nf (m_cch μ)))) := by rw [ew17, va_up_ne _ _ (hj.ne (i := 12) (j := 23) (by decide) (by decide) (by decide))]; exact r12
          have r13 : w16 (md 13) = some (.inl (dA 0, 17, .inl (nf (m_occh μ)))) := by rw [ew17, va_up_ne _ _ (hj.ne (i := 13) (j := 23) (by decide) (by decide) (by decide))]; exact r13
          have r14 : w16 (md 14) = some (.inl (dA 0, 7, .inl (m_cnt μ))) := by rw [ew17, va_up_ne _ _ (hj.ne (i := 14) (j := 23) (by decide) (by decide) (by decide))]; exact r14
          have r15 : w16 (md 15) = some (.inl (dA 0, 7, .inl (m_ocnt μ))) := by rw [ew17, va_up_ne _ _ (hj.ne (i := 15) (j := 23) (by decide) (by decide) (by decide))]; exact r15
          have r24 : w16 (md 24) = some (.inl (dA 1, 12, .inr (.inl (m_val μ)))) := by rw [ew17, va_up_ne _ _ (hj.ne (i := 24) (j := 23) (by decide) (by decide) (by decide))]; exact r24
          have r25 : w16 (md 25) = some (.inl (dA 0, 13, .inl (nf (m_key μ)))) := by rw [ew17, va_up_ne _ _ (hj.ne (i := 25) (j := 23) (by decide) (by decide) (by decide))]; exact r25
          have r26 : w16 (md 26) = some (.inl (dA 0, 13, .inl (nf (m_ph μ)))) := by rw [ew17, va_up_ne _ _ (hj.ne (i := 26) (j := 23) (by decide) (by decide) (by decide))]; exact r26
          have r27 : w16 (md 27) = some (.inl (dA 0, 13, .inl (m_chk μ))) := by rw [ew17, va_up_ne _ _ (hj.ne (i := 27) (j := 23) (by decide) (by decide) (by decide))]; exact r27
          have r28 : w16 (md 28) = some (.inl (dA 0, 13, .inl (nf (m_at μ)))) := by rw [ew17, va_up_ne _ _ (hj.ne (i := 28) (j := 23) (by decide) (by decide) (by decide))]; exact r28
          have r29 : w16 (md 29) = some (.inl (dA 0, 208, .inl (nf (m_cand μ)))) := by rw [ew17, va_up_ne _ _ (hj.ne (i := 29) (j := 23) (by decide) (by decide) (by decide))]; exact r29
          have r30 : w16 (md 30) = some (.inl (dA 0, 13, .inl (nf (m_cc μ)))) := by rw [ew17, va_up_ne _ _ (hj.ne (i := 30) (j := 23) (by decide) (by decide) (by decide))]; exact r30
          have r31 : w16 (md 31) = some (.inl (dA 0, 13, .inl (nf (m_mk μ)))) := by rw [ew17, va_up_ne _ _ (hj.ne (i := 31) (j := 23) (by decide) (by decide) (by decide))]; exact r31
          have r32 : w16 (md 32) = some (.inl (dA 0, 13, .inl (nf (m_asked μ)))) := by rw [ew17, va_up_ne _ _ (hj.ne (i := 32) (j := 23) (by decide) (by decide) (by decide))]; exact r32
          have r33 : w16 (md 33) = some (.inl (dA 1, 13, .inr (.inl (m_first μ)))) := by rw [ew17, va_up_ne _ _ (hj.ne (i := 33) (j := 23) (by decide) (by decide) (by decide))]; exact r33
          have r34 : w16 (md 34) = some (.inl (dA 1, 13, .inr (.inl (m_sum μ)))) := by rw [ew17, va_up_ne _ _ (hj.ne (i := 34) (j := 23) (by decide) (by decide) (by decide))]; exact r34
          have r23 : w16 (md 23) = some (.inl (dA 0, 12, .inl (nf (va_up (m_st μ) k 1)))) := by rw [ew17]; exact va_up_self _ _ _
          have ho18 : OutD md w w16 := OutD.up OutD.rf ew17 (by decide)
          refine lv_aload_n hx hb d_D_ask_93 rfl (lv_at hl 0 rfl) ?_
          refine va_get (D := (dC, dI)) (ci := 5) (v := .ref (md 25)) (C := R_D) (T := F_D) (N := 36) hx hb hg in_D hown hK (hP.one r36) 0 rfl rfl 25 (by decide) (hg _ k_616) (fun _ h9 => h9) rfl d_D_ask_94 ?_
          refine lv_aload_n hx hb d_D_ask_97 rfl (lv_at hl 0 rfl) ?_
          refine va_get (D := (dC, dI)) (ci := 5) (v := .int (nI (m_hgt μ))) (C := R_D) (T := F_D) (N := 36) hx hb hg in_D hown hK (hP.one r36) 0 rfl rfl 35 (by decide) (hg _ k_626) (fun _ h9 => h9) rfl d_D_ask_98 ?_
          refine lv_iload_n hx hb d_D_ask_101 rfl (lv_at hl 1 rfl) ?_
          refine fw_iast (tys := tyl dA) hx hb hK hP hS r25 0 rfl (j := m_hgt μ) (x := (nI k)) (by omega) (by decide) d_D_ask_102 (fun w19 H locs ew20 hP hS => ?_)
          rw [nf_up] at ew20
          have r36 : w19 (md 36) = some (.inr (5, [.ref (md 0), .ref (md 1), .ref (md 2), .ref (md 3), .ref (md 4), .ref (md 5), .ref (md 6), .ref (md 7), .ref (md 8), .ref (md 9), .ref (md 10), .ref (md 11), .ref (md 12), .ref (md 13), .ref (md 14), .ref (md 15), .int (nI (m_cached μ)), .int (nI (m_ocached μ)), .int (m_circ μ), .int (m_ocirc μ), .int (nI (m_thr μ)), .int (nI (m_wkr μ)), .int (nI (m_ran μ).toNat), .ref (md 23), .ref (md 24), .ref (md 25), .ref (md 26), .ref (md 27), .ref (md 28), .ref (md 29), .ref (md 30), .ref (md 31), .ref (md 32), .ref (md 33), .ref (md 34), .int (nI (m_hgt μ))])) := by rw [ew20, va_up_ne _ _ (hj.ne (i := 36) (j := 25) (by decide) (by decide) (by decide))]; exact r36
          have r0 : w19 (md 0) = some (.inl (dA 0, 12, .inl (nf (m_sort μ)))) := by rw [ew20, va_up_ne _ _ (hj.ne (i := 0) (j := 25) (by decide) (by decide) (by decide))]; exact r0
          have r1 : w19 (md 1) = some (.inl (dA 0, 12, .inl (nf (m_rule μ)))) := by rw [ew20, va_up_ne _ _ (hj.ne (i := 1) (j := 25) (by decide) (by decide) (by decide))]; exact r1
          have r2 : w19 (md 2) = some (.inl (dA 0, 36, .inl (m_parts μ))) := by rw [ew20, va_up_ne _ _ (hj.ne (i := 2) (j := 25) (by decide) (by decide) (by decide))]; exact r2
          have r3 : w19 (md 3) = some (.inl (dA 1, 12, .inr (.inl (m_inp μ)))) := by rw [ew20, va_up_ne _ _ (hj.ne (i := 3) (j := 25) (by decide) (by decide) (by decide))]; exact r3
          have r4 : w19 (md 4) = some (.inl (dA 0, 320, .inl (nf (m_size μ)))) := by rw [ew20, va_up_ne _ _ (hj.ne (i := 4) (j := 25) (by decide) (by decide) (by decide))]; exact r4
          have r5 : w19 (md 5) = some (.inl (dA 0, 3840, .inl (nf (m_keys μ)))) := by rw [ew20, va_up_ne _ _ (hj.ne (i := 5) (j := 25) (by decide) (by decide) (by decide))]; exact r5
          have r6 : w19 (md 6) = some (.inl (dA 0, 320, .inl (nf (m_own μ)))) := by rw [ew20, va_up_ne _ _ (hj.ne (i := 6) (j := 25) (by decide) (by decide) (by decide))]; exact r6
          have r7 : w19 (md 7) = some (.inl (dA 1, 3840, .inr (.inl (m_got μ)))) := by rw [ew20, va_up_ne _ _ (hj.ne (i := 7) (j := 25) (by decide) (by decide) (by decide))]; exact r7
          have r8 : w19 (md 8) = some (.inl (dA 1, 320, .inr (.inl (m_came μ)))) := by rw [ew20, va_up_ne _ _ (hj.ne (i := 8) (j := 25) (by decide) (by decide) (by decide))]; exact r8
          have r9 : w19 (md 9) = some (.inl (dA 2, 320, .inl (zf u))) := by rw [ew20, va_up_ne _ _ (hj.ne (i := 9) (j := 25) (by decide) (by decide) (by decide))]; exact r9
          have r10 : w19 (md 10) = some (.inl (dA 0, 24, .inl (m_trc μ))) := by rw [ew20, va_up_ne _ _ (hj.ne (i := 10) (j := 25) (by decide) (by decide) (by decide))]; exact r10
          have r11 : w19 (md 11) = some (.inl (dA 0, 24, .inl (m_otrc μ))) := by rw [ew20, va_up_ne _ _ (hj.ne (i := 11) (j := 25) (by decide) (by decide) (by decide))]; exact r11
          have r12 : w19 (md 12) = some (.inl (dA 0, 17, .inl (nf (m_cch μ)))) := by rw [ew20, va_up_ne _ _ (hj.ne (i := 12) (j := 25) (by decide) (by decide) (by decide))]; exact r12
          have r13 : w19 (md 13) = some (.inl (dA 0, 17, .inl (nf (m_occh μ)))) := by rw [ew20, va_up_ne _ _ (hj.ne (i := 13) (j := 25) (by decide) (by decide) (by decide))]; exact r13
          have r14 : w19 (md 14) = some (.inl (dA 0, 7, .inl (m_cnt μ))) := by rw [ew20, va_up_ne _ _ (hj.ne (i := 14) (j := 25) (by decide) (by decide) (by decide))]; exact r14
          have r15 : w19 (md 15) = some (.inl (dA 0, 7, .inl (m_ocnt μ))) := by rw [ew20, va_up_ne _ _ (hj.ne (i := 15) (j := 25) (by decide) (by decide) (by decide))]; exact r15
          have r23 : w19 (md 23) = some (.inl (dA 0, 12, .inl (nf (va_up (m_st μ) k 1)))) := by rw [ew20, va_up_ne _ _ (hj.ne (i := 23) (j := 25) (by decide) (by decide) (by decide))]; exact r23
          have r24 : w19 (md 24) = some (.inl (dA 1, 12, .inr (.inl (m_val μ)))) := by rw [ew20, va_up_ne _ _ (hj.ne (i := 24) (j := 25) (by decide) (by decide) (by decide))]; exact r24
          have r26 : w19 (md 26) = some (.inl (dA 0, 13, .inl (nf (m_ph μ)))) := by rw [ew20, va_up_ne _ _ (hj.ne (i := 26) (j := 25) (by decide) (by decide) (by decide))]; exact r26
          have r27 : w19 (md 27) = some (.inl (dA 0, 13, .inl (m_chk μ))) := by rw [ew20, va_up_ne _ _ (hj.ne (i := 27) (j := 25) (by decide) (by decide) (by decide))]; exact r27
          have r28 : w19 (md 28) = some (.inl (dA 0, 13, .inl (nf (m_at μ)))) := by rw [ew20, va_up_ne _ _ (hj.ne (i := 28) (j := 25) (by decide) (by decide) (by decide))]; exact r28
          have r29 : w19 (md 29) = some (.inl (dA 0, 208, .inl (nf (m_cand μ)))) := by rw [ew20, va_up_ne _ _ (hj.ne (i := 29) (j := 25) (by decide) (by decide) (by decide))]; exact r29
          have r30 : w19 (md 30) = some (.inl (dA 0, 13, .inl (nf (m_cc μ)))) := by rw [ew20, va_up_ne _ _ (hj.ne (i := 30) (j := 25) (by decide) (by decide) (by decide))]; exact r30
          have r31 : w19 (md 31) = some (.inl (dA 0, 13, .inl (nf (m_mk μ)))) := by rw [ew20, va_up_ne _ _ (hj.ne (i := 31) (j := 25) (by decide) (by decide) (by decide))]; exact r31
          have r32 : w19 (md 32) = some (.inl (dA 0, 13, .inl (nf (m_asked μ)))) := by rw [ew20, va_up_ne _ _ (hj.ne (i := 32) (j := 25) (by decide) (by decide) (by decide))]; exact r32
          have r33 : w19 (md 33) = some (.inl (dA 1, 13, .inr (.inl (m_first μ)))) := by rw [ew20, va_up_ne _ _ (hj.ne (i := 33) (j := 25) (by decide) (by decide) (by decide))]; exact r33
          have r34 : w19 (md 34) = some (.inl (dA 1, 13, .inr (.inl (m_sum μ)))) := by rw [ew20, va_up_ne _ _ (hj.ne (i := 34) (j := 25) (by decide) (by decide) (by decide))]; exact r34
          have r25 : w19 (md 25) = some (.inl (dA 0, 13, .inl (nf (va_up (m_key μ) (m_hgt μ) k)))) := by rw [ew20]; exact va_up_self _ _ _
          have ho21 : OutD md w w19 := OutD.up ho18 ew20 (by decide)
          refine lv_aload_n hx hb d_D_ask_103 rfl (lv_at hl 0 rfl) ?_
          refine va_get (D := (dC, dI)) (ci := 5) (v := .ref (md 30)) (C := R_D) (T := F_D) (N := 36) hx hb hg in_D hown hK (hP.one r36) 0 rfl rfl 30 (by decide) (hg _ k_621) (fun _ h9 => h9) rfl d_D_ask_104 ?_
          refine lv_aload_n hx hb d_D_ask_107 rfl (lv_at hl 0 rfl) ?_
          refine va_get (D := (dC, dI)) (ci := 5) (v := .int (nI (m_hgt μ))) (C := R_D) (T := F_D) (N := 36) hx hb hg in_D hown hK (hP.one r36) 0 rfl rfl 35 (by decide) (hg _ k_626) (fun _ h9 => h9) rfl d_D_ask_108 ?_
          refine lv_iconst (v := (nI 0)) hx hb d_D_ask_111 (by decide) ?_
          refine fw_iast (tys := tyl dA) hx hb hK hP hS r30 0 rfl (j := m_hgt μ) (x := (nI 0)) (by omega) (by decide) d_D_ask_112 (fun w22 H locs ew23 hP hS => ?_)
          rw [nf_up] at ew23
          have r36 : w22 (md 36) = some (.inr (5, [.ref (md 0), .ref (md 1), .ref (md 2), .ref (md 3), .ref (md 4), .ref (md 5), .ref (md 6), .ref (md 7), .ref (md 8), .ref (md 9), .ref (md 10), .ref (md 11), .ref (md 12), .ref (md 13), .ref (md 14), .ref (md 15), .int (nI (m_cached μ)), .int (nI (m_ocached μ)), .int (m_circ μ), .int (m_ocirc μ), .int (nI (m_thr μ)), .int (nI (m_wkr μ)), .int (nI (m_ran μ).toNat), .ref (md 23), .ref (md 24), .ref (md 25), .ref (md 26), .ref (md 27), .ref (md 28), .ref (md 29), .ref (md 30), .ref (md 31), .ref (md 32), .ref (md 33), .ref (md 34), .int (nI (m_hgt μ))])) := by rw [ew23, va_up_ne _ _ (hj.ne (i := 36) (j := 30) (by decide) (by decide) (by decide))]; exact r36
          have r0 : w22 (md 0) = some (.inl (dA 0, 12, .inl (nf (m_sort μ)))) := by rw [ew23, va_up_ne _ _ (hj.ne (i := 0) (j := 30) (by decide) (by decide) (by decide))]; exact r0
          have r1 : w22 (md 1) = some (.inl (dA 0, 12, .inl (nf (m_rule μ)))) := by rw [ew23, va_up_ne _ _ (hj.ne (i := 1) (j := 30) (by decide) (by decide) (by decide))]; exact r1
          have r2 : w22 (md 2) = some (.inl (dA 0, 36, .inl (m_parts μ))) := by rw [ew23, va_up_ne _ _ (hj.ne (i := 2) (j := 30) (by decide) (by decide) (by decide))]; exact r2
          have r3 : w22 (md 3) = some (.inl (dA 1, 12, .inr (.inl (m_inp μ)))) := by rw [ew23, va_up_ne _ _ (hj.ne (i := 3) (j := 30) (by decide) (by decide) (by decide))]; exact r3
          have r4 : w22 (md 4) = some (.inl (dA 0, 320, .inl (nf (m_size μ)))) := by rw [ew23, va_up_ne _ _ (hj.ne (i := 4) (j := 30) (by decide) (by decide) (by decide))]; exact r4
          have r5 : w22 (md 5) = some (.inl (dA 0, 3840, .inl (nf (m_keys μ)))) := by rw [ew23, va_up_ne _ _ (hj.ne (i := 5) (j := 30) (by decide) (by decide) (by decide))]; exact r5
          have r6 : w22 (md 6) = some (.inl (dA 0, 320, .inl (nf (m_own μ)))) := by rw [ew23, va_up_ne _ _ (hj.ne (i := 6) (j := 30) (by decide) (by decide) (by decide))]; exact r6
          have r7 : w22 (md 7) = some (.inl (dA 1, 3840, .inr (.inl (m_got μ)))) := by rw [ew23, va_up_ne _ _ (hj.ne (i := 7) (j := 30) (by decide) (by decide) (by decide))]; exact r7
          have r8 : w22 (md 8) = some (.inl (dA 1, 320, .inr (.inl (m_came μ)))) := by rw [ew23, va_up_ne _ _ (hj.ne (i := 8) (j := 30) (by decide) (by decide) (by decide))]; exact r8
          have r9 : w22 (md 9) = some (.inl (dA 2, 320, .inl (zf u))) := by rw [ew23, va_up_ne _ _ (hj.ne (i := 9) (j := 30) (by decide) (by decide) (by decide))]; exact r9
          have r10 : w22 (md 10) = some (.inl (dA 0, 24, .inl (m_trc μ))) := by rw [ew23, va_up_ne _ _ (hj.ne (i := 10) (j := 30) (by decide) (by decide) (by decide))]; exact r10
          have r11 : w22 (md 11) = some (.inl (dA 0, 24, .inl (m_otrc μ))) := by rw [ew23, va_up_ne _ _ (hj.ne (i := 11) (j := 30) (by decide) (by decide) (by decide))]; exact r11
          have r12 : w22 (md 12) = some (.inl (dA 0, 17, .inl (nf (m_cch μ)))) := by rw [ew23, va_up_ne _ _ (hj.ne (i := 12) (j := 30) (by decide) (by decide) (by decide))]; exact r12
          have r13 : w22 (md 13) = some (.inl (dA 0, 17, .inl (nf (m_occh μ)))) := by rw [ew23, va_up_ne _ _ (hj.ne (i := 13) (j := 30) (by decide) (by decide) (by decide))]; exact r13
          have r14 : w22 (md 14) = some (.inl (dA 0, 7, .inl (m_cnt μ))) := by rw [ew23, va_up_ne _ _ (hj.ne (i := 14) (j := 30) (by decide) (by decide) (by decide))]; exact r14
          have r15 : w22 (md 15) = some (.inl (dA 0, 7, .inl (m_ocnt μ))) := by rw [ew23, va_up_ne _ _ (hj.ne (i := 15) (j := 30) (by decide) (by decide) (by decide))]; exact r15
          have r23 : w22 (md 23) = some (.inl (dA 0, 12, .inl (nf (va_up (m_st μ) k 1)))) := by rw [ew23, va_up_ne _ _ (hj.ne (i := 23) (j := 30) (by decide) (by decide) (by decide))]; exact r23
          have r24 : w22 (md 24) = some (.inl (dA 1, 12, .inr (.inl (m_val μ)))) := by rw [ew23, va_up_ne _ _ (hj.ne (i := 24) (j := 30) (by decide) (by decide) (by decide))]; exact r24
          have r25 : w22 (md 25) = some (.inl (dA 0, 13, .inl (nf (va_up (m_key μ) (m_hgt μ) k)))) := by rw [ew23, va_up_ne _ _ (hj.ne (i := 25) (j := 30) (by decide) (by decide) (by decide))]; exact r25
          have r26 : w22 (md 26) = some (.inl (dA 0, 13, .inl (nf (m_ph μ)))) := by rw [ew23, va_up_ne _ _ (hj.ne (i := 26) (j := 30) (by decide) (by decide) (by decide))]; exact r26
          have r27 : w22 (md 27) = some (.inl (dA 0, 13, .inl (m_chk μ))) := by rw [ew23, va_up_ne _ _ (hj.ne (i := 27) (j := 30) (by decide) (by decide) (by decide))]; exact r27
          have r28 : w22 (md 28) = some (.inl (dA 0, 13, .inl (nf (m_at μ)))) := by rw [ew23, va_up_ne _ _ (hj.ne (i := 28) (j := 30) (by decide) (by decide) (by decide))]; exact r28
          have r29 : w22 (md 29) = some (.inl (dA 0, 208, .inl (nf (m_cand μ)))) := by rw [ew23, va_up_ne _ _ (hj.ne (i := 29) (j := 30) (by decide) (by decide) (by decide))]; exact r29
          have r31 : w22 (md 31) = some (.inl (dA 0, 13, .inl (nf (m_mk μ)))) := by rw [ew23, va_up_ne _ _ (hj.ne (i := 31) (j := 30) (by decide) (by decide) (by decide))]; exact r31
          have r32 : w22 (md 32) = some (.inl (dA 0, 13, .inl (nf (m_asked μ)))) := by rw [ew23, va_up_ne _ _ (hj.ne (i := 32) (j := 30) (by decide) (by decide) (by decide))]; exact r32
          have r33 : w22 (md 33) = some (.inl (dA 1, 13, .inr (.inl (m_first μ)))) := by rw [ew23, va_up_ne _ _ (hj.ne (i := 33) (j := 30) (by decide) (by decide) (by decide))]; exact r33
          have r34 : w22 (md 34) = some (.inl (dA 1, 13, .inr (.inl (m_sum μ)))) := by rw [ew23, va_up_ne _ _ (hj.ne (i := 34) (j := 30) (by decide) (by decide) (by decide))]; exact r34
          have r30 : w22 (md 30) = some (.inl (dA 0, 13, .inl (nf (va_up (m_cc μ) (m_hgt μ) 0)))) := by rw [ew23]; exact va_up_self _ _ _
          have ho24 : OutD md w w22 := OutD.up ho21 ew23 (by decide)
          refine lv_aload_n hx hb d_D_ask_113 rfl (lv_at hl 0 rfl) ?_
          refine va_get (D := (dC, dI)) (ci := 5) (v := .ref (md 26)) (C := R_D) (T := F_D) (N := 36) hx hb hg in_D hown hK (hP.one r36) 0 rfl rfl 26 (by decide) (hg _ k_617) (fun _ h9 => h9) rfl d_D_ask_114 ?_
          refine lv_aload_n hx hb d_D_ask_117 rfl (lv_at hl 0 rfl) ?_
          refine va_get (D := (dC, dI)) (ci := 5) (v := .int (nI (m_hgt μ))) (C := R_D) (T := F_D) (N := 36) hx hb hg in_D hown hK (hP.one r36) 0 rfl rfl 35 (by decide) (hg _ k_626) (fun _ h9 => h9) rfl d_D_ask_118 ?_
          refine lv_iconst (v := (nI 1)) hx hb d_D_ask_121 (by decide) ?_
          refine fw_iast (tys := tyl dA) hx hb hK hP hS r26 0 rfl (j := m_hgt μ) (x := (nI 1)) (by omega) (by decide) d_D_ask_122 (fun w25 H locs ew26 hP hS => ?_)
          rw [nf_up] at ew26
          have r36 : w25 (md 36) = some (.inr (5, [.ref (md 0), .ref (md 1), .ref (md 2), .ref (md 3), .ref (md 4), .ref (md 5), .ref (md 6), .ref (md 7), .ref (md 8), .ref (md 9), .ref (md 10), .ref (md 11), .ref (md 12), .ref (md 13), .ref (md 14), .ref (md 15), .int (nI (m_cached μ)), .int (nI (m_ocached μ)), .int (m_circ μ), .int (m_ocirc μ), .int (nI (m_thr μ)), .int (nI (m_wkr μ)), .int (nI (m_ran μ).toNat), .ref (md 23), .ref (md 24), .ref (md 25), .ref (md 26), .ref (md 27), .ref (md 28), .ref (md 29), .ref (md 30), .ref (md 31), .ref (md 32), .ref (md 33), .ref (md 34), .int (nI (m_hgt μ))])) := by rw [ew26, va_up_ne _ _ (hj.ne (i := 36) (j := 26) (by decide) (by decide) (by decide))]; exact r36
          have r0 : w25 (md 0) = some (.inl (dA 0, 12, .inl (nf (m_sort μ)))) := by rw [ew26, va_up_ne _ _ (hj.ne (i := 0) (j := 26) (by decide) (by decide) (by decide))]; exact r0
          have r1 : w25 (md 1) = some (.inl (dA 0, 12, .inl (nf (m_rule μ)))) := by rw [ew26, va_up_ne _ _ (hj.ne (i := 1) (j := 26) (by decide) (by decide) (by decide))]; exact r1
          have r2 : w25 (md 2) = some (.inl (dA 0, 36, .inl (m_parts μ))) := by rw [ew26, va_up_ne _ _ (hj.ne (i := 2) (j := 26) (by decide) (by decide) (by decide))]; exact r2
          have r3 : w25 (md 3) = some (.inl (dA 1, 12, .inr (.inl (m_inp μ)))) := by rw [ew26, va_up_ne _ _ (hj.ne (i := 3) (j := 26) (by decide) (by decide) (by decide))]; exact r3
          have r4 : w25 (md 4) = some (.inl (dA 0, 320, .inl (nf (m_size μ)))) := by rw [ew26, va_up_ne _ _ (hj.ne (i := 4) (j := 26) (by decide) (by decide) (by decide))]; exact r4
          have r5 : w25 (md 5) = some (.inl (dA 0, 3840, .inl (nf (m_keys μ)))) := by rw [ew26, va_up_ne _ _ (hj.ne (i := 5) (j := 26) (by decide) (by decide) (by decide))]; exact r5
          have r6 : w25 (md 6) = some (.inl (dA 0, 320, .inl (nf (m_own μ)))) := by rw [ew26, va_up_ne _ _ (hj.ne (i := 6) (j := 26) (by decide) (by decide) (by decide))]; exact r6
          have r7 : w25 (md 7) = some (.inl (dA 1, 3840, .inr (.inl (m_got μ)))) := by rw [ew26, va_up_ne _ _ (hj.ne (i := 7) (j := 26) (by decide) (by decide) (by decide))]; exact r7
          have r8 : w25 (md 8) = some (.inl (dA 1, 320, .inr (.inl (m_came μ)))) := by rw [ew26, va_up_ne _ _ (hj.ne (i := 8) (j := 26) (by decide) (by decide) (by decide))]; exact r8
          have r9 : w25 (md 9) = some (.inl (dA 2, 320, .inl (zf u))) := by rw [ew26, va_up_ne _ _ (hj.ne (i := 9) (j := 26) (by decide) (by decide) (by decide))]; exact r9
          have r10 : w25 (md 10) = some (.inl (dA 0, 24, .inl (m_trc μ))) := by rw [ew26, va_up_ne _ _ (hj.ne (i := 10) (j := 26) (by decide) (by decide) (by decide))]; exact r10
          have r11 : w25 (md 11) = some (.inl (dA 0, 24, .inl (m_otrc μ))) := by rw [ew26, va_up_ne _ _ (hj.ne (i := 11) (j := 26) (by decide) (by decide) (by decide))]; exact r11
          have r12 : w25 (md 12) = some (.inl (dA 0, 17, .inl (nf (m_cch μ)))) := by rw [ew26, va_up_ne _ _ (hj.ne (i := 12) (j := 26) (by decide) (by decide) (by decide))]; exact r12
          have r13 : w25 (md 13) = some (.inl (dA 0, 17, .inl (nf (m_occh μ)))) := by rw [ew26, va_up_ne _ _ (hj.ne (i := 13) (j := 26) (by decide) (by decide) (by decide))]; exact r13
          have r14 : w25 (md 14) = some (.inl (dA 0, 7, .inl (m_cnt μ))) := by rw [ew26, va_up_ne _ _ (hj.ne (i := 14) (j := 26) (by decide) (by decide) (by decide))]; exact r14
          have r15 : w25 (md 15) = some (.inl (dA 0, 7, .inl (m_ocnt μ))) := by rw [ew26, va_up_ne _ _ (hj.ne (i := 15) (j := 26) (by decide) (by decide) (by decide))]; exact r15
          have r23 : w25 (md 23) = some (.inl (dA 0, 12, .inl (nf (va_up (m_st μ) k 1)))) := by rw [ew26, va_up_ne _ _ (hj.ne (i := 23) (j := 26) (by decide) (by decide) (by decide))]; exact r23
          have r24 : w25 (md 24) = some (.inl (dA 1, 12, .inr (.inl (m_val μ)))) := by rw [ew26, va_up_ne _ _ (hj.ne (i := 24) (j := 26) (by decide) (by decide) (by decide))]; exact r24
          have r25 : w25 (md 25) = some (.inl (dA 0, 13, .inl (nf (va_up (m_key μ) (m_hgt μ) k)))) := by rw [ew26, va_up_ne _ _ (hj.ne (i := 25) (j := 26) (by decide) (by decide) (by decide))]; exact r25
          have r27 : w25 (md 27) = some (.inl (dA 0, 13, .inl (m_chk μ))) := by rw [ew26, va_up_ne _ _ (hj.ne (i := 27) (j := 26) (by decide) (by decide) (by decide))]; exact r27
          have r28 : w25 (md 28) = some (.inl (dA 0, 13, .inl (nf (m_at μ)))) := by rw [ew26, va_up_ne _ _ (hj.ne (i := 28) (j := 26) (by decide) (by decide) (by decide))]; exact r28
          have r29 : w25 (md 29) = some (.inl (dA 0, 208, .inl (nf (m_cand μ)))) := by rw [ew26, va_up_ne _ _ (hj.ne (i := 29) (j := 26) (by decide) (by decide) (by decide))]; exact r29
          have r30 : w25 (md 30) = some (.inl (dA 0, 13, .inl (nf (va_up (m_cc μ) (m_hgt μ) 0)))) := by rw [ew26, va_up_ne _ _ (hj.ne (i := 30) (j := 26) (by decide) (by decide) (by decide))]; exact r30
          have r31 : w25 (md 31) = some (.inl (dA 0, 13, .inl (nf (m_mk μ)))) := by rw [ew26, va_up_ne _ _ (hj.ne (i := 31) (j := 26) (by decide) (by decide) (by decide))]; exact r31
          have r32 : w25 (md 32) = some (.inl (dA 0, 13, .inl (nf (m_asked μ)))) := by rw [ew26, va_up_ne _ _ (hj.ne (i := 32) (j := 26) (by decide) (by decide) (by decide))]; exact r32
          have r33 : w25 (md 33) = some (.inl (dA 1, 13, .inr (.inl (m_first μ)))) := by rw [ew26, va_up_ne _ _ (hj.ne (i := 33) (j := 26) (by decide) (by decide) (by decide))]; exact r33
          have r34 : w25 (md 34) = some (.inl (dA 1, 13, .inr (.inl (m_sum μ)))) := by rw [ew26, va_up_ne _ _ (hj.ne (i := 34) (j := 26) (by decide) (by decide) (by decide))]; exact r34
          have r26 : w25 (md 26) = some (.inl (dA 0, 13, .inl (nf (va_up (m_ph μ) (m_hgt μ) 1)))) := by rw [ew26]; exact va_up_self _ _ _
          have ho27 : OutD md w w25 := OutD.up ho24 ew26 (by decide)
          refine lv_aload_n hx hb d_D_ask_123 rfl (lv_at hl 0 rfl) ?_
          refine va_get (D := (dC, dI)) (ci := 5) (v := .ref (md 27)) (C := R_D) (T := F_D) (N := 36) hx hb hg in_D hown hK (hP.one r36) 0 rfl rfl 27 (by decide) (hg _ k_618) (fun _ h9 => h9) rfl d_D_ask_124 ?_
          refine lv_aload_n hx hb d_D_ask_127 rfl (lv_at hl 0 rfl) ?_
          refine va_get (D := (dC, dI)) (ci := 5) (v := .int (nI (m_hgt μ))) (C := R_D) (T := F_D) (N := 36) hx hb hg in_D hown hK (hP.one r36) 0 rfl rfl 35 (by decide) (hg _ k_626) (fun _ h9 => h9) rfl d_D_ask_128 ?_
          refine lv_aload_n hx hb d_D_ask_131 rfl (lv_at hl 0 rfl) ?_
          refine va_get (D := (dC, dI)) (ci := 5) (v := .ref (md 10)) (C := R_D) (T := F_D) (N := 36) hx hb hg in_D hown hK (hP.one r36) 0 rfl rfl 10 (by decide) (hg _ k_601) (fun _ h9 => h9) rfl d_D_ask_132 ?_
          refine lv_aload_n hx hb d_D_ask_135 rfl (lv_at hl 0 rfl) ?_
          refine va_get (D := (dC, dI)) (ci := 5) (v := .int (nI (m_wkr μ))) (C := R_D) (T := F_D) (N := 36) hx hb hg in_D hown hK (hP.one r36) 0 rfl rfl 21 (by decide) (hg _ k_612) (fun _ h9 => h9) rfl d_D_ask_136 ?_
          refine lv_bipush (v := (nI 12)) hx hb d_D_ask_139 (by decide) ?_
          refine nu_imul (r := 12 * (m_wkr μ)) hx hb d_D_ask_141 (by omega) ?_
          refine lv_iload_n hx hb d_D_ask_142 rfl (lv_at hl 1 rfl) ?_
          refine nu_iadd (r := 12 * (m_wkr μ) + k) hx hb d_D_ask_143 (by omega) ?_
          refine fw_iald (tys := tyl dA) hx hb hK hP r10 0 rfl (j := 12 * (m_wkr μ) + k) (by omega) (by decide) d_D_ask_144 ?_
          refine fw_iast (tys := tyl dA) hx hb hK hP hS r27 0 rfl (j := m_hgt μ) (x := ((m_trc μ) (12 * (m_wkr μ) + k))) (by omega) (by decide) d_D_ask_145 (fun w28 H locs ew29 hP hS => ?_)
          have r36 : w28 (md 36) = some (.inr (5, [.ref (md 0), .ref (md 1), .ref (md 2), .ref (md 3), .ref (md 4), .ref (md 5), .ref (md 6), .ref (md 7), .ref (md 8), .ref (md 9), .ref (md 10), .ref (md 11), .ref (md 12), .ref (md 13), .ref (md 14), .ref (md 15), .int (nI (m_cached μ)), .int (nI (m_ocached μ)), .int (m_circ μ), .int (m_ocirc μ), .int (nI (m_thr μ)), .int (nI (m_wkr μ)), .int (nI (m_ran μ).toNat), .ref (md 23), .ref (md 24), .ref (md 25), .ref (md 26), .ref (md 27), .ref (md 28), .ref (md 29), .ref (md 30), .ref (md 31), .ref (md 32), .ref (md 33), .ref (md 34), .int (nI (m_hgt μ))])) := by rw [ew29, va_up_ne _ _ (hj.ne (i := 36) (j := 27) (by decide) (by decide) (by decide))]; exact r36
          have r0 : w28 (md 0) = some (.inl (dA 0, 12, .inl (nf (m_sort μ)))) := by rw [ew29, va_up_ne _ _ (hj.ne (i := 0) (j := 27) (by decide) (by decide) (by decide))]; exact r0
          have r1 : w28 (md 1) = some (.inl (dA 0, 12, .inl (nf (m_rule μ)))) := by rw [ew29, va_up_ne _ _ (hj.ne (i := 1) (j := 27) (by decide) (by decide) (by decide))]; exact r1
          have r2 : w28 (md 2) = some (.inl (dA 0, 36, .inl (m_parts μ))) := by rw [ew29, va_up_ne _ _ (hj.ne (i := 2) (j := 27) (by decide) (by decide) (by decide))]; exact r2
          have r3 : w28 (md 3) = some (.inl (dA 1, 12, .inr (.inl (m_inp μ)))) := by rw [ew29, va_up_ne _ _ (hj.ne (i := 3) (j := 27) (by decide) (by decide) (by decide))]; exact r3
          have r4 : w28 (md 4) = some (.inl (dA 0, 320, .inl (nf (m_size μ)))) := by rw [ew29, va_up_ne _ _ (hj.ne (i := 4) (j := 27) (by decide) (by decide) (by decide))]; exact r4
          have r5 : w28 (md 5) = some (.inl (dA 0, 3840, .inl (nf (m_keys μ)))) := by rw [ew29, va_up_ne _ _ (hj.ne (i := 5) (j := 27) (by decide) (by decide) (by decide))]; exact r5
          have r6 : w28 (md 6) = some (.inl (dA 0, 320, .inl (nf (m_own μ)))) := by rw [ew29, va_up_ne _ _ (hj.ne (i := 6) (j := 27) (by decide) (by decide) (by decide))]; exact r6
          have r7 : w28 (md 7) = some (.inl (dA 1, 3840, .inr (.inl (m_got μ)))) := by rw [ew29, va_up_ne _ _ (hj.ne (i := 7) (j := 27) (by decide) (by decide) (by decide))]; exact r7
          have r8 : w28 (md 8) = some (.inl (dA 1, 320, .inr (.inl (m_came μ)))) := by rw [ew29, va_up_ne _ _ (hj.ne (i := 8) (j := 27) (by decide) (by decide) (by decide))]; exact r8
          have r9 : w28 (md 9) = some (.inl (dA 2, 320, .inl (zf u))) := by rw [ew29, va_up_ne _ _ (hj.ne (i := 9) (j := 27) (by decide) (by decide) (by decide))]; exact r9
          have r10 : w28 (md 10) = some (.inl (dA 0, 24, .inl (m_trc μ))) := by rw [ew29, va_up_ne _ _ (hj.ne (i := 10) (j := 27) (by decide) (by decide) (by decide))]; exact r10
          have r11 : w28 (md 11) = some (.inl (dA 0, 24, .inl (m_otrc μ))) := by rw [ew29, va_up_ne _ _ (hj.ne (i := 11) (j := 27) (by decide) (by decide) (by decide))]; exact r11
          have r12 : w28 (md 12) = some (.inl (dA 0, 17, .inl (nf (m_cch μ)))) := by rw [ew29, va_up_ne _ _ (hj.ne (i := 12) (j := 27) (by decide) (by decide) (by decide))]; exact r12
          have r13 : w28 (md 13) = some (.inl (dA 0, 17, .inl (nf (m_occh μ)))) := by rw [ew29, va_up_ne _ _ (hj.ne (i := 13) (j := 27) (by decide) (by decide) (by decide))]; exact r13
          have r14 : w28 (md 14) = some (.inl (dA 0, 7, .inl (m_cnt μ))) := by rw [ew29, va_up_ne _ _ (hj.ne (i := 14) (j := 27) (by decide) (by decide) (by decide))]; exact r14
          have r15 : w28 (md 15) = some (.inl (dA 0, 7, .inl (m_ocnt μ))) := by rw [ew29, va_up_ne _ _ (hj.ne (i := 15) (j := 27) (by decide) (by decide) (by decide))]; exact r15
          have r23 : w28 (md 23) = some (.inl (dA 0, 12, .inl (nf (va_up (m_st μ) k 1)))) := by rw [ew29, va_up_ne _ _ (hj.ne (i := 23) (j := 27) (by decide) (by decide) (by decide))]; exact r23
          have r24 : w28 (md 24) = some (.inl (dA 1, 12, .inr (.inl (m_val μ)))) := by rw [ew29, va_up_ne _ _ (hj.ne (i := 24) (j := 27) (by decide) (by decide) (by decide))]; exact r24
          have r25 : w28 (md 25) = some (.inl (dA 0, 13, .inl (nf (va_up (m_key μ) (m_hgt μ) k)))) := by rw [ew29, va_up_ne _ _ (hj.ne (i := 25) (j := 27) (by decide) (by decide) (by decide))]; exact r25
          have r26 : w28 (md 26) = some (.inl (dA 0, 13, .inl (nf (va_up (m_ph μ) (m_hgt μ) 1)))) := by rw [ew29, va_up_ne _ _ (hj.ne (i := 26) (j := 27) (by decide) (by decide) (by decide))]; exact r26
          have r28 : w28 (md 28) = some (.inl (dA 0, 13, .inl (nf (m_at μ)))) := by rw [ew29, va_up_ne _ _ (hj.ne (i := 28) (j := 27) (by decide) (by decide) (by decide))]; exact r28
          have r29 : w28 (md 29) = some (.inl (dA 0, 208, .inl (nf (m_cand μ)))) := by rw [ew29, va_up_ne _ _ (hj.ne (i := 29) (j := 27) (by decide) (by decide) (by decide))]; exact r29
          have r30 : w28 (md 30) = some (.inl (dA 0, 13, .inl (nf (va_up (m_cc μ) (m_hgt μ) 0)))) := by rw [ew29, va_up_ne _ _ (hj.ne (i := 30) (j := 27) (by decide) (by decide) (by decide))]; exact r30
          have r31 : w28 (md 31) = some (.inl (dA 0, 13, .inl (nf (m_mk μ)))) := by rw [ew29, va_up_ne _ _ (hj.ne (i := 31) (j := 27) (by decide) (by decide) (by decide))]; exact r31
          have r32 : w28 (md 32) = some (.inl (dA 0, 13, .inl (nf (m_asked μ)))) := by rw [ew29, va_up_ne _ _ (hj.ne (i := 32) (j := 27) (by decide) (by decide) (by decide))]; exact r32
          have r33 : w28 (md 33) = some (.inl (dA 1, 13, .inr (.inl (m_first μ)))) := by rw [ew29, va_up_ne _ _ (hj.ne (i := 33) (j := 27) (by decide) (by decide) (by decide))]; exact r33
          have r34 : w28 (md 34) = some (.inl (dA 1, 13, .inr (.inl (m_sum μ)))) := by rw [ew29, va_up_ne _ _ (hj.ne (i := 34) (j := 27) (by decide) (by decide) (by decide))]; exact r34
          have r27 : w28 (md 27) = some (.inl (dA 0, 13, .inl (upd (m_chk μ) (m_hgt μ) ((m_trc μ) (12 * (m_wkr μ) + k))))) := by rw [ew29]; exact va_up_self _ _ _
          have ho30 : OutD md w w28 := OutD.up ho27 ew29 (by decide)
          refine lv_aload_n hx hb d_D_ask_146 rfl (lv_at hl 0 rfl) ?_
          refine va_get (D := (dC, dI)) (ci := 5) (v := .ref (md 28)) (C := R_D) (T := F_D) (N := 36) hx hb hg in_D hown hK (hP.one r36) 0 rfl rfl 28 (by decide) (hg _ k_619) (fun _ h9 => h9) rfl d_D_ask_147 ?_
          refine lv_aload_n hx hb d_D_ask_150 rfl (lv_at hl 0 rfl) ?_
          refine va_get (D := (dC, dI)) (ci := 5) (v := .int (nI (m_hgt μ))) (C := R_D) (T := F_D) (N := 36) hx hb hg in_D hown hK (hP.one r36) 0 rfl rfl 35 (by decide) (hg _ k_626) (fun _ h9 => h9) rfl d_D_ask_151 ?_
          refine lv_iconst (v := (nI 0)) hx hb d_D_ask_154 (by decide) ?_
          refine fw_iast (tys := tyl dA) hx hb hK hP hS r28 0 rfl (j := m_hgt μ) (x := (nI 0)) (by omega) (by decide) d_D_ask_155 (fun w31 H locs ew32 hP hS => ?_)
          rw [nf_up] at ew32
          have r36 : w31 (md 36) = some (.inr (5, [.ref (md 0), .ref (md 1), .ref (md 2), .ref (md 3), .ref (md 4), .ref (md 5), .ref (md 6), .ref (md 7), .ref (md 8), .ref (md 9), .ref (md 10), .ref (md 11), .ref (md 12), .ref (md 13), .ref (md 14), .ref (md 15), .int (nI (m_cached μ)), .int (nI (m_ocached μ)), .int (m_circ μ), .int (m_ocirc μ), .int (nI (m_thr μ)), .int (nI (m_wkr μ)), .int (nI (m_ran μ).toNat), .ref (md 23), .ref (md 24), .ref (md 25), .ref (md 26), .ref (md 27), .ref (md 28), .ref (md 29), .ref (md 30), .ref (md 31), .ref (md 32), .ref (md 33), .ref (md 34), .int (nI (m_hgt μ))])) := by rw [ew32, va_up_ne _ _ (hj.ne (i := 36) (j := 28) (by decide) (by decide) (by decide))]; exact r36
          have r0 : w31 (md 0) = some (.inl (dA 0, 12, .inl (nf (m_sort μ)))) := by rw [ew32, va_up_ne _ _ (hj.ne (i := 0) (j := 28) (by decide) (by decide) (by decide))]; exact r0
          have r1 : w31 (md 1) = some (.inl (dA 0, 12, .inl (nf (m_rule μ)))) := by rw [ew32, va_up_ne _ _ (hj.ne (i := 1) (j := 28) (by decide) (by decide) (by decide))]; exact r1
          have r2 : w31 (md 2) = some (.inl (dA 0, 36, .inl (m_parts μ))) := by rw [ew32, va_up_ne _ _ (hj.ne (i := 2) (j := 28) (by decide) (by decide) (by decide))]; exact r2
          have r3 : w31 (md 3) = some (.inl (dA 1, 12, .inr (.inl (m_inp μ)))) := by rw [ew32, va_up_ne _ _ (hj.ne (i := 3) (j := 28) (by decide) (by decide) (by decide))]; exact r3
          have r4 : w31 (md 4) = some (.inl (dA 0, 320, .inl (nf (m_size μ)))) := by rw [ew32, va_up_ne _ _ (hj.ne (i := 4) (j := 28) (by decide) (by decide) (by decide))]; exact r4
          have r5 : w31 (md 5) = some (.inl (dA 0, 3840, .inl (nf (m_keys μ)))) := by rw [ew32, va_up_ne _ _ (hj.ne (i := 5) (j := 28) (by decide) (by decide) (by decide))]; exact r5
          have r6 : w31 (md 6) = some (.inl (dA 0, 320, .inl (nf (m_own μ)))) := by rw [ew32, va_up_ne _ _ (hj.ne (i := 6) (j := 28) (by decide) (by decide) (by decide))]; exact r6
          have r7 : w31 (md 7) = some (.inl (dA 1, 3840, .inr (.inl (m_got μ)))) := by rw [ew32, va_up_ne _ _ (hj.ne (i := 7) (j := 28) (by decide) (by decide) (by decide))]; exact r7
          have r8 : w31 (md 8) = some (.inl (dA 1, 320, .inr (.inl (m_came μ)))) := by rw [ew32, va_up_ne _ _ (hj.ne (i := 8) (j := 28) (by decide) (by decide) (by decide))]; exact r8
          have r9 : w31 (md 9) = some (.inl (dA 2, 320, .inl (zf u))) := by rw [ew32, va_up_ne _ _ (hj.ne (i := 9) (j := 28) (by decide) (by decide) (by decide))]; exact r9
          have r10 : w31 (md 10) = some (.inl (dA 0, 24, .inl (m_trc μ))) := by rw [ew32, va_up_ne _ _ (hj.ne (i := 10) (j := 28) (by decide) (by decide) (by decide))]; exact r10
          have r11 : w31 (md 11) = some (.inl (dA 0, 24, .inl (m_otrc μ))) := by rw [ew32, va_up_ne _ _ (hj.ne (i := 11) (j := 28) (by decide) (by decide) (by decide))]; exact r11
          have r12 : w31 (md 12) = some (.inl (dA 0, 17, .inl (nf (m_cch μ)))) := by rw [ew32, va_up_ne _ _ (hj.ne (i := 12) (j := 28) (by decide) (by decide) (by decide))]; exact r12
          have r13 : w31 (md 13) = some (.inl (dA 0, 17, .inl (nf (m_occh μ)))) := by rw [ew32, va_up_ne _ _ (hj.ne (i := 13) (j := 28) (by decide) (by decide) (by decide))]; exact r13
          have r14 : w31 (md 14) = some (.inl (dA 0, 7, .inl (m_cnt μ))) := by rw [ew32, va_up_ne _ _ (hj.ne (i := 14) (j := 28) (by decide) (by decide) (by decide))]; exact r14
          have r15 : w31 (md 15) = some (.inl (dA 0, 7, .inl (m_ocnt μ))) := by rw [ew32, va_up_ne _ _ (hj.ne (i := 15) (j := 28) (by decide) (by decide) (by decide))]; exact r15
          have r23 : w31 (md 23) = some (.inl (dA 0, 12, .inl (nf (va_up (m_st μ) k 1)))) := by rw [ew32, va_up_ne _ _ (hj.ne (i := 23) (j := 28) (by decide) (by decide) (by decide))]; exact r23
          have r24 : w31 (md 24) = some (.inl (dA 1, 12, .inr (.inl (m_val μ)))) := by rw [ew32, va_up_ne _ _ (hj.ne (i := 24) (j := 28) (by decide) (by decide) (by decide))]; exact r24
          have r25 : w31 (md 25) = some (.inl (dA 0, 13, .inl (nf (va_up (m_key μ) (m_hgt μ) k)))) := by rw [ew32, va_up_ne _ _ (hj.ne (i := 25) (j := 28) (by decide) (by decide) (by decide))]; exact r25
          have r26 : w31 (md 26) = some (.inl (dA 0, 13, .inl (nf (va_up (m_ph μ) (m_hgt μ) 1)))) := by rw [ew32, va_up_ne _ _ (hj.ne (i := 26) (j := 28) (by decide) (by decide) (by decide))]; exact r26
          have r27 : w31 (md 27) = some (.inl (dA 0, 13, .inl (upd (m_chk μ) (m_hgt μ) ((m_trc μ) (12 * (m_wkr μ) + k))))) := by rw [ew32, va_up_ne _ _ (hj.ne (i := 27) (j := 28) (by decide) (by decide) (by decide))]; exact r27
          have r29 : w31 (md 29) = some (.inl (dA 0, 208, .inl (nf (m_cand μ)))) := by rw [ew32, va_up_ne _ _ (hj.ne (i := 29) (j := 28) (by decide) (by decide) (by decide))]; exact r29
          have r30 : w31 (md 30) = some (.inl (dA 0, 13, .inl (nf (va_up (m_cc μ) (m_hgt μ) 0)))) := by rw [ew32, va_up_ne _ _ (hj.ne (i := 30) (j := 28) (by decide) (by decide) (by decide))]; exact r30
          have r31 : w31 (md 31) = some (.inl (dA 0, 13, .inl (nf (m_mk μ)))) := by rw [ew32, va_up_ne _ _ (hj.ne (i := 31) (j := 28) (by decide) (by decide) (by decide))]; exact r31
          have r32 : w31 (md 32) = some (.inl (dA 0, 13, .inl (nf (m_asked μ)))) := by rw [ew32, va_up_ne _ _ (hj.ne (i := 32) (j := 28) (by decide) (by decide) (by decide))]; exact r32
          have r33 : w31 (md 33) = some (.inl (dA 1, 13, .inr (.inl (m_first μ)))) := by rw [ew32, va_up_ne _ _ (hj.ne (i := 33) (j := 28) (by decide) (by decide) (by decide))]; exact r33
          have r34 : w31 (md 34) = some (.inl (dA 1, 13, .inr (.inl (m_sum μ)))) := by rw [ew32, va_up_ne _ _ (hj.ne (i := 34) (j := 28) (by decide) (by decide) (by decide))]; exact r34
          have r28 : w31 (md 28) = some (.inl (dA 0, 13, .inl (nf (va_up (m_at μ) (m_hgt μ) 0)))) := by rw [ew32]; exact va_up_self _ _ _
          have ho33 : OutD md w w31 := OutD.up ho30 ew32 (by decide)
          refine lv_aload_n hx hb d_D_ask_156 rfl (lv_at hl 0 rfl) ?_
          refine lv_dup hx hb d_D_ask_157 rfl ?_
          refine va_get (D := (dC, dI)) (ci := 5) (v := .int (nI (m_hgt μ))) (C := R_D) (T := F_D) (N := 36) hx hb hg in_D hown hK (hP.one r36) 0 rfl rfl 35 (by decide) (hg _ k_626) (fun _ h9 => h9) rfl d_D_ask_158 ?_
          refine lv_iconst (v := (nI 1)) hx hb d_D_ask_161 (by decide) ?_
          refine nu_iadd (r := m_hgt μ + 1) hx hb d_D_ask_162 (by omega) ?_
          refine fw_put (D := (dC, dI)) (ci := 5) (v := .int (nI (m_hgt μ + 1))) (ty := .int) (C := R_D) (T := F_D) (N := 36) hx hb hg in_D ft_D ft_D_ok n_D hown hK hP hS r36 rfl 35 (by decide) (hg _ k_626) (fun _ h9 => h9) rfl (by decide +kernel) rfl rfl (Nat.le_of_ble_eq_true rfl) d_D_ask_163 (fun w34 H locs ew35 hP hS => ?_)
          have r0 : w34 (md 0) = some (.inl (dA 0, 12, .inl (nf (m_sort μ)))) := by rw [ew35, va_up_ne _ _ (hj.ne (i := 0) (j := 36) (by decide) (by decide) (by decide))]; exact r0
          have r1 : w34 (md 1) = some (.inl (dA 0, 12, .inl (nf (m_rule μ)))) := by rw [ew35, va_up_ne _ _ (hj.ne (i := 1) (j := 36) (by decide) (by decide) (by decide))]; exact r1
          have r2 : w34 (md 2) = some (.inl (dA 0, 36, .inl (m_parts μ))) := by rw [ew35, va_up_ne _ _ (hj.ne (i := 2) (j := 36) (by decide) (by decide) (by decide))]; exact r2
          have r3 : w34 (md 3) = some (.inl (dA 1, 12, .inr (.inl (m_inp μ)))) := by rw [ew35, va_up_ne _ _ (hj.ne (i := 3) (j := 36) (by decide) (by decide) (by decide))]; exact r3
          have r4 : w34 (md 4) = some (.inl (dA 0, 320, .inl (nf (m_size μ)))) := by rw [ew35, va_up_ne _ _ (hj.ne (i := 4) (j := 36) (by decide) (by decide) (by decide))]; exact r4
          have r5 : w34 (md 5) = some (.inl (dA 0, 3840, .inl (nf (m_keys μ)))) := by rw [ew35, va_up_ne _ _ (hj.ne (i := 5) (j := 36) (by decide) (by decide) (by decide))]; exact r5
          have r6 : w34 (md 6) = some (.inl (dA 0, 320, .inl (nf (m_own μ)))) := by rw [ew35, va_up_ne _ _ (hj.ne (i := 6) (j := 36) (by decide) (by decide) (by decide))]; exact r6
          have r7 : w34 (md 7) = some (.inl (dA 1, 3840, .inr (.inl (m_got μ)))) := by rw [ew35, va_up_ne _ _ (hj.ne (i := 7) (j := 36) (by decide) (by decide) (by decide))]; exact r7
          have r8 : w34 (md 8) = some (.inl (dA 1, 320, .inr (.inl (m_came μ)))) := by rw [ew35, va_up_ne _ _ (hj.ne (i := 8) (j := 36) (by decide) (by decide) (by decide))]; exact r8
          have r9 : w34 (md 9) = some (.inl (dA 2, 320, .inl (zf u))) := by rw [ew35, va_up_ne _ _ (hj.ne (i := 9) (j := 36) (by decide) (by decide) (by decide))]; exact r9
          have r10 : w34 (md 10) = some (.inl (dA 0, 24, .inl (m_trc μ))) := by rw [ew35, va_up_ne _ _ (hj.ne (i := 10) (j := 36) (by decide) (by decide) (by decide))]; exact r10
          have r11 : w34 (md 11) = some (.inl (dA 0, 24, .inl (m_otrc μ))) := by rw [ew35, va_up_ne _ _ (hj.ne (i := 11) (j := 36) (by decide) (by decide) (by decide))]; exact r11
          have r12 : w34 (md 12) = some (.inl (dA 0, 17, .inl (nf (m_cch μ)))) := by rw [ew35, va_up_ne _ _ (hj.ne (i := 12) (j := 36) (by decide) (by decide) (by decide))]; exact r12
          have r13 : w34 (md 13) = some (.inl (dA 0, 17, .inl (nf (m_occh μ)))) := by rw [ew35, va_up_ne _ _ (hj.ne (i := 13) (j := 36) (by decide) (by decide) (by decide))]; exact r13
          have r14 : w34 (md 14) = some (.inl (dA 0, 7, .inl (m_cnt μ))) := by rw [ew35, va_up_ne _ _ (hj.ne (i := 14) (j := 36) (by decide) (by decide) (by decide))]; exact r14
          have r15 : w34 (md 15) = some (.inl (dA 0, 7, .inl (m_ocnt μ))) := by rw [ew35, va_up_ne _ _ (hj.ne (i := 15) (j := 36) (by decide) (by decide) (by decide))]; exact r15
          have r23 : w34 (md 23) = some (.inl (dA 0, 12, .inl (nf (va_up (m_st μ) k 1)))) := by rw [ew35, va_up_ne _ _ (hj.ne (i := 23) (j := 36) (by decide) (by decide) (by decide))]; exact r23
          have r24 : w34 (md 24) = some (.inl (dA 1, 12, .inr (.inl (m_val μ)))) := by rw [ew35, va_up_ne _ _ (hj.ne (i := 24) (j := 36) (by decide) (by decide) (by decide))]; exact r24
          have r25 : w34 (md 25) = some (.inl (dA 0, 13, .inl (nf (va_up (m_key μ) (m_hgt μ) k)))) := by rw [ew35, va_up_ne _ _ (hj.ne (i := 25) (j := 36) (by decide) (by decide) (by decide))]; exact r25
          have r26 : w34 (md 26) = some (.inl (dA 0, 13, .inl (nf (va_up (m_ph μ) (m_hgt μ) 1)))) := by rw [ew35, va_up_ne _ _ (hj.ne (i := 26) (j := 36) (by decide) (by decide) (by decide))]; exact r26
          have r27 : w34 (md 27) = some (.inl (dA 0, 13, .inl (upd (m_chk μ) (m_hgt μ) ((m_trc μ) (12 * (m_wkr μ) + k))))) := by rw [ew35, va_up_ne _ _ (hj.ne (i := 27) (j := 36) (by decide) (by decide) (by decide))]; exact r27
          have r28 : w34 (md 28) = some (.inl (dA 0, 13, .inl (nf (va_up (m_at μ) (m_hgt μ) 0)))) := by rw [ew35, va_up_ne _ _ (hj.ne (i := 28) (j := 36) (by decide) (by decide) (by decide))]; exact r28
          have r29 : w34 (md 29) = some (.inl (dA 0, 208, .inl (nf (m_cand μ)))) := by rw [ew35, va_up_ne _ _ (hj.ne (i := 29) (j := 36) (by decide) (by decide) (by decide))]; exact r29
          have r30 : w34 (md 30) = some (.inl (dA 0, 13, .inl (nf (va_up (m_cc μ) (m_hgt μ) 0)))) := by rw [ew35, va_up_ne _ _ (hj.ne (i := 30) (j := 36) (by decide) (by decide) (by decide))]; exact r30
          have r31 : w34 (md 31) = some (.inl (dA 0, 13, .inl (nf (m_mk μ)))) := by rw [ew35, va_up_ne _ _ (hj.ne (i := 31) (j := 36) (by decide) (by decide) (by decide))]; exact r31
          have r32 : w34 (md 32) = some (.inl (dA 0, 13, .inl (nf (m_asked μ)))) := by rw [ew35, va_up_ne _ _ (hj.ne (i := 32) (j := 36) (by decide) (by decide) (by decide))]; exact r32
          have r33 : w34 (md 33) = some (.inl (dA 1, 13, .inr (.inl (m_first μ)))) := by rw [ew35, va_up_ne _ _ (hj.ne (i := 33) (j := 36) (by decide) (by decide) (by decide))]; exact r33
          have r34 : w34 (md 34) = some (.inl (dA 1, 13, .inr (.inl (m_sum μ)))) := by rw [ew35, va_up_ne _ _ (hj.ne (i := 34) (j := 36) (by decide) (by decide) (by decide))]; exact r34
          have r36 : w34 (md 36) = some (.inr (5, [.ref (md 0), .ref (md 1), .ref (md 2), .ref (md 3), .ref (md 4), .ref (md 5), .ref (md 6), .ref (md 7), .ref (md 8), .ref (md 9), .ref (md 10), .ref (md 11), .ref (md 12), .ref (md 13), .ref (md 14), .ref (md 15), .int (nI (m_cached μ)), .int (nI (m_ocached μ)), .int (m_circ μ), .int (m_ocirc μ), .int (nI (m_thr μ)), .int (nI (m_wkr μ)), .int (nI (m_ran μ).toNat), .ref (md 23), .ref (md 24), .ref (md 25), .ref (md 26), .ref (md 27), .ref (md 28), .ref (md 29), .ref (md 30), .ref (md 31), .ref (md 32), .ref (md 33), .ref (md 34), .int (nI (m_hgt μ + 1))])) := by rw [ew35]; exact va_up_self _ _ _
          have ho36 : OutD md w w34 := OutD.up ho33 ew35 (by decide)
          refine lv_iconst (v := (nI 0)) hx hb d_D_ask_166 (by decide) ?_
          exact W.zret (v := (nI 0)) hx hb hr (by decide) (fun tS ht hW => ⟨⟨(nI 0), w34, rfl, ⟨by unfold dAskB; rw [if_neg c1, if_neg c2, if_neg c3, if_neg c4]; rfl, (by rw [show dAsk k μ = (((m_sort μ), (m_rule μ), m_parts μ, m_inp μ), ((m_size μ), (m_keys μ), (m_own μ), m_got μ, m_came μ), (m_trc μ, (m_cch μ), m_cached μ, m_cnt μ, (m_circ μ)), (m_otrc μ, (m_occh μ), m_ocached μ, m_ocnt μ, (m_ocirc μ)), (m_thr μ, m_wkr μ, (m_ran μ), (va_up (m_st μ) k 1), m_val μ), ((va_up (m_key μ) (m_hgt μ) k), (va_up (m_ph μ) (m_hgt μ) 1), upd (m_chk μ) (m_hgt μ) ((m_trc μ) (12 * (m_wkr μ) + k)), (va_up (m_at μ) (m_hgt μ) 0), (m_cand μ), (va_up (m_cc μ) (m_hgt μ) 0), (m_mk μ), (m_asked μ), m_first μ, m_sum μ, m_hgt μ + 1)) from (by unfold dAsk; rw [if_neg c1, if_neg c2, if_neg c3, if_neg c4] <;> rfl)]; exact ⟨⟨r36, r0, r1, r2, r3, r4, r5, r6, r7, r8, ⟨_, r9⟩, r10, r11, r12, r13, r14, r15, r23, r24, r25, r26, r27, r28, r29, r30, r31, r32, r33, r34⟩, ho36⟩)⟩, mB_of ht hP⟩, hS.F ht⟩) hS.2.2 d_D_ask_167
        · refine lv_aload_n hx hb d_D_ask_65 rfl (lv_at hl 0 rfl) ?_
          refine va_get (D := (dC, dI)) (ci := 5) (v := .ref (md 23)) (C := R_D) (T := F_D) (N := 36) hx hb hg in_D hown hK (hP.one r36) 0 rfl rfl 23 (by decide) (hg _ k_614) (fun _ h9 => h9) rfl d_D_ask_66 ?_
          refine lv_iload_n hx hb d_D_ask_69 rfl (lv_at hl 1 rfl) ?_
          refine lv_iconst (v := (nI 2)) hx hb d_D_ask_70 (by decide) ?_
          refine fw_iast (tys := tyl dA) hx hb hK hP hS r23 0 rfl (j := k) (x := (nI 2)) (by omega) (by decide) d_D_ask_71 (fun w37 H locs ew38 hP hS => ?_)
          rw [nf_up] at ew38
          have r36 : w37 (md 36) = some (.inr (5, [.ref (md 0), .ref (md 1), .ref (md 2), .ref (md 3), .ref (md 4), .ref (md 5), .ref (md 6), .ref (md 7), .ref (md 8), .ref (md 9), .ref (md 10), .ref (md 11), .ref (md 12), .ref (md 13), .ref (md 14), .ref (md 15), .int (nI (m_cached μ)), .int (nI (m_ocached μ)), .int (m_circ μ), .int (m_ocirc μ), .int (nI (m_thr μ)), .int (nI (m_wkr μ)), .int (nI (m_ran μ).toNat), .ref (md 23), .ref (md 24), .ref (md 25), .ref (md 26), .ref (md 27), .ref (md 28), .ref (md 29), .ref (md 30), .ref (md 31), .ref (md 32), .ref (md 33), .ref (md 34), .int (nI (m_hgt μ))])) := by rw [ew38, va_up_ne _ _ (hj.ne (i := 36) (j := 23) (by decide) (by decide) (by decide))]; exact r36
          have r0 : w37 (md 0) = some (.inl (dA 0, 12, .inl (nf (m_sort μ)))) := by rw [ew38, va_up_ne _ _ (hj.ne (i := 0) (j := 23) (by decide) (by decide) (by decide))]; exact r0
          have r1 : w37 (md 1) = some (.inl (dA 0, 12, .inl (nf (m_rule μ)))) := by rw [ew38, va_up_ne _ _ (hj.ne (i := 1) (j := 23) (by decide) (by decide) (by decide))]; exact r1
          have r2 : w37 (md 2) = some (.inl (dA 0, 36, .inl (m_parts μ))) := by rw [ew38, va_up_ne _ _ (hj.ne (i := 2) (j := 23) (by decide) (by decide) (by decide))]; exact r2
          have r3 : w37 (md 3) = some (.inl (dA 1, 12, .inr (.inl (m_inp μ)))) := by rw [ew38, va_up_ne _ _ (hj.ne (i := 3) (j := 23) (by decide) (by decide) (by decide))]; exact r3
          have r4 : w37 (md 4) = some (.inl (dA 0, 320, .inl (nf (m_size μ)))) := by rw [ew38, va_up_ne _ _ (hj.ne (i := 4) (j := 23) (by decide) (by decide) (by decide))]; exact r4
          have r5 : w37 (md 5) = some (.inl (dA 0, 3840, .inl (nf (m_keys μ)))) := by rw [ew38, va_up_ne _ _ (hj.ne (i := 5) (j := 23) (by decide) (by decide) (by decide))]; exact r5
          have r6 : w37 (md 6) = some (.inl (dA 0, 320, .inl (nf (m_own μ)))) := by rw [ew38, va_up_ne _ _ (hj.ne (i := 6) (j := 23) (by decide) (by decide) (by decide))]; exact r6
          have r7 : w37 (md 7) = some (.inl (dA 1, 3840, .inr (.inl (m_got μ)))) := by rw [ew38, va_up_ne _ _ (hj.ne (i := 7) (j := 23) (by decide) (by decide) (by decide))]; exact r7
          have r8 : w37 (md 8) = some (.inl (dA 1, 320, .inr (.inl (m_came μ)))) := by rw [ew38, va_up_ne _ _ (hj.ne (i := 8) (j := 23) (by decide) (by decide) (by decide))]; exact r8
          have r9 : w37 (md 9) = some (.inl (dA 2, 320, .inl (zf u))) := by rw [ew38, va_up_ne _ _ (hj.ne (i := 9) (j := 23) (by decide) (by decide) (by decide))]; exact r9
          have r10 : w37 (md 10) = some (.inl (dA 0, 24, .inl (m_trc μ))) := by rw [ew38, va_up_ne _ _ (hj.ne (i := 10) (j := 23) (by decide) (by decide) (by decide))]; exact r10
          have r11 : w37 (md 11) = some (.inl (dA 0, 24, .inl (m_otrc μ))) := by rw [ew38, va_up_ne _ _ (hj.ne (i := 11) (j := 23) (by decide) (by decide) (by decide))]; exact r11
          have r12 : w37 (md 12) = some (.inl (dA 0, 17, .inl (nf (m_cch μ)))) := by rw [ew38, va_up_ne _ _ (hj.ne (i := 12) (j := 23) (by decide) (by decide) (by decide))]; exact r12
          have r13 : w37 (md 13) = some (.inl (dA 0, 17, .inl (nf (m_occh μ)))) := by rw [ew38, va_up_ne _ _ (hj.ne (i := 13) (j := 23) (by decide) (by decide) (by decide))]; exact r13
          have r14 : w37 (md 14) = some (.inl (dA 0, 7, .inl (m_cnt μ))) := by rw [ew38, va_up_ne _ _ (hj.ne (i := 14) (j := 23) (by decide) (by decide) (by decide))]; exact r14
          have r15 : w37 (md 15) = some (.inl (dA 0, 7, .inl (m_ocnt μ))) := by rw [ew38, va_up_ne _ _ (hj.ne (i := 15) (j := 23) (by decide) (by decide) (by decide))]; exact r15
          have r24 : w37 (md 24) = some (.inl (dA 1, 12, .inr (.inl (m_val μ)))) := by rw [ew38, va_up_ne _ _ (hj.ne (i := 24) (j := 23) (by decide) (by decide) (by decide))]; exact r24
          have r25 : w37 (md 25) = some (.inl (dA 0, 13, .inl (nf (m_key μ)))) := by rw [ew38, va_up_ne _ _ (hj.ne (i := 25) (j := 23) (by decide) (by decide) (by decide))]; exact r25
          have r26 : w37 (md 26) = some (.inl (dA 0, 13, .inl (nf (m_ph μ)))) := by rw [ew38, va_up_ne _ _ (hj.ne (i := 26) (j := 23) (by decide) (by decide) (by decide))]; exact r26
          have r27 : w37 (md 27) = some (.inl (dA 0, 13, .inl (m_chk μ))) := by rw [ew38, va_up_ne _ _ (hj.ne (i := 27) (j := 23) (by decide) (by decide) (by decide))]; exact r27
          have r28 : w37 (md 28) = some (.inl (dA 0, 13, .inl (nf (m_at μ)))) := by rw [ew38, va_up_ne _ _ (hj.ne (i := 28) (j := 23) (by decide) (by decide) (by decide))]; exact r28
          have r29 : w37 (md 29) = some (.inl (dA 0, 208, .inl (nf (m_cand μ)))) := by rw [ew38, va_up_ne _ _ (hj.ne (i := 29) (j := 23) (by decide) (by decide) (by decide))]; exact r29
          have r30 : w37 (md 30) = some (.inl (dA 0, 13, .inl (nf (m_cc μ)))) := by rw [ew38, va_up_ne _ _ (hj.ne (i := 30) (j := 23) (by decide) (by decide) (by decide))]; exact r30
          have r31 : w37 (md 31) = some (.inl (dA 0, 13, .inl (nf (m_mk μ)))) := by rw [ew38, va_up_ne _ _ (hj.ne (i := 31) (j := 23) (by decide) (by decide) (by decide))]; exact r31
          have r32 : w37 (md 32) = some (.inl (dA 0, 13, .inl (nf (m_asked μ)))) := by rw [ew38, va_up_ne _ _ (hj.ne (i := 32) (j := 23) (by decide) (by decide) (by decide))]; exact r32
          have r33 : w37 (md 33) = some (.inl (dA 1, 13, .inr (.inl (m_first μ)))) := by rw [ew38, va_up_ne _ _ (hj.ne (i := 33) (j := 23) (by decide) (by decide) (by decide))]; exact r33
          have r34 : w37 (md 34) = some (.inl (dA 1, 13, .inr (.inl (m_sum μ)))) := by rw [ew38, va_up_ne _ _ (hj.ne (i := 34) (j := 23) (by decide) (by decide) (by decide))]; exact r34
          have r23 : w37 (md 23) = some (.inl (dA 0, 12, .inl (nf (va_up (m_st μ) k 2)))) := by rw [ew38]; exact va_up_self _ _ _
          have ho39 : OutD md w w37 := OutD.up OutD.rf ew38 (by decide)
          refine lv_aload_n hx hb d_D_ask_72 rfl (lv_at hl 0 rfl) ?_
          refine va_get (D := (dC, dI)) (ci := 5) (v := .ref (md 24)) (C := R_D) (T := F_D) (N := 36) hx hb hg in_D hown hK (hP.one r36) 0 rfl rfl 24 (by decide) (hg _ k_615) (fun _ h9 => h9) rfl d_D_ask_73 ?_
          refine lv_iload_n hx hb d_D_ask_76 rfl (lv_at hl 1 rfl) ?_
          refine lv_aload_n hx hb d_D_ask_77 rfl (lv_at hl 0 rfl) ?_
          refine va_get (D := (dC, dI)) (ci := 5) (v := .ref (md 3)) (C := R_D) (T := F_D) (N := 36) hx hb hg in_D hown hK (hP.one r36) 0 rfl rfl 3 (by decide) (hg _ k_594) (fun _ h9 => h9) rfl d_D_ask_78 ?_
          refine lv_iload_n hx hb d_D_ask_81 rfl (lv_at hl 1 rfl) ?_
          refine fw_lald (tys := tyl dA) hx hb hK hP r3 1 rfl (j := k) (by omega) (by decide) d_D_ask_82 ?_
          refine fw_last (tys := tyl dA) hx hb hK hP hS r24 1 rfl (j := k) (by omega) (by decide) d_D_ask_83 (fun w40 H locs ew41 hP hS => ?_)
          have r36 : w40 (md 36) = some (.inr (5, [.ref (md 0), .ref (md 1), .ref (md 2), .ref (md 3), .ref (md 4), .ref (md 5), .ref (md 6), .ref (md 7), .ref (md 8), .ref (md 9), .ref (md 10), .ref (md 11), .ref (md 12), .ref (md 13), .ref (md 14), .ref (md 15), .int (nI (m_cached μ)), .int (nI (m_ocached μ)), .int (m_circ μ), .int (m_ocirc μ), .int (nI (m_thr μ)), .int (nI (m_wkr μ)), .int (nI (m_ran μ).toNat), .ref (md 23), .ref (md 24), .ref (md 25), .ref (md 26), .ref (md 27), .ref (md 28), .ref (md 29), .ref (md 30), .ref (md 31), .ref (md 32), .ref (md 33), .ref (md 34), .int (nI (m_hgt μ))])) := by rw [ew41, va_up_ne _ _ (hj.ne (i := 36) (j := 24) (by decide) (by decide) (by decide))]; exact r36
          have r0 : w40 (md 0) = some (.inl (dA 0, 12, .inl (nf (m_sort μ)))) := by rw [ew41, va_up_ne _ _ (hj.ne (i := 0) (j := 24) (by decide) (by decide) (by decide))]; exact r0
          have r1 : w40 (md 1) = some (.inl (dA 0, 12, .inl (nf (m_rule μ)))) := by rw [ew41, va_up_ne _ _ (hj.ne (i := 1) (j := 24) (by decide) (by decide) (by decide))]; exact r1
          have r2 : w40 (md 2) = some (.inl (dA 0, 36, .inl (m_parts μ))) := by rw [ew41, va_up_ne _ _ (hj.ne (i := 2) (j := 24) (by decide) (by decide) (by decide))]; exact r2
          have r3 : w40 (md 3) = some (.inl (dA 1, 12, .inr (.inl (m_inp μ)))) := by rw [ew41, va_up_ne _ _ (hj.ne (i := 3) (j := 24) (by decide) (by decide) (by decide))]; exact r3
          have r4 : w40 (md 4) = some (.inl (dA 0, 320, .inl (nf (m_size μ)))) := by rw [ew41, va_up_ne _ _ (hj.ne (i := 4) (j := 24) (by decide) (by decide) (by decide))]; exact r4
          have r5 : w40 (md 5) = some (.inl (dA 0, 3840, .inl (nf (m_keys μ)))) := by rw [ew41, va_up_ne _ _ (hj.ne (i := 5) (j := 24) (by decide) (by decide) (by decide))]; exact r5
          have r6 : w40 (md 6) = some (.inl (dA 0, 320, .inl (nf (m_own μ)))) := by rw [ew41, va_up_ne _ _ (hj.ne (i := 6) (j := 24) (by decide) (by decide) (by decide))]; exact r6
          have r7 : w40 (md 7) = some (.inl (dA 1, 3840, .inr (.inl (m_got μ)))) := by rw [ew41, va_up_ne _ _ (hj.ne (i := 7) (j := 24) (by decide) (by decide) (by decide))]; exact r7
          have r8 : w40 (md 8) = some (.inl (dA 1, 320, .inr (.inl (m_came μ)))) := by rw [ew41, va_up_ne _ _ (hj.ne (i := 8) (j := 24) (by decide) (by decide) (by decide))]; exact r8
          have r9 : w40 (md 9) = some (.inl (dA 2, 320, .inl (zf u))) := by rw [ew41, va_up_ne _ _ (hj.ne (i := 9) (j := 24) (by decide) (by decide) (by decide))]; exact r9
          have r10 : w40 (md 10) = some (.inl (dA 0, 24, .inl (m_trc μ))) := by rw [ew41, va_up_ne _ _ (hj.ne (i := 10) (j := 24) (by decide) (by decide) (by decide))]; exact r10
          have r11 : w40 (md 11) = some (.inl (dA 0, 24, .inl (m_otrc μ))) := by rw [ew41, va_up_ne _ _ (hj.ne (i := 11) (j := 24) (by decide) (by decide) (by decide))]; exact r11
          have r12 : w40 (md 12) = some (.inl (dA 0, 17, .inl (nf (m_cch μ)))) := by rw [ew41, va_up_ne _ _ (hj.ne (i := 12) (j := 24) (by decide) (by decide) (by decide))]; exact r12
          have r13 : w40 (md 13) = some (.inl (dA 0, 17, .inl (nf (m_occh μ)))) := by rw [ew41, va_up_ne _ _ (hj.ne (i := 13) (j := 24) (by decide) (by decide) (by decide))]; exact r13
          have r14 : w40 (md 14) = some (.inl (dA 0, 7, .inl (m_cnt μ))) := by rw [ew41, va_up_ne _ _ (hj.ne (i := 14) (j := 24) (by decide) (by decide) (by decide))]; exact r14
          have r15 : w40 (md 15) = some (.inl (dA 0, 7, .inl (m_ocnt μ))) := by rw [ew41, va_up_ne _ _ (hj.ne (i := 15) (j := 24) (by decide) (by decide) (by decide))]; exact r15
          have r23 : w40 (md 23) = some (.inl (dA 0, 12, .inl (nf (va_up (m_st μ) k 2)))) := by rw [ew41, va_up_ne _ _ (hj.ne (i := 23) (j := 24) (by decide) (by decide) (by decide))]; exact r23
          have r25 : w40 (md 25) = some (.inl (dA 0, 13, .inl (nf (m_key μ)))) := by rw [ew41, va_up_ne _ _ (hj.ne (i := 25) (j := 24) (by decide) (by decide) (by decide))]; exact r25
          have r26 : w40 (md 26) = some (.inl (dA 0, 13, .inl (nf (m_ph μ)))) := by rw [ew41, va_up_ne _ _ (hj.ne (i := 26) (j := 24) (by decide) (by decide) (by decide))]; exact r26
          have r27 : w40 (md 27) = some (.inl (dA 0, 13, .inl (m_chk μ))) := by rw [ew41, va_up_ne _ _ (hj.ne (i := 27) (j := 24) (by decide) (by decide) (by decide))]; exact r27
          have r28 : w40 (md 28) = some (.inl (dA 0, 13, .inl (nf (m_at μ)))) := by rw [ew41, va_up_ne _ _ (hj.ne (i := 28) (j := 24) (by decide) (by decide) (by decide))]; exact r28
          have r29 : w40 (md 29) = some (.inl (dA 0, 208, .inl (nf (m_cand μ)))) := by rw [ew41, va_up_ne _ _ (hj.ne (i := 29) (j := 24) (by decide) (by decide) (by decide))]; exact r29
          have r30 : w40 (md 30) = some (.inl (dA 0, 13, .inl (nf (m_cc μ)))) := by rw [ew41, va_up_ne _ _ (hj.ne (i := 30) (j := 24) (by decide) (by decide) (by decide))]; exact r30
          have r31 : w40 (md 31) = some (.inl (dA 0, 13, .inl (nf (m_mk μ)))) := by rw [ew41, va_up_ne _ _ (hj.ne (i := 31) (j := 24) (by decide) (by decide) (by decide))]; exact r31
          have r32 : w40 (md 32) = some (.inl (dA 0, 13, .inl (nf (m_asked μ)))) := by rw [ew41, va_up_ne _ _ (hj.ne (i := 32) (j := 24) (by decide) (by decide) (by decide))]; exact r32
          have r33 : w40 (md 33) = some (.inl (dA 1, 13, .inr (.inl (m_first μ)))) := by rw [ew41, va_up_ne _ _ (hj.ne (i := 33) (j := 24) (by decide) (by decide) (by decide))]; exact r33
          have r34 : w40 (md 34) = some (.inl (dA 1, 13, .inr (.inl (m_sum μ)))) := by rw [ew41, va_up_ne _ _ (hj.ne (i := 34) (j := 24) (by decide) (by decide) (by decide))]; exact r34
          have r24 : w40 (md 24) = some (.inl (dA 1, 12, .inr (.inl (vp_updL (m_val μ) k ((m_inp μ) k))))) := by rw [ew41]; exact va_up_self _ _ _
          have ho42 : OutD md w w40 := OutD.up ho39 ew41 (by decide)
          refine lv_iconst (v := (nI 1)) hx hb d_D_ask_84 (by decide) ?_
          exact W.zret (v := (nI 1)) hx hb hr (by decide) (fun tS ht hW => ⟨⟨(nI 1), w40, rfl, ⟨by unfold dAskB; rw [if_neg c1, if_neg c2, if_neg c3, if_pos c4]; rfl, (by rw [show dAsk k μ = (((m_sort μ), (m_rule μ), m_parts μ, m_inp μ), ((m_size μ), (m_keys μ), (m_own μ), m_got μ, m_came μ), (m_trc μ, (m_cch μ), m_cached μ, m_cnt μ, (m_circ μ)), (m_otrc μ, (m_occh μ), m_ocached μ, m_ocnt μ, (m_ocirc μ)), (m_thr μ, m_wkr μ, (m_ran μ), (va_up (m_st μ) k 2), vp_updL (m_val μ) k ((m_inp μ) k)), ((m_key μ), (m_ph μ), m_chk μ, (m_at μ), (m_cand μ), (m_cc μ), (m_mk μ), (m_asked μ), m_first μ, m_sum μ, m_hgt μ)) from (by unfold dAsk; rw [if_neg c1, if_neg c2, if_neg c3, if_pos c4] <;> rfl)]; exact ⟨⟨r36, r0, r1, r2, r3, r4, r5, r6, r7, r8, ⟨_, r9⟩, r10, r11, r12, r13, r14, r15, r23, r24, r25, r26, r27, r28, r29, r30, r31, r32, r33, r34⟩, ho42⟩)⟩, mB_of ht hP⟩, hS.F ht⟩) hS.2.2 d_D_ask_85
      · refine lv_aload_n hx hb d_D_ask_48 rfl (lv_at hl 0 rfl) ?_
        refine lv_iconst (v := (nI 2)) hx hb d_D_ask_49 (by decide) ?_
        refine fw_put (D := (dC, dI)) (ci := 5) (v := .int (nI 2)) (ty := .int) (C := R_D) (T := F_D) (N := 36) hx hb hg in_D ft_D ft_D_ok n_D hown hK hP hS r36 rfl 20 (by decide) (hg _ k_611) (fun _ h9 => h9) rfl (by decide +kernel) rfl rfl (Nat.le_of_ble_eq_true rfl) d_D_ask_50 (fun w43 H locs ew44 hP hS => ?_)
        have r0 : w43 (md 0) = some (.inl (dA 0, 12, .inl (nf (m_sort μ)))) := by rw [ew44, va_up_ne _ _ (hj.ne (i := 0) (j := 36) (by decide) (by decide) (by decide))]; exact r0
        have r1 : w43 (md 1) = some (.inl (dA 0, 12, .inl (nf (m_rule μ)))) := by rw [ew44, va_up_ne _ _ (hj.ne (i := 1) (j := 36) (by decide) (by decide) (by decide))]; exact r1
        have r2 : w43 (md 2) = some (.inl (dA 0, 36, .inl (m_parts μ))) := by rw [ew44, va_up_ne _ _ (hj.ne (i := 2) (j := 36) (by decide) (by decide) (by decide))]; exact r2
        have r3 : w43 (md 3) = some (.inl (dA 1, 12, .inr (.inl (m_inp μ)))) := by rw [ew44, va_up_ne _ _ (hj.ne (i := 3) (j := 36) (by decide) (by decide) (by decide))]; exact r3
        have r4 : w43 (md 4) = some (.inl (dA 0, 320, .inl (nf (m_size μ)))) := by rw [ew44, va_up_ne _ _ (hj.ne (i := 4) (j := 36) (by decide) (by decide) (by decide))]; exact r4
        have r5 : w43 (md 5) = some (.inl (dA 0, 3840, .inl (nf (m_keys μ)))) := by rw [ew44, va_up_ne _ _ (hj.ne (i := 5) (j := 36) (by decide) (by decide) (by decide))]; exact r5
        have r6 : w43 (md 6) = some (.inl (dA 0, 320, .inl (nf (m_own μ)))) := by rw [ew44, va_up_ne _ _ (hj.ne (i := 6) (j := 36) (by decide) (by decide) (by decide))]; exact r6
        have r7 : w43 (md 7) = some (.inl (dA 1, 3840, .inr (.inl (m_got μ)))) := by rw [ew44, va_up_ne _ _ (hj.ne (i := 7) (j := 36) (by decide) (by decide) (by decide))]; exact r7
        have r8 : w43 (md 8) = some (.inl (dA 1, 320, .inr (.inl (m_came μ)))) := by rw [ew44, va_up_ne _ _ (hj.ne (i := 8) (j := 36) (by decide) (by decide) (by decide))]; exact r8
        have r9 : w43 (md 9) = some (.inl (dA 2, 320, .inl (zf u))) := by rw [ew44, va_up_ne _ _ (hj.ne (i := 9) (j := 36) (by decide) (by decide) (by decide))]; exact r9
        have r10 : w43 (md 10) = some (.inl (dA 0, 24, .inl (m_trc μ))) := by rw [ew44, va_up_ne _ _ (hj.ne (i := 10) (j := 36) (by decide) (by decide) (by decide))]; exact r10
        have r11 : w43 (md 11) = some (.inl (dA 0, 24, .inl (m_otrc μ))) := by rw [ew44, va_up_ne _ _ (hj.ne (i := 11) (j := 36) (by decide) (by decide) (by decide))]; exact r11
        have r12 : w43 (md 12) = some (.inl (dA 0, 17, .inl (nf (m_cch μ)))) := by rw [ew44, va_up_ne _ _ (hj.ne (i := 12) (j := 36) (by decide) (by decide) (by decide))]; exact r12
        have r13 : w43 (md 13) = some (.inl (dA 0, 17, .inl (nf (m_occh μ)))) := by rw [ew44, va_up_ne _ _ (hj.ne (i := 13) (j := 36) (by decide) (by decide) (by decide))]; exact r13
        have r14 : w43 (md 14) = some (.inl (dA 0, 7, .inl (m_cnt μ))) := by rw [ew44, va_up_ne _ _ (hj.ne (i := 14) (j := 36) (by decide) (by decide) (by decide))]; exact r14
        have r15 : w43 (md 15) = some (.inl (dA 0, 7, .inl (m_ocnt μ))) := by rw [ew44, va_up_ne _ _ (hj.ne (i := 15) (j := 36) (by decide) (by decide) (by decide))]; exact r15
        have r23 : w43 (md 23) = some (.inl (dA 0, 12, .inl (nf (m_st μ)))) := by rw [ew44, va_up_ne _ _ (hj.ne (i := 23) (j := 36) (by decide) (by decide) (by decide))]; exact r23
        have r24 : w43 (md 24) = some (.inl (dA 1, 12, .inr (.inl (m_val μ)))) := by rw [ew44, va_up_ne _ _ (hj.ne (i := 24) (j := 36) (by decide) (by decide) (by decide))]; exact r24
        have r25 : w43 (md 25) = some (.inl (dA 0, 13, .inl (nf (m_key μ)))) := by rw [ew44, va_up_ne _ _ (hj.ne (i := 25) (j := 36) (by decide) (by decide) (by decide))]; exact r25
        have r26 : w43 (md 26) = some (.inl (dA 0, 13, .inl (nf (m_ph μ)))) := by rw [ew44, va_up_ne _ _ (hj.ne (i := 26) (j := 36) (by decide) (by decide) (by decide))]; exact r26
        have r27 : w43 (md 27) = some (.inl (dA 0, 13, .inl (m_chk μ))) := by rw [ew44, va_up_ne _ _ (hj.ne (i := 27) (j := 36) (by decide) (by decide) (by decide))]; exact r27
        have r28 : w43 (md 28) = some (.inl (dA 0, 13, .inl (nf (m_at μ)))) := by rw [ew44, va_up_ne _ _ (hj.ne (i := 28) (j := 36) (by decide) (by decide) (by decide))]; exact r28
        have r29 : w43 (md 29) = some (.inl (dA 0, 208, .inl (nf (m_cand μ)))) := by rw [ew44, va_up_ne _ _ (hj.ne (i := 29) (j := 36) (by decide) (by decide) (by decide))]; exact r29
        have r30 : w43 (md 30) = some (.inl (dA 0, 13, .inl (nf (m_cc μ)))) := by rw [ew44, va_up_ne _ _ (hj.ne (i := 30) (j := 36) (by decide) (by decide) (by decide))]; exact r30
        have r31 : w43 (md 31) = some (.inl (dA 0, 13, .inl (nf (m_mk μ)))) := by rw [ew44, va_up_ne _ _ (hj.ne (i := 31) (j := 36) (by decide) (by decide) (by decide))]; exact r31
        have r32 : w43 (md 32) = some (.inl (dA 0, 13, .inl (nf (m_asked μ)))) := by rw [ew44, va_up_ne _ _ (hj.ne (i := 32) (j := 36) (by decide) (by decide) (by decide))]; exact r32
        have r33 : w43 (md 33) = some (.inl (dA 1, 13, .inr (.inl (m_first μ)))) := by rw [ew44, va_up_ne _ _ (hj.ne (i := 33) (j := 36) (by decide) (by decide) (by decide))]; exact r33
        have r34 : w43 (md 34) = some (.inl (dA 1, 13, .inr (.inl (m_sum μ)))) := by rw [ew44, va_up_ne _ _ (hj.ne (i := 34) (j := 36) (by decide) (by decide) (by decide))]; exact r34
        have r36 : w43 (md 36) = some (.inr (5, [.ref (md 0), .ref (md 1), .ref (md 2), .ref (md 3), .ref (md 4), .ref (md 5), .ref (md 6), .ref (md 7), .ref (md 8), .ref (md 9), .ref (md 10), .ref (md 11), .ref (md 12), .ref (md 13), .ref (md 14), .ref (md 15), .int (nI (m_cached μ)), .int (nI (m_ocached μ)), .int (m_circ μ), .int (m_ocirc μ), .int (nI 2), .int (nI (m_wkr μ)), .int (nI (m_ran μ).toNat), .ref (md 23), .ref (md 24), .ref (md 25), .ref (md 26), .ref (md 27), .ref (md 28), .ref (md 29), .ref (md 30), .ref (md 31), .ref (md 32), .ref (md 33), .ref (md 34), .int (nI (m_hgt μ))])) := by rw [ew44]; exact va_up_self _ _ _
        have ho45 : OutD md w w43 := OutD.up OutD.rf ew44 (by decide)
        refine lv_iconst (v := (nI 0)) hx hb d_D_ask_53 (by decide) ?_
        exact W.zret (v := (nI 0)) hx hb hr (by decide) (fun tS ht hW => ⟨⟨(nI 0), w43, rfl, ⟨by unfold dAskB; rw [if_neg c1, if_neg c2, if_pos c3]; rfl, (by rw [show dAsk k μ = (((m_sort μ), (m_rule μ), m_parts μ, m_inp μ), ((m_size μ), (m_keys μ), (m_own μ), m_got μ, m_came μ), (m_trc μ, (m_cch μ), m_cached μ, m_cnt μ, (m_circ μ)), (m_otrc μ, (m_occh μ), m_ocached μ, m_ocnt μ, (m_ocirc μ)), (2, m_wkr μ, (m_ran μ), (m_st μ), m_val μ), ((m_key μ), (m_ph μ), m_chk μ, (m_at μ), (m_cand μ), (m_cc μ), (m_mk μ), (m_asked μ), m_first μ, m_sum μ, m_hgt μ)) from (by unfold dAsk; rw [if_neg c1, if_neg c2, if_pos c3] <;> rfl)]; exact ⟨⟨r36, r0, r1, r2, r3, r4, r5, r6, r7, r8, ⟨_, r9⟩, r10, r11, r12, r13, r14, r15, r23, r24, r25, r26, r27, r28, r29, r30, r31, r32, r33, r34⟩, ho45⟩)⟩, mB_of ht hP⟩, hS.F ht⟩) hS.2.2 d_D_ask_54
    · refine lv_aload_n hx hb d_D_ask_22 rfl (lv_at hl 0 rfl) ?_
      refine lv_dup hx hb d_D_ask_23 rfl ?_
      refine va_get (D := (dC, dI)) (ci := 5) (v := .int (m_circ μ)) (C := R_D) (T := F_D) (N := 36) hx hb hg in_D hown hK (hP.one r36) 0 rfl rfl 18 (by decide) (hg _ k_609) (fun _ h9 => h9) rfl d_D_ask_24 ?_
      refine lv_iconst (v := (nI 1)) hx hb d_D_ask_27 (by decide) ?_
      refine lv_iadd hx hb d_D_ask_28 ?_
      refine fw_put (D := (dC, dI)) (ci := 5) (v := .int ((m_circ μ) + (nI 1))) (ty := .int) (C := R_D) (T := F_D) (N := 36) hx hb hg in_D ft_D ft_D_ok n_D hown hK hP hS r36 rfl 18 (by decide) (hg _ k_609) (fun _ h9 => h9) rfl (by decide +kernel) rfl rfl (Nat.le_of_ble_eq_true rfl) d_D_ask_29 (fun w46 H locs ew47 hP hS => ?_)
      have r0 : w46 (md 0) = some (.inl (dA 0, 12, .inl (nf (m_sort μ)))) := by rw [ew47, va_up_ne _ _ (hj.ne (i := 0) (j := 36) (by decide) (by decide) (by decide))]; exact r0
      have r1 : w46 (md 1) = some (.inl (dA 0, 12, .inl (nf (m_rule μ)))) := by rw [ew47, va_up_ne _ _ (hj.ne (i := 1) (j := 36) (by decide) (by decide) (by decide))]; exact r1
      have r2 : w46 (md 2) = some (.inl (dA 0, 36, .inl (m_parts μ))) := by rw [ew47, va_up_ne _ _ (hj.ne (i := 2) (j := 36) (by decide) (by decide) (by decide))]; exact r2
      have r3 : w46 (md 3) = some (.inl (dA 1, 12, .inr (.inl (m_inp μ)))) := by rw [ew47, va_up_ne _ _ (hj.ne (i := 3) (j := 36) (by decide) (by decide) (by decide))]; exact r3
      have r4 : w46 (md 4) = some (.inl (dA 0, 320, .inl (nf (m_size μ)))) := by rw [ew47, va_up_ne _ _ (hj.ne (i := 4) (j := 36) (by decide) (by decide) (by decide))]; exact r4
      have r5 : w46 (md 5) = some (.inl (dA 0, 3840, .inl (nf (m_keys μ)))) := by rw [ew47, va_up_ne _ _ (hj.ne (i := 5) (j := 36) (by decide) (by decide) (by decide))]; exact r5
      have r6 : w46 (md 6) = some (.inl (dA 0, 320, .inl (nf (m_own μ)))) := by rw [ew47, va_up_ne _ _ (hj.ne (i := 6) (j := 36) (by decide) (by decide) (by decide))]; exact r6
      have r7 : w46 (md 7) = some (.inl (dA 1, 3840, .inr (.inl (m_got μ)))) := by rw [ew47, va_up_ne _ _ (hj.ne (i := 7) (j := 36) (by decide) (by decide) (by decide))]; exact r7
      have r8 : w46 (md 8) = some (.inl (dA 1, 320, .inr (.inl (m_came μ)))) := by rw [ew47, va_up_ne _ _ (hj.ne (i := 8) (j := 36) (by decide) (by decide) (by decide))]; exact r8
      have r9 : w46 (md 9) = some (.inl (dA 2, 320, .inl (zf u))) := by rw [ew47, va_up_ne _ _ (hj.ne (i := 9) (j := 36) (by decide) (by decide) (by decide))]; exact r9
      have r10 : w46 (md 10) = some (.inl (dA 0, 24, .inl (m_trc μ))) := by rw [ew47, va_up_ne _ _ (hj.ne (i := 10) (j := 36) (by decide) (by decide) (by decide))]; exact r10
      have r11 : w46 (md 11) = some (.inl (dA 0, 24, .inl (m_otrc μ))) := by rw [ew47, va_up_ne _ _ (hj.ne (i := 11) (j := 36) (by decide) (by decide) (by decide))]; exact r11
      have r12 : w46 (md 12) = some (.inl (dA 0, 17, .inl (nf (m_cch μ)))) := by rw [ew47, va_up_ne _ _ (hj.ne (i := 12) (j := 36) (by decide) (by decide) (by decide))]; exact r12
      have r13 : w46 (md 13) = some (.inl (dA 0, 17, .inl (nf (m_occh μ)))) := by rw [ew47, va_up_ne _ _ (hj.ne (i := 13) (j := 36) (by decide) (by decide) (by decide))]; exact r13
      have r14 : w46 (md 14) = some (.inl (dA 0, 7, .inl (m_cnt μ))) := by rw [ew47, va_up_ne _ _ (hj.ne (i := 14) (j := 36) (by decide) (by decide) (by decide))]; exact r14
      have r15 : w46 (md 15) = some (.inl (dA 0, 7, .inl (m_ocnt μ))) := by rw [ew47, va_up_ne _ _ (hj.ne (i := 15) (j := 36) (by decide) (by decide) (by decide))]; exact r15
      have r23 : w46 (md 23) = some (.inl (dA 0, 12, .inl (nf (m_st μ)))) := by rw [ew47, va_up_ne _ _ (hj.ne (i := 23) (j := 36) (by decide) (by decide) (by decide))]; exact r23
      have r24 : w46 (md 24) = some (.inl (dA 1, 12, .inr (.inl (m_val μ)))) := by rw [ew47, va_up_ne _ _ (hj.ne (i := 24) (j := 36) (by decide) (by decide) (by decide))]; exact r24
      have r25 : w46 (md 25) = some (.inl (dA 0, 13, .inl (nf (m_key μ)))) := by rw [ew47, va_up_ne _ _ (hj.ne (i := 25) (j := 36) (by decide) (by decide) (by decide))]; exact r25
      have r26 : w46 (md 26) = some (.inl (dA 0, 13, .inl (nf (m_ph μ)))) := by rw [ew47, va_up_ne _ _ (hj.ne (i := 26) (j := 36) (by decide) (by decide) (by decide))]; exact r26
      have r27 : w46 (md 27) = some (.inl (dA 0, 13, .inl (m_chk μ))) := by rw [ew47, va_up_ne _ _ (hj.ne (i := 27) (j := 36) (by decide) (by decide) (by decide))]; exact r27
      have r28 : w46 (md 28) = some (.inl (dA 0, 13, .inl (nf (m_at μ)))) := by rw [ew47, va_up_ne _ _ (hj.ne (i := 28) (j := 36) (by decide) (by decide) (by decide))]; exact r28
      have r29 : w46 (md 29) = some (.inl (dA 0, 208, .inl (nf (m_cand μ)))) := by rw [ew47, va_up_ne _ _ (hj.ne (i := 29) (j := 36) (by decide) (by decide) (by decide))]; exact r29
      have r30 : w46 (md 30) = some (.inl (dA 0, 13, .inl (nf (m_cc μ)))) := by rw [ew47, va_up_ne _ _ (hj.ne (i := 30) (j := 36) (by decide) (by decide) (by decide))]; exact r30
      have r31 : w46 (md 31) = some (.inl (dA 0, 13, .inl (nf (m_mk μ)))) := by rw [ew47, va_up_ne _ _ (hj.ne (i := 31) (j := 36) (by decide) (by decide) (by decide))]; exact r31
      have r32 : w46 (md 32) = some (.inl (dA 0, 13, .inl (nf (m_asked μ)))) := by rw [ew47, va_up_ne _ _ (hj.ne (i := 32) (j := 36) (by decide) (by decide) (by decide))]; exact r32
      have r33 : w46 (md 33) = some (.inl (dA 1, 13, .inr (.inl (m_first μ)))) := by rw [ew47, va_up_ne _ _ (hj.ne (i := 33) (j := 36) (by decide) (by decide) (by decide))]; exact r33
      have r34 : w46 (md 34) = some (.inl (dA 1, 13, .inr (.inl (m_sum μ)))) := by rw [ew47, va_up_ne _ _ (hj.ne (i := 34) (j := 36) (by decide) (by decide) (by decide))]; exact r34
      have r36 : w46 (md 36) = some (.inr (5, [.ref (md 0), .ref (md 1), .ref (md 2), .ref (md 3), .ref (md 4), .ref (md 5), .ref (md 6), .ref (md 7), .ref (md 8), .ref (md 9), .ref (md 10), .ref (md 11), .ref (md 12), .ref (md 13), .ref (md 14), .ref (md 15), .int (nI (m_cached μ)), .int (nI (m_ocached μ)), .int ((m_circ μ) + (nI 1)), .int (m_ocirc μ), .int (nI (m_thr μ)), .int (nI (m_wkr μ)), .int (nI (m_ran μ).toNat), .ref (md 23), .ref (md 24), .ref (md 25), .ref (md 26), .ref (md 27), .ref (md 28), .ref (md 29), .ref (md 30), .ref (md 31), .ref (md 32), .ref (md 33), .ref (md 34), .int (nI (m_hgt μ))])) := by rw [ew47]; exact va_up_self _ _ _
      have ho48 : OutD md w w46 := OutD.up OutD.rf ew47 (by decide)
      refine lv_aload_n hx hb d_D_ask_32 rfl (lv_at hl 0 rfl) ?_
      refine lv_iconst (v := (nI 4)) hx hb d_D_ask_33 (by decide) ?_
      refine fw_put (D := (dC, dI)) (ci := 5) (v := .int (nI 4)) (ty := .int) (C := R_D) (T := F_D) (N := 36) hx hb hg in_D ft_D ft_D_ok n_D hown hK hP hS r36 rfl 20 (by decide) (hg _ k_611) (fun _ h9 => h9) rfl (by decide +kernel) rfl rfl (Nat.le_of_ble_eq_true rfl) d_D_ask_34 (fun w49 H locs ew50 hP hS => ?_)
      have r0 : w49 (md 0) = some (.inl (dA 0, 12, .inl (nf (m_sort μ)))) := by rw [ew50, va_up_ne _ _ (hj.ne (i := 0) (j := 36) (by decide) (by decide) (by decide))]; exact r0
      have r1 : w49 (md 1) = some (.inl (dA 0, 12, .inl (nf (m_rule μ)))) := by rw [ew50, va_up_ne _ _ (hj.ne (i := 1) (j := 36) (by decide) (by decide) (by decide))]; exact r1
      have r2 : w49 (md 2) = some (.inl (dA 0, 36, .inl (m_parts μ))) := by rw [ew50, va_up_ne _ _ (hj.ne (i := 2) (j := 36) (by decide) (by decide) (by decide))]; exact r2
      have r3 : w49 (md 3) = some (.inl (dA 1, 12, .inr (.inl (m_inp μ)))) := by rw [ew50, va_up_ne _ _ (hj.ne (i := 3) (j := 36) (by decide) (by decide) (by decide))]; exact r3
      have r4 : w49 (md 4) = some (.inl (dA 0, 320, .inl (nf (m_size μ)))) := by rw [ew50, va_up_ne _ _ (hj.ne (i := 4) (j := 36) (by decide) (by decide) (by decide))]; exact r4
      have r5 : w49 (md 5) = some (.inl (dA 0, 3840, .inl (nf (m_keys μ)))) := by rw [ew50, va_up_ne _ _ (hj.ne (i := 5) (j := 36) (by decide) (by decide) (by decide))]; exact r5
      have r6 : w49 (md 6) = some (.inl (dA 0, 320, .inl (nf (m_own μ)))) := by rw [ew50, va_up_ne _ _ (hj.ne (i := 6) (j := 36) (by decide) (by decide) (by decide))]; exact r6
      have r7 : w49 (md 7) = some (.inl (dA 1, 3840, .inr (.inl (m_got μ)))) := by rw [ew50, va_up_ne _ _ (hj.ne (i := 7) (j := 36) (by decide) (by decide) (by decide))]; exact r7
      have r8 : w49 (md 8) = some (.inl (dA 1, 320, .inr (.inl (m_came μ)))) := by rw [ew50, va_up_ne _ _ (hj.ne (i := 8) (j := 36) (by decide) (by decide) (by decide))]; exact r8
      have r9 : w49 (md 9) = some (.inl (dA 2, 320, .inl (zf u))) := by rw [ew50, va_up_ne _ _ (hj.ne (i := 9) (j := 36) (by decide) (by decide) (by decide))]; exact r9
      have r10 : w49 (md 10) = some (.inl (dA 0, 24, .inl (m_trc μ))) := by rw [ew50, va_up_ne _ _ (hj.ne (i := 10) (j := 36) (by decide) (by decide) (by decide))]; exact r10
      have r11 : w49 (md 11) = some (.inl (dA 0, 24, .inl (m_otrc μ))) := by rw [ew50, va_up_ne _ _ (hj.ne (i := 11) (j := 36) (by decide) (by decide) (by decide))]; exact r11
      have r12 : w49 (md 12) = some (.inl (dA 0, 17, .inl (nf (m_cch μ)))) := by rw [ew50, va_up_ne _ _ (hj.ne (i := 12) (j := 36) (by decide) (by decide) (by decide))]; exact r12
      have r13 : w49 (md 13) = some (.inl (dA 0, 17, .inl (nf (m_occh μ)))) := by rw [ew50, va_up_ne _ _ (hj.ne (i := 13) (j := 36) (by decide) (by decide) (by decide))]; exact r13
      have r14 : w49 (md 14) = some (.inl (dA 0, 7, .inl (m_cnt μ))) := by rw [ew50, va_up_ne _ _ (hj.ne (i := 14) (j := 36) (by decide) (by decide) (by decide))]; exact r14
      have r15 : w49 (md 15) = some (.inl (dA 0, 7, .inl (m_ocnt μ))) := by rw [ew50, va_up_ne _ _ (hj.ne (i := 15) (j := 36) (by decide) (by decide) (by decide))]; exact r15
      have r23 : w49 (md 23) = some (.inl (dA 0, 12, .inl (nf (m_st μ)))) := by rw [ew50, va_up_ne _ _ (hj.ne (i := 23) (j := 36) (by decide) (by decide) (by decide))]; exact r23
      have r24 : w49 (md 24) = some (.inl (dA 1, 12, .inr (.inl (m_val μ)))) := by rw [ew50, va_up_ne _ _ (hj.ne (i := 24) (j := 36) (by decide) (by decide) (by decide))]; exact r24
      have r25 : w49 (md 25) = some (.inl (dA 0, 13, .inl (nf (m_key μ)))) := by rw [ew50, va_up_ne _ _ (hj.ne (i := 25) (j := 36) (by decide) (by decide) (by decide))]; exact r25
      have r26 : w49 (md 26) = some (.inl (dA 0, 13, .inl (nf (m_ph μ)))) := by rw [ew50, va_up_ne _ _ (hj.ne (i := 26) (j := 36) (by decide) (by decide) (by decide))]; exact r26
      have r27 : w49 (md 27) = some (.inl (dA 0, 13, .inl (m_chk μ))) := by rw [ew50, va_up_ne _ _ (hj.ne (i := 27) (j := 36) (by decide) (by decide) (by decide))]; exact r27
      have r28 : w49 (md 28) = some (.inl (dA 0, 13, .inl (nf (m_at μ)))) := by rw [ew50, va_up_ne _ _ (hj.ne (i := 28) (j := 36) (by decide) (by decide) (by decide))]; exact r28
      have r29 : w49 (md 29) = some (.inl (dA 0, 208, .inl (nf (m_cand μ)))) := by rw [ew50, va_up_ne _ _ (hj.ne (i := 29) (j := 36) (by decide) (by decide) (by decide))]; exact r29
      have r30 : w49 (md 30) = some (.inl (dA 0, 13, .inl (nf (m_cc μ)))) := by rw [ew50, va_up_ne _ _ (hj.ne (i := 30) (j := 36) (by decide) (by decide) (by decide))]; exact r30
      have r31 : w49 (md 31) = some (.inl (dA 0, 13, .inl (nf (m_mk μ)))) := by rw [ew50, va_up_ne _ _ (hj.ne (i := 31) (j := 36) (by decide) (by decide) (by decide))]; exact r31
      have r32 : w49 (md 32) = some (.inl (dA 0, 13, .inl (nf (m_asked μ)))) := by rw [ew50, va_up_ne _ _ (hj.ne (i := 32) (j := 36) (by decide) (by decide) (by decide))]; exact r32
      have r33 : w49 (md 33) = some (.inl (dA 1, 13, .inr (.inl (m_first μ)))) := by rw [ew50, va_up_ne _ _ (hj.ne (i := 33) (j := 36) (by decide) (by decide) (by decide))]; exact r33
      have r34 : w49 (md 34) = some (.inl (dA 1, 13, .inr (.inl (m_sum μ)))) := by rw [ew50, va_up_ne _ _ (hj.ne (i := 34) (j := 36) (by decide) (by decide) (by decide))]; exact r34
      have r36 : w49 (md 36) = some (.inr (5, [.ref (md 0), .ref (md 1), .ref (md 2), .ref (md 3), .ref (md 4), .ref (md 5), .ref (md 6), .ref (md 7), .ref (md 8), .ref (md 9), .ref (md 10), .ref (md 11), .ref (md 12), .ref (md 13), .ref (md 14), .ref (md 15), .int (nI (m_cached μ)), .int (nI (m_ocached μ)), .int ((m_circ μ) + (nI 1)), .int (m_ocirc μ), .int (nI 4), .int (nI (m_wkr μ)), .int (nI (m_ran μ).toNat), .ref (md 23), .ref (md 24), .ref (md 25), .ref (md 26), .ref (md 27), .ref (md 28), .ref (md 29), .ref (md 30), .ref (md 31), .ref (md 32), .ref (md 33), .ref (md 34), .int (nI (m_hgt μ))])) := by rw [ew50]; exact va_up_self _ _ _
      have ho51 : OutD md w w49 := OutD.up ho48 ew50 (by decide)
      refine lv_iconst (v := (nI 0)) hx hb d_D_ask_37 (by decide) ?_
      exact W.zret (v := (nI 0)) hx hb hr (by decide) (fun tS ht hW => ⟨⟨(nI 0), w49, rfl, ⟨by unfold dAskB; rw [if_neg c1, if_pos c2]; rfl, (by rw [show dAsk k μ = (((m_sort μ), (m_rule μ), m_parts μ, m_inp μ), ((m_size μ), (m_keys μ), (m_own μ), m_got μ, m_came μ), (m_trc μ, (m_cch μ), m_cached μ, m_cnt μ, ((m_circ μ) + (nI 1))), (m_otrc μ, (m_occh μ), m_ocached μ, m_ocnt μ, (m_ocirc μ)), (4, m_wkr μ, (m_ran μ), (m_st μ), m_val μ), ((m_key μ), (m_ph μ), m_chk μ, (m_at μ), (m_cand μ), (m_cc μ), (m_mk μ), (m_asked μ), m_first μ, m_sum μ, m_hgt μ)) from (by unfold dAsk; rw [if_neg c1, if_pos c2] <;> rfl)]; exact ⟨⟨r36, r0, r1, r2, r3, r4, r5, r6, r7, r8, ⟨_, r9⟩, r10, r11, r12, r13, r14, r15, r23, r24, r25, r26, r27, r28, r29, r30, r31, r32, r33, r34⟩, ho51⟩)⟩, mB_of ht hP⟩, hS.F ht⟩) hS.2.2 d_D_ask_38
  · refine lv_iconst (v := (nI 1)) hx hb d_D_ask_10 (by decide) ?_
    exact W.zret (v := (nI 1)) hx hb hr (by decide) (fun tS ht hW => ⟨⟨(nI 1), w, rfl, ⟨by unfold dAskB; rw [if_pos c1]; rfl, (by rw [show dAsk k μ = (((m_sort μ), (m_rule μ), m_parts μ, m_inp μ), ((m_size μ), (m_keys μ), (m_own μ), m_got μ, m_came μ), (m_trc μ, (m_cch μ), m_cached μ, m_cnt μ, (m_circ μ)), (m_otrc μ, (m_occh μ), m_ocached μ, m_ocnt μ, (m_ocirc μ)), (m_thr μ, m_wkr μ, (m_ran μ), (m_st μ), m_val μ), ((m_key μ), (m_ph μ), m_chk μ, (m_at μ), (m_cand μ), (m_cc μ), (m_mk μ), (m_asked μ), m_first μ, m_sum μ, m_hgt μ)) from (by unfold dAsk; rw [if_pos c1] <;> rfl)]; exact ⟨⟨r36, r0, r1, r2, r3, r4, r5, r6, r7, r8, ⟨_, r9⟩, r10, r11, r12, r13, r14, r15, r23, r24, r25, r26, r27, r28, r29, r30, r31, r32, r33, r34⟩, OutD.rf⟩)⟩, mB_of ht hP⟩, hS.F ht⟩) hS.2.2 d_D_ask_11
