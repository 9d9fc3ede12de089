theorem vu_same {α : Type} (f : Nat → α) (a : Nat) {v : α} (h : f a = v) : va_up f a v = f := by
  funext z
  unfold va_up
  by_cases e : z = a
  · rw [if_pos e, e, h]
  · rw [if_neg e]
theorem vu_up {α : Type} (f : Nat → α) (a : Nat) (v v2 : α) : va_up (va_up f a v) a v2 = va_up f a v2 := by
  funext z
  unfold va_up
  by_cases e : z = a
  · rw [if_pos e, if_pos e]
  · rw [if_neg e, if_neg e, if_neg e]
theorem lstN_w {x : Nat → Nat} {b n v : Nat} : lstN (fun j => va_up x (b + n) v (b + j)) (n + 1) = lstN (fun j => x (b + j)) n ++ [v] := by
  rw [lstN_s]
  congr 1
  · exact lstN_ext (fun i hi => va_up_ne _ _ (by omega))
  · rw [va_up_self]
/-- the candidates of frame f, when nextCandidate has looked -/
def FillR (μ : MS) (f : Nat) (x : Nat → Nat) (c : Nat) : Prop := (m_ph μ f = 1 → lstN (fun j => x (16 * f + j)) c = (lstN (m_cch μ) (m_cached μ)).filter (fun t => m_own μ t == m_key μ f)) ∧ (m_ph μ f ≠ 1 → x = m_cand μ ∧ c = m_cc μ f) ∧ c ≤ 16 ∧ (∀ z, z < 16 * f ∨ 16 * f + 16 ≤ z → x z = m_cand μ z)
def dPre (f : Nat) (x : Nat → Nat) (c : Nat) (μ : MS) : MS := u_fr μ (m_key μ, va_up (m_ph μ) f 2, m_chk μ, va_up (m_at μ) f 0, x, va_up (m_cc μ) f c, m_mk μ, m_asked μ, m_first μ, m_sum μ, m_hgt μ)
def dCand (f : Nat) (x : Nat → Nat) (c : Nat) (μ : MS) : MS := u_fr μ (m_key μ, va_up (m_ph μ) f 2, upd (m_chk μ) f (nI (x (16 * f + (c - 1)))), va_up (m_at μ) f 0, x, va_up (m_cc μ) f (c - 1), va_up (m_mk μ) f (x (16 * f + (c - 1))), m_asked μ, m_first μ, m_sum μ, m_hgt μ)
def dRun (f : Nat) (x : Nat → Nat) (t : Nat) (μ : MS) : MS := u_fr (u_se (u_sl μ (va_up (m_size μ) t 0, m_keys μ, va_up (m_own μ) t (m_key μ f), m_got μ, m_came μ)) (m_thr μ, m_wkr μ, true, m_st μ, m_val μ)) (m_key μ, va_up (m_ph μ) f 3, m_chk μ, va_up (m_at μ) f 0, x, va_up (m_cc μ) f 0, va_up (m_mk μ) f t, va_up (m_asked μ) f 0, m_first μ, vp_updL (m_sum μ) f (if m_rule μ (m_key μ f) = 1 then 1 else 0), m_hgt μ)
def NxR (dA : Nat → ClassId) (md : Nat → Nat) (w : fw_W) (μ : MS) (f : Nat) : Prop := ∃ (x : Nat → Nat) (c : Nat), FillR μ f x c ∧ ((0 < c ∧ RD dA md w (dCand f x c μ)) ∨ (c = 0 ∧ ∃ t, t < 320 ∧ t ∉ marks (dPre f x 0 μ) ∧ RD dA md w (dRun f x t μ)))
/-- what nextCandidate wants -/
def nOK (μ : MS) (f : Nat) : Prop := sOK μ ∧ f < m_hgt μ ∧ m_key μ f < 12 ∧ m_rule μ (m_key μ f) < 10 ∧ (m_ph μ f = 1 ∨ m_ph μ f = 2) ∧ (m_ph μ f = 1 → m_cc μ f = 0) ∧ m_cached μ ≤ 16 ∧ (∀ i, i < m_cached μ → m_own μ (m_cch μ i) < 12) ∧ m_mk μ f < 320
theorem nOK.pre {μ : MS} {f : Nat} (h : nOK μ f) {x : Nat → Nat} (hx : ∀ z, z < 16 * f ∨ 16 * f + 16 ≤ z → x z = m_cand μ z) : sOK (dPre f x 0 μ) := by
  obtain ⟨⟨o1, o2, o3, o4, o5, o6, o7⟩, n1, n2, n3, n4, n5, n6, n7, n8⟩ := h
  refine ⟨o1, o2, o3, o4, o5, o6, fun j hj => ?_⟩
  by_cases e : j = f
  · subst e
    refine ⟨?_, ?_, fun i hi => ?_, fun _ => n8⟩
    · show va_up (m_cc μ) j 0 j ≤ 16
      rw [va_up_self]; omega
    · show va_up (m_ph μ) j 2 j < 4
      rw [va_up_self]; omega
    · have hi9 : i < va_up (m_cc μ) j 0 j := hi
      rw [va_up_self] at hi9; omega
  · obtain ⟨a, b, c, d⟩ := o7 j hj
    refine ⟨?_, ?_, fun i hi => ?_, fun h9 => ?_⟩
    · show va_up (m_cc μ) f 0 j ≤ 16
      rw [va_up_ne _ _ e]; exact a
    · show va_up (m_ph μ) f 2 j < 4
      rw [va_up_ne _ _ e]; exact b
    · have hi9 : i < va_up (m_cc μ) f 0 j := hi
      rw [va_up_ne _ _ e] at hi9
      show x (16 * j + i) < 320
      rw [hx _ (by omega)]
      exact c i hi9
    · have h8 : 1 < va_up (m_ph μ) f 2 j := h9
      rw [va_up_ne _ _ e] at h8
      exact d h8
set_option maxHeartbeats 4000000 in
set_option maxRecDepth 100000 in
theorem c_D_nextCandidate {l : Launch} {s0 : State} {dC : Nat → ClassId} {dI : Nat → Nat → Nat} {dA : Nat → ClassId} (B0 : BB s0 dC dI dA) (w : fw_W) (md : Nat → Nat) (μ : MS) (f : Nat) (hj : Inj37 md) (hD : RD dA md w μ) (hok : nOK μ f) : Met l y_D_nextCandidate [.code y_D_nextCandidate b_D_nextCandidate 4 none] ({ frames := 1, cells := 0, slots := 0, locals := 40 }) (mP s0 dC dI w [.ref (md 36), .int (nI f)]) (mQv s0 dC dI (fun w' => NxR dA md w' μ f ∧ OutD md w w')) 0 0 (AA s0) := by
  obtain ⟨hsok, n1, n2, n3, n4, n5, n6, n7, n8⟩ := (id hok)
  have n7b := n7
  obtain ⟨o1, o2, o3, o4, o5, o6, o7⟩ := (id hsok)
  have o4b := o4
  refine mt_ofW B0 (by decide) (Nat.le_of_ble_eq_true rfl) (fun p e s m args below meth c ls hargs X hin hl hP => ?_)
  have X9 := X
  obtain ⟨hx, hb, hr, hml, hown, hg, hK, hn, hE, hlocks, hA⟩ := X9
  have hS : va_S (AA s0) s.heap s.heap [] := va_S.rf
  have hl : lv_has ls 4 [(0, .ref (md 36)), (1, .int (nI f))] := hl
  obtain ⟨r36, r0, r1, r2, r3, r4, r5, r6, r7, r8, ⟨u, r9⟩, r10, r11, r12, r13, r14, r15, r23, r24, r25, r26, r27, r28, r29, r30, r31, r32, r33, r34⟩ := (id hD)
  refine lv_aload_n hx hb d_D_nextCandidate_0 rfl (lv_at hl 0 rfl) ?_
  refine va_get (D := (dC, dI)) (ci := 5) (v := .ref (md 25)) (C := R_D) (T := F_D) (N := 36) hx hb hg in_D hown hK (hP.one r36) 0 rfl rfl 25 (by decide) (hg _ k_616) (fun _ h9 => h9) rfl d_D_nextCandidate_1 ?_
  refine lv_iload_n hx hb d_D_nextCandidate_4 rfl (lv_at hl 1 rfl) ?_
  refine fw_iald (tys := tyl dA) hx hb hK hP r25 0 rfl (j := f) (by omega) (by decide) d_D_nextCandidate_5 ?_
  refine lv_istore_n (lv' := [(2, .int (nI ((m_key μ) f))), (0, .ref (md 36)), (1, .int (nI f))]) hx hb d_D_nextCandidate_6 rfl hl (by decide) rfl (fun ls hl => ?_)
  refine lv_aload_n hx hb d_D_nextCandidate_7 rfl (lv_at hl 1 rfl) ?_
  refine va_get (D := (dC, dI)) (ci := 5) (v := .ref (md 26)) (C := R_D) (T := F_D) (N := 36) hx hb hg in_D hown hK (hP.one r36) 0 rfl rfl 26 (by decide) (hg _ k_617) (fun _ h9 => h9) rfl d_D_nextCandidate_8 ?_
  refine lv_iload_n hx hb d_D_nextCandidate_11 rfl (lv_at hl 2 rfl) ?_
  refine fw_iald (tys := tyl dA) hx hb hK hP r26 0 rfl (j := f) (by omega) (by decide) d_D_nextCandidate_12 ?_
  refine lv_iconst (v := (nI 1)) hx hb d_D_nextCandidate_13 (by decide) ?_
  refine nu_ne (tgt := 90) hx hb (by omega) (by omega) d_D_nextCandidate_14 (by decide) (fun c1 => ?_) (fun c1 => ?_)
  · have hp2 : m_ph μ f = 2 := by omega
    have hX : ∃ (x : Nat → Nat) (c9 : Nat), x = m_cand μ ∧ c9 = m_cc μ f := ⟨_, _, rfl, rfl⟩
    obtain ⟨x, c9, hx9, hc9⟩ := hX
    have q7 := (o7 f n1).1
    have r26 : w (md 26) = some (.inl (dA 0, 13, .inl (nf (va_up (m_ph μ) f 2)))) := by rw [vu_same (m_ph μ) f hp2]; exact r26
    have r29 : w (md 29) = some (.inl (dA 0, 208, .inl (nf x))) := by rw [hx9]; exact r29
    have r30 : w (md 30) = some (.inl (dA 0, 13, .inl (nf (va_up (m_cc μ) f c9)))) := by rw [vu_same (m_cc μ) f hc9.symm]; exact r30
    have hF : FillR μ f x c9 := ⟨fun h9 => absurd h9 c1, fun _ => ⟨hx9, hc9⟩, by omega, fun z _ => by rw [hx9]⟩
    refine lv_aload_n hx hb d_D_nextCandidate_90 rfl (lv_at hl 1 rfl) ?_
    refine va_get (D := (dC, dI)) (ci := 5) (v := .ref (md 28)) (C := R_D) (T := F_D) (N := 36) hx hb hg in_D hown hK (hP.one r36) 0 rfl rfl 28 (by decide) (hg _ k_619) (fun _ h9 => h9) rfl d_D_nextCandidate_91 ?_
    refine lv_iload_n hx hb d_D_nextCandidate_94 rfl (lv_at hl 2 rfl) ?_
    refine lv_iconst (v := (nI 0)) hx hb d_D_nextCandidate_95 (by decide) ?_
    refine fw_iast (tys := tyl dA) hx hb hK hP hS r28 0 rfl (j := f) (x := (nI 0)) (by omega) (by decide) d_D_nextCandidate_96 (fun w1 H locs ew2 hP hS => ?_)
    rw [nf_up] at ew2
    have r28 : w1 (md 28) = some (.inl (dA 0, 13, .inl (nf (va_up (m_at μ) f 0)))) := by rw [ew2]; exact va_up_self _ _ _
    have ho3 : OutD md w w1 := OutD.up OutD.rf ew2 (by decide)
    refine lv_aload_n hx hb d_D_nextCandidate_97 rfl (lv_at hl 1 rfl) ?_
    have r36 : w1 (md 36) = some (.inr (5, [.ref (md 0), .ref (md 1), .ref (md 2), .ref (md 3), .ref (md 4), .ref (md 5), .ref (md 6), .ref (md 7), .ref (md 8), .ref (md 9), .ref (md 10), .ref (md 11), .ref (md 12), .ref (md 13), .ref (md 14), .ref (md 15), .int (nI (m_cached μ)), .int (nI (m_ocached μ)), .int (m_circ μ), .int (m_ocirc μ), .int (nI (m_thr μ)), .int (nI (m_wkr μ)), .int (nI (m_ran μ).toNat), .ref (md 23), .ref (md 24), .ref (md 25), .ref (md 26), .ref (md 27), .ref (md 28), .ref (md 29), .ref (md 30), .ref (md 31), .ref (md 32), .ref (md 33), .ref (md 34), .int (nI (m_hgt μ))])) := by rw [ew2, va_up_ne _ _ (hj.ne (i := 36) (j := 28) (by decide) (by decide) (by decide))]; exact r36
    refine va_get (D := (dC, dI)) (ci := 5) (v := .ref (md 30)) (C := R_D) (T := F_D) (N := 36) hx hb hg in_D hown hK (hP.one r36) 0 rfl rfl 30 (by decide) (hg _ k_621) (fun _ h9 => h9) rfl d_D_nextCandidate_98 ?_
    refine lv_iload_n hx hb d_D_nextCandidate_101 rfl (lv_at hl 2 rfl) ?_
    have r30 : w1 (md 30) = some (.inl (dA 0, 13, .inl (nf (va_up (m_cc μ) f c9)))) := by rw [ew2, va_up_ne _ _ (hj.ne (i := 30) (j := 28) (by decide) (by decide) (by decide))]; exact r30
    refine fw_iald (tys := tyl dA) hx hb hK hP r30 0 rfl (j := f) (by omega) (by decide) d_D_nextCandidate_102 ?_
    rw [show nf (va_up (m_cc μ) f c9) f = nI c9 from congrArg nI (va_up_self _ _ _)]
    refine nu_zle (tgt := 151) hx hb (by omega) d_D_nextCandidate_103 (by decide) (fun c2 => ?_) (fun c2 => ?_)
    · refine lv_aload_n hx hb d_D_nextCandidate_151 rfl (lv_at hl 1 rfl) ?_
      have hk4 : ∀ i, U37 i → i ∉ [28] → w1 (md i) = w (md i) := fun i hi hn => by rw [ew2, va_up_ne _ _ (hj.ne hi (j := 28) (by decide) (fun e9 => hn (by rw [e9]; decide)))]
      have hRq : RD dA md w1 (dPre f x c9 μ) := ⟨r36, (hk4 0 (by decide) (by decide)).trans r0, (hk4 1 (by decide) (by decide)).trans r1, (hk4 2 (by decide) (by decide)).trans r2, (hk4 3 (by decide) (by decide)).trans r3, (hk4 4 (by decide) (by decide)).trans r4, (hk4 5 (by decide) (by decide)).trans r5, (hk4 6 (by decide) (by decide)).trans r6, (hk4 7 (by decide) (by decide)).trans r7, (hk4 8 (by decide) (by decide)).trans r8, ⟨_, (hk4 9 (by decide) (by decide)).trans r9⟩, (hk4 10 (by decide) (by decide)).trans r10, (hk4 11 (by decide) (by decide)).trans r11, (hk4 12 (by decide) (by decide)).trans r12, (hk4 13 (by decide) (by decide)).trans r13, (hk4 14 (by decide) (by decide)).trans r14, (hk4 15 (by decide) (by decide)).trans r15, (hk4 23 (by decide) (by decide)).trans r23, (hk4 24 (by decide) (by decide)).trans r24, (hk4 25 (by decide) (by decide)).trans r25, (hk4 26 (by decide) (by decide)).trans r26, (hk4 27 (by decide) (by decide)).trans r27, r28, (hk4 29 (by decide) (by decide)).trans r29, r30, (hk4 31 (by decide) (by decide)).trans r31, (hk4 32 (by decide) (by decide)).trans r32, (hk4 33 (by decide) (by decide)).trans r33, (hk4 34 (by decide) (by decide)).trans r34⟩
      rw [c2] at hRq
      have hF0 : FillR μ f x 0 := by rw [← c2]; exact hF
      refine va_calli (rn_V (n := 0) (As := []) (rest := []) (C := R_D) (T := F_D) (N := 36) (ci := 5) X hP hS (c_D_freeTrace B0 w1 md (dPre f x 0 μ) hj hRq (hok.pre hF.2.2.2)) k_775 k_777 k_50 k_58 k_778 (by decide +kernel) rfl rfl ⟨Nat.le_of_ble_eq_true rfl, Nat.le_of_ble_eq_true rfl⟩ r36 rfl rfl hl.1 rfl (Nat.le_of_ble_eq_true rfl) d_D_nextCandidate_152 ⟨Nat.le_of_ble_eq_true rfl, Nat.le_of_ble_eq_true rfl⟩) hS (fun q _ h => h) (fun q h => h) (fun r w5 tS H locs ht hvm hw hB hz1 hk1 hS => ?_)
      have hP : fw_P (dC, dI) cls_ (AA s0) w5 H := by rw [← ht]; exact hB
      obtain ⟨t, rfl, ht9, hnm, hRt, hot⟩ := hw
      have ho6 : OutD md w w5 := (OutD.tr ho3 hot)
      obtain ⟨r36, r0, r1, r2, r3, r4, r5, r6, r7, r8, ⟨u2, r9⟩, r10, r11, r12, r13, r14, r15, r23, r24, r25, r26, r27, r28, r29, r30, r31, r32, r33, r34⟩ := (id hRt)
      refine lv_istore_n (lv' := [(3, .int (nI t)), (2, .int (nI ((m_key μ) f))), (0, .ref (md 36)), (1, .int (nI f))]) hx hb d_D_nextCandidate_155 rfl hl (by decide) rfl (fun ls hl => ?_)
      refine lv_aload_n hx hb d_D_nextCandidate_156 rfl (lv_at hl 2 rfl) ?_
      have r36 : w5 (md 36) = some (.inr (5, [.ref (md 0), .ref (md 1), .ref (md 2), .ref (md 3), .ref (md 4), .ref (md 5), .ref (md 6), .ref (md 7), .ref (md 8), .ref (md 9), .ref (md 10), .ref (md 11), .ref (md 12), .ref (md 13), .ref (md 14), .ref (md 15), .int (nI (m_cached μ)), .int (nI (m_ocached μ)), .int (m_circ μ), .int (m_ocirc μ), .int (nI (m_thr μ)), .int (nI (m_wkr μ)), .int (nI (m_ran μ).toNat), .ref (md 23), .ref (md 24), .ref (md 25), .ref (md 26), .ref (md 27), .ref (md 28), .ref (md 29), .ref (md 30), .ref (md 31), .ref (md 32), .ref (md 33), .ref (md 34), .int (nI (m_hgt μ))])) := r36
      refine va_get (D := (dC, dI)) (ci := 5) (v := .ref (md 26)) (C := R_D) (T := F_D) (N := 36) hx hb hg in_D hown hK (hP.one r36) 0 rfl rfl 26 (by decide) (hg _ k_617) (fun _ h9 => h9) rfl d_D_nextCandidate_157 ?_
      refine lv_iload_n hx hb d_D_nextCandidate_160 rfl (lv_at hl 3 rfl) ?_
      refine lv_iconst (v := (nI 3)) hx hb d_D_nextCandidate_161 (by decide) ?_
      have r26 : w5 (md 26) = some (.inl (dA 0, 13, .inl (nf (va_up (m_ph μ) f 2)))) := r26
      refine fw_iast (tys := tyl dA) hx hb hK hP hS r26 0 rfl (j := f) (x := (nI 3)) (by omega) (by decide) d_D_nextCandidate_162 (fun w7 H locs ew8 hP hS => ?_)
      rw [nf_up] at ew8
      have r26 : w7 (md 26) = some (.inl (dA 0, 13, .inl (nf (va_up (va_up (m_ph μ) f 2) f 3)))) := by rw [ew8]; exact va_up_self _ _ _
      have ho9 : OutD md w w7 := OutD.up ho6 ew8 (by decide)
      refine lv_aload_n hx hb d_D_nextCandidate_163 rfl (lv_at hl 2 rfl) ?_
      have r36 : w7 (md 36) = some (.inr (5, [.ref (md 0), .ref (md 1), .ref (md 2), .ref (md 3), .ref (md 4), .ref (md 5), .ref (md 6), .ref (md 7), .ref (md 8), .ref (md 9), .ref (md 10), .ref (md 11), .ref (md 12), .ref (md 13), .ref (md 14), .ref (md 15), .int (nI (m_cached μ)), .int (nI (m_ocached μ)), .int (m_circ μ), .int (m_ocirc μ), .int (nI (m_thr μ)), .int (nI (m_wkr μ)), .int (nI (m_ran μ).toNat), .ref (md 23), .ref (md 24), .ref (md 25), .ref (md 26), .ref (md 27), .ref (md 28), .ref (md 29), .ref (md 30), .ref (md 31), .ref (md 32), .ref (md 33), .ref (md 34), .int (nI (m_hgt μ))])) := by rw [ew8, va_up_ne _ _ (hj.ne (i := 36) (j := 26) (by decide) (by decide) (by decide))]; exact r36
      refine va_get (D := (dC, dI)) (ci := 5) (v := .ref (md 31)) (C := R_D) (T := F_D) (N := 36) hx hb hg in_D hown hK (hP.one r36) 0 rfl rfl 31 (by decide) (hg _ k_622) (fun _ h9 => h9) rfl d_D_nextCandidate_164 ?_
      refine lv_iload_n hx hb d_D_nextCandidate_167 rfl (lv_at hl 3 rfl) ?_
      refine lv_iload_n hx hb d_D_nextCandidate_168 rfl (lv_at hl 0 rfl) ?_
      have r31 : w7 (md 31) = some (.inl (dA 0, 13, .inl (nf (m_mk μ)))) := by rw [ew8, va_up_ne _ _ (hj.ne (i := 31) (j := 26) (by decide) (by decide) (by decide))]; exact r31
      refine fw_iast (tys := tyl dA) hx hb hK hP hS r31 0 rfl (j := f) (x := (nI t)) (by omega) (by decide) d_D_nextCandidate_169 (fun w10 H locs ew11 hP hS => ?_)
      rw [nf_up] at ew11
      have r31 : w10 (md 31) = some (.inl (dA 0, 13, .inl (nf (va_up (m_mk μ) f t)))) := by rw [ew11]; exact va_up_self _ _ _
      have ho12 : OutD md w w10 := OutD.up ho9 ew11 (by decide)
      refine lv_aload_n hx hb d_D_nextCandidate_170 rfl (lv_at hl 2 rfl) ?_
      have r36 : w10 (md 36) = some (.inr (5, [.ref (md 0), .ref (md 1), .ref (md 2), .ref (md 3), .ref (md 4), .ref (md 5), .ref (md 6), .ref (md 7), .ref (md 8), .ref (md 9), .ref (md 10), .ref (md 11), .ref (md 12), .ref (md 13), .ref (md 14), .ref (md 15), .int (nI (m_cached μ)), .int (nI (m_ocached μ)), .int (m_circ μ), .int (m_ocirc μ), .int (nI (m_thr μ)), .int (nI (m_wkr μ)), .int (nI (m_ran μ).toNat), .ref (md 23), .ref (md 24), .ref (md 25), .ref (md 26), .ref (md 27), .ref (md 28), .ref (md 29), .ref (md 30), .ref (md 31), .ref (md 32), .ref (md 33), .ref (md 34), .int (nI (m_hgt μ))])) := by rw [ew11, va_up_ne _ _ (hj.ne (i := 36) (j := 31) (by decide) (by decide) (by decide))]; exact r36
      refine va_get (D := (dC, dI)) (ci := 5) (v := .ref (md 4)) (C := R_D) (T := F_D) (N := 36) hx hb hg in_D hown hK (hP.one r36) 0 rfl rfl 4 (by decide) (hg _ k_595) (fun _ h9 => h9) rfl d_D_nextCandidate_171 ?_
      refine lv_iload_n hx hb d_D_nextCandidate_174 rfl (lv_at hl 0 rfl) ?_
      refine lv_iconst (v := (nI 0)) hx hb d_D_nextCandidate_175 (by decide) ?_
      have r4 : w10 (md 4) = some (.inl (dA 0, 320, .inl (nf (m_size μ)))) := by rw [ew11, va_up_ne _ _ (hj.ne (i := 4) (j := 31) (by decide) (by decide) (by decide)), ew8, va_up_ne _ _ (hj.ne (i := 4) (j := 26) (by decide) (by decide) (by decide))]; exact r4
      refine fw_iast (tys := tyl dA) hx hb hK hP hS r4 0 rfl (j := t) (x := (nI 0)) ht9 (by decide) d_D_nextCandidate_176 (fun w13 H locs ew14 hP hS => ?_)
      rw [nf_up] at ew14
      have r4 : w13 (md 4) = some (.inl (dA 0, 320, .inl (nf (va_up (m_size μ) t 0)))) := by rw [ew14]; exact va_up_self _ _ _
      have ho15 : OutD md w w13 := OutD.up ho12 ew14 (by decide)
      refine lv_aload_n hx hb d_D_nextCandidate_177 rfl (lv_at hl 2 rfl) ?_
      have r36 : w13 (md 36) = some (.inr (5, [.ref (md 0), .ref (md 1), .ref (md 2), .ref (md 3), .ref (md 4), .ref (md 5), .ref (md 6), .ref (md 7), .ref (md 8), .ref (md 9), .ref (md 10), .ref (md 11), .ref (md 12), .ref (md 13), .ref (md 14), .ref (md 15), .int (nI (m_cached μ)), .int (nI (m_ocached μ)), .int (m_circ μ), .int (m_ocirc μ), .int (nI (m_thr μ)), .int (nI (m_wkr μ)), .int (nI (m_ran μ).toNat), .ref (md 23), .ref (md 24), .ref (md 25), .ref (md 26), .ref (md 27), .ref (md 28), .ref (md 29), .ref (md 30), .ref (md 31), .ref (md 32), .ref (md 33), .ref (md 34), .int (nI (m_hgt μ))])) := by rw [ew14, va_up_ne _ _ (hj.ne (i := 36) (j := 4) (by decide) (by decide) (by decide))]; exact r36
      refine va_get (D := (dC, dI)) (ci := 5) (v := .ref (md 6)) (C := R_D) (T := F_D) (N := 36) hx hb hg in_D hown hK (hP.one r36) 0 rfl rfl 6 (by decide) (hg _ k_597) (fun _ h9 => h9) rfl d_D_nextCandidate_178 ?_
      refine lv_iload_n hx hb d_D_nextCandidate_181 rfl (lv_at hl 0 rfl) ?_
      refine lv_iload_n hx hb d_D_nextCandidate_182 rfl (lv_at hl 1 rfl) ?_
      have r6 : w13 (md 6) = some (.inl (dA 0, 320, .inl (nf (m_own μ)))) := by rw [ew14, va_up_ne _ _ (hj.ne (i := 6) (j := 4) (by decide) (by decide) (by decide)), ew11, va_up_ne _ _ (hj.ne (i := 6) (j := 31) (by decide) (by decide) (by decide)), ew8, va_up_ne _ _ (hj.ne (i := 6) (j := 26) (by decide) (by decide) (by decide))]; exact r6
      refine fw_iast (tys := tyl dA) hx hb hK hP hS r6 0 rfl (j := t) (x := (nI ((m_key μ) f))) ht9 (by decide) d_D_nextCandidate_183 (fun w16 H locs ew17 hP hS => ?_)
      rw [nf_up] at ew17
      have r6 : w16 (md 6) = some (.inl (dA 0, 320, .inl (nf (va_up (m_own μ) t ((m_key μ) f))))) := by rw [ew17]; exact va_up_self _ _ _
      have ho18 : OutD md w w16 := OutD.up ho15 ew17 (by decide)
      refine lv_aload_n hx hb d_D_nextCandidate_184 rfl (lv_at hl 2 rfl) ?_
      have r36 : w16 (md 36) = some (.inr (5, [.ref (md 0), .ref (md 1), .ref (md 2), .ref (md 3), .ref (md 4), .ref (md 5), .ref (md 6), .ref (md 7), .ref (md 8), .ref (md 9), .ref (md 10), .ref (md 11), .ref (md 12), .ref (md 13), .ref (md 14), .ref (md 15), .int (nI (m_cached μ)), .int (nI (m_ocached μ)), .int (m_circ μ), .int (m_ocirc μ), .int (nI (m_thr μ)), .int (nI (m_wkr μ)), .int (nI (m_ran μ).toNat), .ref (md 23), .ref (md 24), .ref (md 25), .ref (md 26), .ref (md 27), .ref (md 28), .ref (md 29), .ref (md 30), .ref (md 31), .ref (md 32), .ref (md 33), .ref (md 34), .int (nI (m_hgt μ))])) := by rw [ew17, va_up_ne _ _ (hj.ne (i := 36) (j := 6) (by decide) (by decide) (by decide))]; exact r36
      refine va_get (D := (dC, dI)) (ci := 5) (v := .ref (md 32)) (C := R_D) (T := F_D) (N := 36) hx hb hg in_D hown hK (hP.one r36) 0 rfl rfl 32 (by decide) (hg _ k_623) (fun _ h9 => h9) rfl d_D_nextCandidate_185 ?_
      refine lv_iload_n hx hb d_D_nextCandidate_188 rfl (lv_at hl 3 rfl) ?_
      refine lv_iconst (v := (nI 0)) hx hb d_D_nextCandidate_189 (by decide) ?_
      have r32 : w16 (md 32) = some (.inl (dA 0, 13, .inl (nf (m_asked μ)))) := by rw [ew17, va_up_ne _ _ (hj.ne (i := 32) (j := 6) (by decide) (by decide) (by decide)), ew14, va_up_ne _ _ (hj.ne (i := 32) (j := 4) (by decide) (by decide) (by decide)), ew11, va_up_ne _ _ (hj.ne (i := 32) (j := 31) (by decide) (by decide) (by decide)), ew8, va_up_ne _ _ (hj.ne (i := 32) (j := 26) (by decide) (by decide) (by decide))]; exact r32
      refine fw_iast (tys := tyl dA) hx hb hK hP hS r32 0 rfl (j := f) (x := (nI 0)) (by omega) (by decide) d_D_nextCandidate_190 (fun w19 H locs ew20 hP hS => ?_)
      rw [nf_up] at ew20
      have r32 : w19 (md 32) = some (.inl (dA 0, 13, .inl (nf (va_up (m_asked μ) f 0)))) := by rw [ew20]; exact va_up_self _ _ _
      have ho21 : OutD md w w19 := OutD.up ho18 ew20 (by decide)
      refine lv_aload_n hx hb d_D_nextCandidate_191 rfl (lv_at hl 2 rfl) ?_
      have r36 : w19 (md 36) = some (.inr (5, [.ref (md 0), .ref (md 1), .ref (md 2), .ref (md 3), .ref (md 4), .ref (md 5), .ref (md 6), .ref (md 7), .ref (md 8), .ref (md 9), .ref (md 10), .ref (md 11), .ref (md 12), .ref (md 13), .ref (md 14), .ref (md 15), .int (nI (m_cached μ)), .int (nI (m_ocached μ)), .int (m_circ μ), .int (m_ocirc μ), .int (nI (m_thr μ)), .int (nI (m_wkr μ)), .int (nI (m_ran μ).toNat), .ref (md 23), .ref (md 24), .ref (md 25), .ref (md 26), .ref (md 27), .ref (md 28), .ref (md 29), .ref (md 30), .ref (md 31), .ref (md 32), .ref (md 33), .ref (md 34), .int (nI (m_hgt μ))])) := by rw [ew20, va_up_ne _ _ (hj.ne (i := 36) (j := 32) (by decide) (by decide) (by decide))]; exact r36
      refine va_get (D := (dC, dI)) (ci := 5) (v := .ref (md 34)) (C := R_D) (T := F_D) (N := 36) hx hb hg in_D hown hK (hP.one r36) 0 rfl rfl 34 (by decide) (hg _ k_625) (fun _ h9 => h9) rfl d_D_nextCandidate_192 ?_
      refine lv_iload_n hx hb d_D_nextCandidate_195 rfl (lv_at hl 3 rfl) ?_
      refine lv_aload_n hx hb d_D_nextCandidate_196 rfl (lv_at hl 2 rfl) ?_
      refine va_get (D := (dC, dI)) (ci := 5) (v := .ref (md 1)) (C := R_D) (T := F_D) (N := 36) hx hb hg in_D hown hK (hP.one r36) 0 rfl rfl 1 (by decide) (hg _ k_592) (fun _ h9 => h9) rfl d_D_nextCandidate_197 ?_
      refine lv_iload_n hx hb d_D_nextCandidate_200 rfl (lv_at hl 1 rfl) ?_
      have r1 : w19 (md 1) = some (.inl (dA 0, 12, .inl (nf (m_rule μ)))) := by rw [ew20, va_up_ne _ _ (hj.ne (i := 1) (j := 32) (by decide) (by decide) (by decide)), ew17, va_up_ne _ _ (hj.ne (i := 1) (j := 6) (by decide) (by decide) (by decide)), ew14, va_up_ne _ _ (hj.ne (i := 1) (j := 4) (by decide) (by decide) (by decide)), ew11, va_up_ne _ _ (hj.ne (i := 1) (j := 31) (by decide) (by decide) (by decide)), ew8, va_up_ne _ _ (hj.ne (i := 1) (j := 26) (by decide) (by decide) (by decide))]; exact r1
      refine fw_iald (tys := tyl dA) hx hb hK hP r1 0 rfl (j := (m_key μ) f) (by omega) (by decide) d_D_nextCandidate_201 ?_
      refine lv_iconst (v := (nI 1)) hx hb d_D_nextCandidate_202 (by decide) ?_
      refine nu_ne (tgt := 210) hx hb (by omega) (by omega) d_D_nextCandidate_203 (by decide) (fun c3 => ?_) (fun c3 => ?_)
      · refine lv_lconst (v := 0) hx hb d_D_nextCandidate_210 (by decide) ?_
        have r34 : w19 (md 34) = some (.inl (dA 1, 13, .inr (.inl (m_sum μ)))) := by rw [ew20, va_up_ne _ _ (hj.ne (i := 34) (j := 32) (by decide) (by decide) (by decide)), ew17, va_up_ne _ _ (hj.ne (i := 34) (j := 6) (by decide) (by decide) (by decide)), ew14, va_up_ne _ _ (hj.ne (i := 34) (j := 4) (by decide) (by decide) (by decide)), ew11, va_up_ne _ _ (hj.ne (i := 34) (j := 31) (by decide) (by decide) (by decide)), ew8, va_up_ne _ _ (hj.ne (i := 34) (j := 26) (by decide) (by decide) (by decide))]; exact r34
        refine fw_last (tys := tyl dA) hx hb hK hP hS r34 1 rfl (j := f) (by omega) (by decide) d_D_nextCandidate_211 (fun w22 H locs ew23 hP hS => ?_)
        have r34 : w22 (md 34) = some (.inl (dA 1, 13, .inr (.inl (vp_updL (m_sum μ) f 0)))) := by rw [ew23]; exact va_up_self _ _ _
        have ho24 : OutD md w w22 := OutD.up ho21 ew23 (by decide)
        refine lv_aload_n hx hb d_D_nextCandidate_212 rfl (lv_at hl 2 rfl) ?_
        refine lv_iconst (v := (nI 1)) hx hb d_D_nextCandidate_213 (by decide) ?_
        have r36 : w22 (md 36) = some (.inr (5, [.ref (md 0), .ref (md 1), .ref (md 2), .ref (md 3), .ref (md 4), .ref (md 5), .ref (md 6), .ref (md 7), .ref (md 8), .ref (md 9), .ref (md 10), .ref (md 11), .ref (md 12), .ref (md 13), .ref (md 14), .ref (md 15), .int (nI (m_cached μ)), .int (nI (m_ocached μ)), .int (m_circ μ), .int (m_ocirc μ), .int (nI (m_thr μ)), .int (nI (m_wkr μ)), .int (nI (m_ran μ).toNat), .ref (md 23), .ref (md 24), .ref (md 25), .ref (md 26), .ref (md 27), .ref (md 28), .ref (md 29), .ref (md 30), .ref (md 31), .ref (md 32), .ref (md 33), .ref (md 34), .int (nI (m_hgt μ))])) := by rw [ew23, va_up_ne _ _ (hj.ne (i := 36) (j := 34) (by decide) (by decide) (by decide))]; exact r36
        refine fw_put (D := (dC, dI)) (ci := 5) (v := .int (nI 1)) (ty := .boolean) (C := R_D) (T := F_D) (N := 36) hx hb hg in_D ft_D ft_D_ok n_D hown hK hP hS r36 rfl 22 (by decide) (hg _ k_613) (fun _ h9 => h9) rfl (by decide +kernel) (by decide) (by decide) (Nat.le_of_ble_eq_true rfl) d_D_nextCandidate_214 (fun w25 H locs ew26 hP hS => ?_)
        have r36 : w25 (md 36) = some (.inr (5, [.ref (md 0), .ref (md 1), .ref (md 2), .ref (md 3), .ref (md 4), .ref (md 5), .ref (md 6), .ref (md 7), .ref (md 8), .ref (md 9), .ref (md 10), .ref (md 11), .ref (md 12), .ref (md 13), .ref (md 14), .ref (md 15), .int (nI (m_cached μ)), .int (nI (m_ocached μ)), .int (m_circ μ), .int (m_ocirc μ), .int (nI (m_thr μ)), .int (nI (m_wkr μ)), .int (nI 1), .ref (md 23), .ref (md 24), .ref (md 25), .ref (md 26), .ref (md 27), .ref (md 28), .ref (md 29), .ref (md 30), .ref (md 31), .ref (md 32), .ref (md 33), .ref (md 34), .int (nI (m_hgt μ))])) := by rw [ew26]; exact va_up_self _ _ _
        have ho27 : OutD md w w25 := OutD.up ho24 ew26 (by decide)
        have r26 : w25 (md 26) = some (.inl (dA 0, 13, .inl (nf (va_up (va_up (m_ph μ) f 2) f 3)))) := by rw [ew26, va_up_ne _ _ (hj.ne (i := 26) (j := 36) (by decide) (by decide) (by decide)), ew23, va_up_ne _ _ (hj.ne (i := 26) (j := 34) (by decide) (by decide) (by decide)), ew20, va_up_ne _ _ (hj.ne (i := 26) (j := 32) (by decide) (by decide) (by decide)), ew17, va_up_ne _ _ (hj.ne (i := 26) (j := 6) (by decide) (by decide) (by decide)), ew14, va_up_ne _ _ (hj.ne (i := 26) (j := 4) (by decide) (by decide) (by decide)), ew11, va_up_ne _ _ (hj.ne (i := 26) (j := 31) (by decide) (by decide) (by decide))]; exact r26
        have r26 : w25 (md 26) = some (.inl (dA 0, 13, .inl (nf (va_up (m_ph μ) f 3)))) := by rw [← vu_up (m_ph μ) f 2 3]; exact r26
        have r34 : w25 (md 34) = some (.inl (dA 1, 13, .inr (.inl (vp_updL (m_sum μ) f 0)))) := by rw [ew26, va_up_ne _ _ (hj.ne (i := 34) (j := 36) (by decide) (by decide) (by decide))]; exact r34
        have r34 : w25 (md 34) = some (.inl (dA 1, 13, .inr (.inl (vp_updL (m_sum μ) f (if m_rule μ (m_key μ f) = 1 then 1 else 0))))) := by rw [if_neg c3]; exact r34
        have hk28 : ∀ i, U37 i → i ∉ [4, 6, 26, 31, 32, 34, 36] → w25 (md i) = w5 (md i) := fun i hi hn => by rw [ew26, va_up_ne _ _ (hj.ne hi (j := 36) (by decide) (fun e9 => hn (by rw [e9]; decide))), ew23, va_up_ne _ _ (hj.ne hi (j := 34) (by decide) (fun e9 => hn (by rw [e9]; decide))), ew20, va_up_ne _ _ (hj.ne hi (j := 32) (by decide) (fun e9 => hn (by rw [e9]; decide))), ew17, va_up_ne _ _ (hj.ne hi (j := 6) (by decide) (fun e9 => hn (by rw [e9]; decide))), ew14, va_up_ne _ _ (hj.ne hi (j := 4) (by decide) (fun e9 => hn (by rw [e9]; decide))), ew11, va_up_ne _ _ (hj.ne hi (j := 31) (by decide) (fun e9 => hn (by rw [e9]; decide))), ew8, va_up_ne _ _ (hj.ne hi (j := 26) (by decide) (fun e9 => hn (by rw [e9]; decide)))]
        have hk29 : ∀ i, U37 i → i ∉ [34, 36] → w25 (md i) = w19 (md i) := fun i hi hn => by rw [ew26, va_up_ne _ _ (hj.ne hi (j := 36) (by decide) (fun e9 => hn (by rw [e9]; decide))), ew23, va_up_ne _ _ (hj.ne hi (j := 34) (by decide) (fun e9 => hn (by rw [e9]; decide)))]
        have hk30 : ∀ i, U37 i → i ∉ [6, 32, 34, 36] → w25 (md i) = w13 (md i) := fun i hi hn => by rw [ew26, va_up_ne _ _ (hj.ne hi (j := 36) (by decide) (fun e9 => hn (by rw [e9]; decide))), ew23, va_up_ne _ _ (hj.ne hi (j := 34) (by decide) (fun e9 => hn (by rw [e9]; decide))), ew20, va_up_ne _ _ (hj.ne hi (j := 32) (by decide) (fun e9 => hn (by rw [e9]; decide))), ew17, va_up_ne _ _ (hj.ne hi (j := 6) (by decide) (fun e9 => hn (by rw [e9]; decide)))]
        have hk31 : ∀ i, U37 i → i ∉ [32, 34, 36] → w25 (md i) = w16 (md i) := fun i hi hn => by rw [ew26, va_up_ne _ _ (hj.ne hi (j := 36) (by decide) (fun e9 => hn (by rw [e9]; decide))), ew23, va_up_ne _ _ (hj.ne hi (j := 34) (by decide) (fun e9 => hn (by rw [e9]; decide))), ew20, va_up_ne _ _ (hj.ne hi (j := 32) (by decide) (fun e9 => hn (by rw [e9]; decide)))]
        have hk32 : ∀ i, U37 i → i ∉ [4, 6, 32, 34, 36] → w25 (md i) = w10 (md i) := fun i hi hn => by rw [ew26, va_up_ne _ _ (hj.ne hi (j := 36) (by decide) (fun e9 => hn (by rw [e9]; decide))), ew23, va_up_ne _ _ (hj.ne hi (j := 34) (by decide) (fun e9 => hn (by rw [e9]; decide))), ew20, va_up_ne _ _ (hj.ne hi (j := 32) (by decide) (fun e9 => hn (by rw [e9]; decide))), ew17, va_up_ne _ _ (hj.ne hi (j := 6) (by decide) (fun e9 => hn (by rw [e9]; decide))), ew14, va_up_ne _ _ (hj.ne hi (j := 4) (by decide) (fun e9 => hn (by rw [e9]; decide)))]
        exact W.vret hx hb hr (fun tS ht hW => ⟨⟨w25, rfl, ⟨⟨x, 0, hF0, Or.inr ⟨rfl, t, ht9, hnm, ⟨r36, (hk28 0 (by decide) (by decide)).trans r0, (hk29 1 (by decide) (by decide)).trans r1, (hk28 2 (by decide) (by decide)).trans r2, (hk28 3 (by decide) (by decide)).trans r3, (hk30 4 (by decide) (by decide)).trans r4, (hk28 5 (by decide) (by decide)).trans r5, (hk31 6 (by decide) (by decide)).trans r6, (hk28 7 (by decide) (by decide)).trans r7, (hk28 8 (by decide) (by decide)).trans r8, ⟨_, (hk28 9 (by decide) (by decide)).trans r9⟩, (hk28 10 (by decide) (by decide)).trans r10, (hk28 11 (by decide) (by decide)).trans r11, (hk28 12 (by decide) (by decide)).trans r12, (hk28 13 (by decide) (by decide)).trans r13, (hk28 14 (by decide) (by decide)).trans r14, (hk28 15 (by decide) (by decide)).trans r15, (hk28 23 (by decide) (by decide)).trans r23, (hk28 24 (by decide) (by decide)).trans r24, (hk28 25 (by decide) (by decide)).trans r25, r26, (hk28 27 (by decide) (by decide)).trans r27, (hk28 28 (by decide) (by decide)).trans r28, (hk28 29 (by decide) (by decide)).trans r29, (hk28 30 (by decide) (by decide)).trans r30, (hk32 31 (by decide) (by decide)).trans r31, (hk29 32 (by decide) (by decide)).trans r32, (hk28 33 (by decide) (by decide)).trans r33, r34⟩⟩⟩, ho27⟩, mB_of ht hP⟩, hS.F ht⟩) hS.2.2 d_D_nextCandidate_217
      · refine lv_lconst (v := 1) hx hb d_D_nextCandidate_206 (by decide) ?_
        refine lv_goto (tgt := 211) hx hb d_D_nextCandidate_207 (by decide) ?_
        have r34 : w19 (md 34) = some (.inl (dA 1, 13, .inr (.inl (m_sum μ)))) := by rw [ew20, va_up_ne _ _ (hj.ne (i := 34) (j := 32) (by decide) (by decide) (by decide)), ew17, va_up_ne _ _ (hj.ne (i := 34) (j := 6) (by decide) (by decide) (by decide)), ew14, va_up_ne _ _ (hj.ne (i := 34) (j := 4) (by decide) (by decide) (by decide)), ew11, va_up_ne _ _ (hj.ne (i := 34) (j := 31) (by decide) (by decide) (by decide)), ew8, va_up_ne _ _ (hj.ne (i := 34) (j := 26) (by decide) (by decide) (by decide))]; exact r34
        refine fw_last (tys := tyl dA) hx hb hK hP hS r34 1 rfl (j := f) (by omega) (by decide) d_D_nextCandidate_211 (fun w33 H locs ew34 hP hS => ?_)
        have r34 : w33 (md 34) = some (.inl (dA 1, 13, .inr (.inl (vp_updL (m_sum μ) f 1)))) := by rw [ew34]; exact va_up_self _ _ _
        have ho35 : OutD md w w33 := OutD.up ho21 ew34 (by decide)
        refine lv_aload_n hx hb d_D_nextCandidate_212 rfl (lv_at hl 2 rfl) ?_
        refine lv_iconst (v := (nI 1)) hx hb d_D_nextCandidate_213 (by decide) ?_
        have r36 : w33 (md 36) = some (.inr (5, [.ref (md 0), .ref (md 1), .ref (md 2), .ref (md 3), .ref (md 4), .ref (md 5), .ref (md 6), .ref (md 7), .ref (md 8), .ref (md 9), .ref (md 10), .ref (md 11), .ref (md 12), .ref (md 13), .ref (md 14), .ref (md 15), .int (nI (m_cached μ)), .int (nI (m_ocached μ)), .int (m_circ μ), .int (m_ocirc μ), .int (nI (m_thr μ)), .int (nI (m_wkr μ)), .int (nI (m_ran μ).toNat), .ref (md 23), .ref (md 24), .ref (md 25), .ref (md 26), .ref (md 27), .ref (md 28), .ref (md 29), .ref (md 30), .ref (md 31), .ref (md 32), .ref (md 33), .ref (md 34), .int (nI (m_hgt μ))])) := by rw [ew34, va_up_ne _ _ (hj.ne (i := 36) (j := 34) (by decide) (by decide) (by decide))]; exact r36
        refine fw_put (D := (dC, dI)) (ci := 5) (v := .int (nI 1)) (ty := .boolean) (C := R_D) (T := F_D) (N := 36) hx hb hg in_D ft_D ft_D_ok n_D hown hK hP hS r36 rfl 22 (by decide) (hg _ k_613) (fun _ h9 => h9) rfl (by decide +kernel) (by decide) (by decide) (Nat.le_of_ble_eq_true rfl) d_D_nextCandidate_214 (fun w36 H locs ew37 hP hS => ?_)
        have r36 : w36 (md 36) = some (.inr (5, [.ref (md 0), .ref (md 1), .ref (md 2), .ref (md 3), .ref (md 4), .ref (md 5), .ref (md 6), .ref (md 7), .ref (md 8), .ref (md 9), .ref (md 10), .ref (md 11), .ref (md 12), .ref (md 13), .ref (md 14), .ref (md 15), .int (nI (m_cached μ)), .int (nI (m_ocached μ)), .int (m_circ μ), .int (m_ocirc μ), .int (nI (m_thr μ)), .int (nI (m_wkr μ)), .int (nI 1), .ref (md 23), .ref (md 24), .ref (md 25), .ref (md 26), .ref (md 27), .ref (md 28), .ref (md 29), .ref (md 30), .ref (md 31), .ref (md 32), .ref (md 33), .ref (md 34), .int (nI (m_hgt μ))])) := by rw [ew37]; exact va_up_self _ _ _
        have ho38 : OutD md w w36 := OutD.up ho35 ew37 (by decide)
        have r26 : w36 (md 26) = some (.inl (dA 0, 13, .inl (nf (va_up (va_up (m_ph μ) f 2) f 3)))) := by rw [ew37, va_up_ne _ _ (hj.ne (i := 26) (j := 36) (by decide) (by decide) (by decide)), ew34, va_up_ne _ _ (hj.ne (i := 26) (j := 34) (by decide) (by decide) (by decide)), ew20, va_up_ne _ _ (hj.ne (i := 26) (j := 32) (by decide) (by decide) (by decide)), ew17, va_up_ne _ _ (hj.ne (i := 26) (j := 6) (by decide) (by decide) (by decide)), ew14, va_up_ne _ _ (hj.ne (i := 26) (j := 4) (by decide) (by decide) (by decide)), ew11, va_up_ne _ _ (hj.ne (i := 26) (j := 31) (by decide) (by decide) (by decide))]; exact r26
        have r26 : w36 (md 26) = some (.inl (dA 0, 13, .inl (nf (va_up (m_ph μ) f 3)))) := by rw [← vu_up (m_ph μ) f 2 3]; exact r26
        have r34 : w36 (md 34) = some (.inl (dA 1, 13, .inr (.inl (vp_updL (m_sum μ) f 1)))) := by rw [ew37, va_up_ne _ _ (hj.ne (i := 34) (j := 36) (by decide) (by decide) (by decide))]; exact r34
        have r34 : w36 (md 34) = some (.inl (dA 1, 13, .inr (.inl (vp_updL (m_sum μ) f (if m_rule μ (m_key μ f) = 1 then 1 else 0))))) := by rw [if_pos c3]; exact r34
        have hk39 : ∀ i, U37 i → i ∉ [4, 6, 26, 31, 32, 34, 36] → w36 (md i) = w5 (md i) := fun i hi hn => by rw [ew37, va_up_ne _ _ (hj.ne hi (j := 36) (by decide) (fun e9 => hn (by rw [e9]; decide))), ew34, va_up_ne _ _ (hj.ne hi (j := 34) (by decide) (fun e9 => hn (by rw [e9]; decide))), ew20, va_up_ne _ _ (hj.ne hi (j := 32) (by decide) (fun e9 => hn (by rw [e9]; decide))), ew17, va_up_ne _ _ (hj.ne hi (j := 6) (by decide) (fun e9 => hn (by rw [e9]; decide))), ew14, va_up_ne _ _ (hj.ne hi (j := 4) (by decide) (fun e9 => hn (by rw [e9]; decide))), ew11, va_up_ne _ _ (hj.ne hi (j := 31) (by decide) (fun e9 => hn (by rw [e9]; decide))), ew8, va_up_ne _ _ (hj.ne hi (j := 26) (by decide) (fun e9 => hn (by rw [e9]; decide)))]
        have hk40 : ∀ i, U37 i → i ∉ [34, 36] → w36 (md i) = w19 (md i) := fun i hi hn => by rw [ew37, va_up_ne _ _ (hj.ne hi (j := 36) (by decide) (fun e9 => hn (by rw [e9]; decide))), ew34, va_up_ne _ _ (hj.ne hi (j := 34) (by decide) (fun e9 => hn (by rw [e9]; decide)))]
        have hk41 : ∀ i, U37 i → i ∉ [6, 32, 34, 36] → w36 (md i) = w13 (md i) := fun i hi hn => by rw [ew37, va_up_ne _ _ (hj.ne hi (j := 36) (by decide) (fun e9 => hn (by rw [e9]; decide))), ew34, va_up_ne _ _ (hj.ne hi (j := 34) (by decide) (fun e9 => hn (by rw [e9]; decide))), ew20, va_up_ne _ _ (hj.ne hi (j := 32) (by decide) (fun e9 => hn (by rw [e9]; decide))), ew17, va_up_ne _ _ (hj.ne hi (j := 6) (by decide) (fun e9 => hn (by rw [e9]; decide)))]
        have hk42 : ∀ i, U37 i → i ∉ [32, 34, 36] → w36 (md i) = w16 (md i) := fun i hi hn => by rw [ew37, va_up_ne _ _ (hj.ne hi (j := 36) (by decide) (fun e9 => hn (by rw [e9]; decide))), ew34, va_up_ne _ _ (hj.ne hi (j := 34) (by decide) (fun e9 => hn (by rw [e9]; decide))), ew20, va_up_ne _ _ (hj.ne hi (j := 32) (by decide) (fun e9 => hn (by rw [e9]; decide)))]
        have hk43 : ∀ i, U37 i → i ∉ [4, 6, 32, 34, 36] → w36 (md i) = w10 (md i) := fun i hi hn => by rw [ew37, va_up_ne _ _ (hj.ne hi (j := 36) (by decide) (fun e9 => hn (by rw [e9]; decide))), ew34, va_up_ne _ _ (hj.ne hi (j := 34) (by decide) (fun e9 => hn (by rw [e9]; decide))), ew20, va_up_ne _ _ (hj.ne hi (j := 32) (by decide) (fun e9 => hn (by rw [e9]; decide))), ew17, va_up_ne _ _ (hj.ne hi (j := 6) (by decide) (fun e9 => hn (by rw [e9]; decide))), ew14, va_up_ne _ _ (hj.ne hi (j := 4) (by decide) (fun e9 => hn (by rw [e9]; decide)))]
        exact W.vret hx hb hr (fun tS ht hW => ⟨⟨w36, rfl, ⟨⟨x, 0, hF0, Or.inr ⟨rfl, t, ht9, hnm, ⟨r36, (hk39 0 (by decide) (by decide)).trans r0, (hk40 1 (by decide) (by decide)).trans r1, (hk39 2 (by decide) (by decide)).trans r2, (hk39 3 (by decide) (by decide)).trans r3, (hk41 4 (by decide) (by decide)).trans r4, (hk39 5 (by decide) (by decide)).trans r5, (hk42 6 (by decide) (by decide)).trans r6, (hk39 7 (by decide) (by decide)).trans r7, (hk39 8 (by decide) (by decide)).trans r8, ⟨_, (hk39 9 (by decide) (by decide)).trans r9⟩, (hk39 10 (by decide) (by decide)).trans r10, (hk39 11 (by decide) (by decide)).trans r11, (hk39 12 (by decide) (by decide)).trans r12, (hk39 13 (by decide) (by decide)).trans r13, (hk39 14 (by decide) (by decide)).trans r14, (hk39 15 (by decide) (by decide)).trans r15, (hk39 23 (by decide) (by decide)).trans r23, (hk39 24 (by decide) (by decide)).trans r24, (hk39 25 (by decide) (by decide)).trans r25, r26, (hk39 27 (by decide) (by decide)).trans r27, (hk39 28 (by decide) (by decide)).trans r28, (hk39 29 (by decide) (by decide)).trans r29, (hk39 30 (by decide) (by decide)).trans r30, (hk43 31 (by decide) (by decide)).trans r31, (hk40 32 (by decide) (by decide)).trans r32, (hk39 33 (by decide) (by decide)).trans r33, r34⟩⟩⟩, ho38⟩, mB_of ht hP⟩, hS.F ht⟩) hS.2.2 d_D_nextCandidate_217
    · refine lv_aload_n hx hb d_D_nextCandidate_106 rfl (lv_at hl 1 rfl) ?_
      refine va_get (D := (dC, dI)) (ci := 5) (v := .ref (md 30)) (C := R_D) (T := F_D) (N := 36) hx hb hg in_D hown hK (hP.one r36) 0 rfl rfl 30 (by decide) (hg _ k_621) (fun _ h9 => h9) rfl d_D_nextCandidate_107 ?_
      refine lv_iload_n hx hb d_D_nextCandidate_110 rfl (lv_at hl 2 rfl) ?_
      refine lv_dup2_11 hx hb d_D_nextCandidate_111 rfl rfl ?_
      refine fw_iald (tys := tyl dA) hx hb hK hP r30 0 rfl (j := f) (by omega) (by decide) d_D_nextCandidate_112 ?_
      rw [show nf (va_up (m_cc μ) f c9) f = nI c9 from congrArg nI (va_up_self _ _ _)]
      refine lv_iconst (v := (nI 1)) hx hb d_D_nextCandidate_113 (by decide) ?_
      refine nu_isub (r := c9 - 1) hx hb d_D_nextCandidate_114 (by omega) ?_
      refine fw_iast (tys := tyl dA) hx hb hK hP hS r30 0 rfl (j := f) (x := (nI (c9 - 1))) (by omega) (by decide) d_D_nextCandidate_115 (fun w44 H locs ew45 hP hS => ?_)
      rw [nf_up] at ew45
      have r30 : w44 (md 30) = some (.inl (dA 0, 13, .inl (nf (va_up (va_up (m_cc μ) f c9) f (c9 - 1))))) := by rw [ew45]; exact va_up_self _ _ _
      have ho46 : OutD md w w44 := OutD.up ho3 ew45 (by decide)
      have r30 : w44 (md 30) = some (.inl (dA 0, 13, .inl (nf (va_up (m_cc μ) f (c9 - 1))))) := by rw [← vu_up (m_cc μ) f c9 (c9 - 1)]; exact r30
      refine lv_aload_n hx hb d_D_nextCandidate_116 rfl (lv_at hl 1 rfl) ?_
      have r36 : w44 (md 36) = some (.inr (5, [.ref (md 0), .ref (md 1), .ref (md 2), .ref (md 3), .ref (md 4), .ref (md 5), .ref (md 6), .ref (md 7), .ref (md 8), .ref (md 9), .ref (md 10), .ref (md 11), .ref (md 12), .ref (md 13), .ref (md 14), .ref (md 15), .int (nI (m_cached μ)), .int (nI (m_ocached μ)), .int (m_circ μ), .int (m_ocirc μ), .int (nI (m_thr μ)), .int (nI (m_wkr μ)), .int (nI (m_ran μ).toNat), .ref (md 23), .ref (md 24), .ref (md 25), .ref (md 26), .ref (md 27), .ref (md 28), .ref (md 29), .ref (md 30), .ref (md 31), .ref (md 32), .ref (md 33), .ref (md 34), .int (nI (m_hgt μ))])) := by rw [ew45, va_up_ne _ _ (hj.ne (i := 36) (j := 30) (by decide) (by decide) (by decide))]; exact r36
      refine va_get (D := (dC, dI)) (ci := 5) (v := .ref (md 27)) (C := R_D) (T := F_D) (N := 36) hx hb hg in_D hown hK (hP.one r36) 0 rfl rfl 27 (by decide) (hg _ k_618) (fun _ h9 => h9) rfl d_D_nextCandidate_117 ?_
      refine lv_iload_n hx hb d_D_nextCandidate_120 rfl (lv_at hl 2 rfl) ?_
      refine lv_aload_n hx hb d_D_nextCandidate_121 rfl (lv_at hl 1 rfl) ?_
      refine va_get (D := (dC, dI)) (ci := 5) (v := .ref (md 29)) (C := R_D) (T := F_D) (N := 36) hx hb hg in_D hown hK (hP.one r36) 0 rfl rfl 29 (by decide) (hg _ k_620) (fun _ h9 => h9) rfl d_D_nextCandidate_122 ?_
      refine lv_iload_n hx hb d_D_nextCandidate_125 rfl (lv_at hl 2 rfl) ?_
      refine lv_bipush (v := (nI 16)) hx hb d_D_nextCandidate_126 (by decide) ?_
      refine nu_imul (r := 16 * f) hx hb d_D_nextCandidate_128 (by omega) ?_
      refine lv_aload_n hx hb d_D_nextCandidate_129 rfl (lv_at hl 1 rfl) ?_
      refine va_get (D := (dC, dI)) (ci := 5) (v := .ref (md 30)) (C := R_D) (T := F_D) (N := 36) hx hb hg in_D hown hK (hP.one r36) 0 rfl rfl 30 (by decide) (hg _ k_621) (fun _ h9 => h9) rfl d_D_nextCandidate_130 ?_
      refine lv_iload_n hx hb d_D_nextCandidate_133 rfl (lv_at hl 2 rfl) ?_
      refine fw_iald (tys := tyl dA) hx hb hK hP r30 0 rfl (j := f) (by omega) (by decide) d_D_nextCandidate_134 ?_
      rw [show nf (va_up (m_cc μ) f (c9 - 1)) f = nI (c9 - 1) from congrArg nI (va_up_self _ _ _)]
      have hc16 := hF.2.2.1
      refine nu_iadd (r := 16 * f + (c9 - 1)) hx hb d_D_nextCandidate_135 (by omega) ?_
      have r29 : w44 (md 29) = some (.inl (dA 0, 208, .inl (nf x))) := by rw [ew45, va_up_ne _ _ (hj.ne (i := 29) (j := 30) (by decide) (by decide) (by decide)), ew2, va_up_ne _ _ (hj.ne (i := 29) (j := 28) (by decide) (by decide) (by decide))]; exact r29
      refine fw_iald (tys := tyl dA) hx hb hK hP r29 0 rfl (j := 16 * f + (c9 - 1)) (by omega) (by decide) d_D_nextCandidate_136 ?_
      have r27 : w44 (md 27) = some (.inl (dA 0, 13, .inl (m_chk μ))) := by rw [ew45, va_up_ne _ _ (hj.ne (i := 27) (j := 30) (by decide) (by decide) (by decide)), ew2, va_up_ne _ _ (hj.ne (i := 27) (j := 28) (by decide) (by decide) (by decide))]; exact r27
      refine fw_iast (tys := tyl dA) hx hb hK hP hS r27 0 rfl (j := f) (x := (nI (x (16 * f + (c9 - 1))))) (by omega) (by decide) d_D_nextCandidate_137 (fun w47 H locs ew48 hP hS => ?_)
      have r27 : w47 (md 27) = some (.inl (dA 0, 13, .inl (upd (m_chk μ) f (nI (x (16 * f + (c9 - 1))))))) := by rw [ew48]; exact va_up_self _ _ _
      have ho49 : OutD md w w47 := OutD.up ho46 ew48 (by decide)
      refine lv_aload_n hx hb d_D_nextCandidate_138 rfl (lv_at hl 1 rfl) ?_
      have r36 : w47 (md 36) = some (.inr (5, [.ref (md 0), .ref (md 1), .ref (md 2), .ref (md 3), .ref (md 4), .ref (md 5), .ref (md 6), .ref (md 7), .ref (md 8), .ref (md 9), .ref (md 10), .ref (md 11), .ref (md 12), .ref (md 13), .ref (md 14), .ref (md 15), .int (nI (m_cached μ)), .int (nI (m_ocached μ)), .int (m_circ μ), .int (m_ocirc μ), .int (nI (m_thr μ)), .int (nI (m_wkr μ)), .int (nI (m_ran μ).toNat), .ref (md 23), .ref (md 24), .ref (md 25), .ref (md 26), .ref (md 27), .ref (md 28), .ref (md 29), .ref (md 30), .ref (md 31), .ref (md 32), .ref (md 33), .ref (md 34), .int (nI (m_hgt μ))])) := by rw [ew48, va_up_ne _ _ (hj.ne (i := 36) (j := 27) (by decide) (by decide) (by decide))]; exact r36
      refine va_get (D := (dC, dI)) (ci := 5) (v := .ref (md 31)) (C := R_D) (T := F_D) (N := 36) hx hb hg in_D hown hK (hP.one r36) 0 rfl rfl 31 (by decide) (hg _ k_622) (fun _ h9 => h9) rfl d_D_nextCandidate_139 ?_
      refine lv_iload_n hx hb d_D_nextCandidate_142 rfl (lv_at hl 2 rfl) ?_
      refine lv_aload_n hx hb d_D_nextCandidate_143 rfl (lv_at hl 1 rfl) ?_
      refine va_get (D := (dC, dI)) (ci := 5) (v := .ref (md 27)) (C := R_D) (T := F_D) (N := 36) hx hb hg in_D hown hK (hP.one r36) 0 rfl rfl 27 (by decide) (hg _ k_618) (fun _ h9 => h9) rfl d_D_nextCandidate_144 ?_
      refine lv_iload_n hx hb d_D_nextCandidate_147 rfl (lv_at hl 2 rfl) ?_
      refine fw_iald (tys := tyl dA) hx hb hK hP r27 0 rfl (j := f) (by omega) (by decide) d_D_nextCandidate_148 ?_
      rw [show (upd (m_chk μ) f (nI (x (16 * f + (c9 - 1))))) f = nI (x (16 * f + (c9 - 1))) from pk_us]
      have r31 : w47 (md 31) = some (.inl (dA 0, 13, .inl (nf (m_mk μ)))) := by rw [ew48, va_up_ne _ _ (hj.ne (i := 31) (j := 27) (by decide) (by decide) (by decide)), ew45, va_up_ne _ _ (hj.ne (i := 31) (j := 30) (by decide) (by decide) (by decide)), ew2, va_up_ne _ _ (hj.ne (i := 31) (j := 28) (by decide) (by decide) (by decide))]; exact r31
      refine fw_iast (tys := tyl dA) hx hb hK hP hS r31 0 rfl (j := f) (x := (nI (x (16 * f + (c9 - 1))))) (by omega) (by decide) d_D_nextCandidate_149 (fun w50 H locs ew51 hP hS => ?_)
      rw [nf_up] at ew51
      have r31 : w50 (md 31) = some (.inl (dA 0, 13, .inl (nf (va_up (m_mk μ) f (x (16 * f + (c9 - 1))))))) := by rw [ew51]; exact va_up_self _ _ _
      have ho52 : OutD md w w50 := OutD.up ho49 ew51 (by decide)
      have hk53 : ∀ i, U37 i → i ∉ [31] → w50 (md i) = w47 (md i) := fun i hi hn => by rw [ew51, va_up_ne _ _ (hj.ne hi (j := 31) (by decide) (fun e9 => hn (by rw [e9]; decide)))]
      have hk54 : ∀ i, U37 i → i ∉ [27, 28, 30, 31] → w50 (md i) = w (md i) := fun i hi hn => by rw [ew51, va_up_ne _ _ (hj.ne hi (j := 31) (by decide) (fun e9 => hn (by rw [e9]; decide))), ew48, va_up_ne _ _ (hj.ne hi (j := 27) (by decide) (fun e9 => hn (by rw [e9]; decide))), ew45, va_up_ne _ _ (hj.ne hi (j := 30) (by decide) (fun e9 => hn (by rw [e9]; decide))), ew2, va_up_ne _ _ (hj.ne hi (j := 28) (by decide) (fun e9 => hn (by rw [e9]; decide)))]
      have hk55 : ∀ i, U37 i → i ∉ [27, 30, 31] → w50 (md i) = w1 (md i) := fun i hi hn => by rw [ew51, va_up_ne _ _ (hj.ne hi (j := 31) (by decide) (fun e9 => hn (by rw [e9]; decide))), ew48, va_up_ne _ _ (hj.ne hi (j := 27) (by decide) (fun e9 => hn (by rw [e9]; decide))), ew45, va_up_ne _ _ (hj.ne hi (j := 30) (by decide) (fun e9 => hn (by rw [e9]; decide)))]
      have hk56 : ∀ i, U37 i → i ∉ [27, 31] → w50 (md i) = w44 (md i) := fun i hi hn => by rw [ew51, va_up_ne _ _ (hj.ne hi (j := 31) (by decide) (fun e9 => hn (by rw [e9]; decide))), ew48, va_up_ne _ _ (hj.ne hi (j := 27) (by decide) (fun e9 => hn (by rw [e9]; decide)))]
      exact W.vret hx hb hr (fun tS ht hW => ⟨⟨w50, rfl, ⟨⟨x, c9, hF, Or.inl ⟨c2, ⟨(hk53 36 (by decide) (by decide)).trans r36, (hk54 0 (by decide) (by decide)).trans r0, (hk54 1 (by decide) (by decide)).trans r1, (hk54 2 (by decide) (by decide)).trans r2, (hk54 3 (by decide) (by decide)).trans r3, (hk54 4 (by decide) (by decide)).trans r4, (hk54 5 (by decide) (by decide)).trans r5, (hk54 6 (by decide) (by decide)).trans r6, (hk54 7 (by decide) (by decide)).trans r7, (hk54 8 (by decide) (by decide)).trans r8, ⟨_, (hk54 9 (by decide) (by decide)).trans r9⟩, (hk54 10 (by decide) (by decide)).trans r10, (hk54 11 (by decide) (by decide)).trans r11, (hk54 12 (by decide) (by decide)).trans r12, (hk54 13 (by decide) (by decide)).trans r13, (hk54 14 (by decide) (by decide)).trans r14, (hk54 15 (by decide) (by decide)).trans r15, (hk54 23 (by decide) (by decide)).trans r23, (hk54 24 (by decide) (by decide)).trans r24, (hk54 25 (by decide) (by decide)).trans r25, (hk54 26 (by decide) (by decide)).trans r26, (hk53 27 (by decide) (by decide)).trans r27, (hk55 28 (by decide) (by decide)).trans r28, (hk56 29 (by decide) (by decide)).trans r29, (hk56 30 (by decide) (by decide)).trans r30, r31, (hk54 32 (by decide) (by decide)).trans r32, (hk54 33 (by decide) (by decide)).trans r33, (hk54 34 (by decide) (by decide)).trans r34⟩⟩⟩, ho52⟩, mB_of ht hP⟩, hS.F ht⟩) hS.2.2 d_D_nextCandidate_150
  · have hc0 := n5 c1
    refine lv_aload_n hx hb d_D_nextCandidate_17 rfl (lv_at hl 1 rfl) ?_
    refine va_get (D := (dC, dI)) (ci := 5) (v := .ref (md 26)) (C := R_D) (T := F_D) (N := 36) hx hb hg in_D hown hK (hP.one r36) 0 rfl rfl 26 (by decide) (hg _ k_617) (fun _ h9 => h9) rfl d_D_nextCandidate_18 ?_
    refine lv_iload_n hx hb d_D_nextCandidate_21 rfl (lv_at hl 2 rfl) ?_
    refine lv_iconst (v := (nI 2)) hx hb d_D_nextCandidate_22 (by decide) ?_
    refine fw_iast (tys := tyl dA) hx hb hK hP hS r26 0 rfl (j := f) (x := (nI 2)) (by omega) (by decide) d_D_nextCandidate_23 (fun w57 H locs ew58 hP hS => ?_)
    rw [nf_up] at ew58
    have r26 : w57 (md 26) = some (.inl (dA 0, 13, .inl (nf (va_up (m_ph μ) f 2)))) := by rw [ew58]; exact va_up_self _ _ _
    have ho59 : OutD md w w57 := OutD.up OutD.rf ew58 (by decide)
    refine lv_iconst (v := (nI 0)) hx hb d_D_nextCandidate_24 (by decide) ?_
    refine lv_istore_n (lv' := [(3, .int (nI 0)), (2, .int (nI ((m_key μ) f))), (0, .ref (md 36)), (1, .int (nI f))]) hx hb d_D_nextCandidate_25 rfl hl (by decide) rfl (fun ls hl => ?_)
    have r30 : w57 (md 30) = some (.inl (dA 0, 13, .inl (nf (m_cc μ)))) := by rw [ew58, va_up_ne _ _ (hj.ne (i := 30) (j := 26) (by decide) (by decide) (by decide))]; exact r30
    have r30 : w57 (md 30) = some (.inl (dA 0, 13, .inl (nf (va_up (m_cc μ) f 0)))) := by rw [vu_same (m_cc μ) f hc0]; exact r30
    have hk60 : ∀ i, U37 i → i ∉ [26] → w57 (md i) = w (md i) := fun i hi hn => by rw [ew58, va_up_ne _ _ (hj.ne hi (j := 26) (by decide) (fun e9 => hn (by rw [e9]; decide)))]
    suffices lp : ∀ (n : Nat) (i : Nat) (c9 : Nat) (x : Nat → Nat), (i ≤ m_cached μ) → (c9 ≤ i) → (lstN (fun j => x (16 * f + j)) c9 = (lstN (m_cch μ) i).filter (fun t => m_own μ t == m_key μ f)) → (∀ z, z < 16 * f ∨ 16 * f + 16 ≤ z → x z = m_cand μ z) → (m_cached μ < i + n) → ∀ (wl : fw_W) (H : Heap) (locs : List Loc), (RD dA md wl (u_fr μ (m_key μ, va_up (m_ph μ) f 2, m_chk μ, m_at μ, x, va_up (m_cc μ) f c9, m_mk μ, m_asked μ, m_first μ, m_sum μ, m_hgt μ))) → (OutD md w wl) → fw_P (dC, dI) cls_ (AA s0) wl H → va_S (AA s0) s.heap H locs → ∀ (ls : Array Slot), lv_has ls 4 [(0, .ref (md 36)), (1, .int (nI f)), (2, .int (nI (m_key μ f))), (3, .int (nI i))] → W p l e _ s m args below meth c H locs 0 0 (MQ below _ args s 0 0 (AA s0)) (F0 m 26 ls []) from lp (m_cached μ + 1) 0 0 (m_cand μ) (by omega) (by omega) rfl (fun _ _ => rfl) (by omega) _ _ _  (⟨(hk60 36 (by decide) (by decide)).trans r36, (hk60 0 (by decide) (by decide)).trans r0, (hk60 1 (by decide) (by decide)).trans r1, (hk60 2 (by decide) (by decide)).trans r2, (hk60 3 (by decide) (by decide)).trans r3, (hk60 4 (by decide) (by decide)).trans r4, (hk60 5 (by decide) (by decide)).trans r5, (hk60 6 (by decide) (by decide)).trans r6, (hk60 7 (by decide) (by decide)).trans r7, (hk60 8 (by decide) (by decide)).trans r8, ⟨_, (hk60 9 (by decide) (by decide)).trans r9⟩, (hk60 10 (by decide) (by decide)).trans r10, (hk60 11 (by decide) (by decide)).trans r11, (hk60 12 (by decide) (by decide)).trans r12, (hk60 13 (by decide) (by decide)).trans r13, (hk60 14 (by decide) (by decide)).trans r14, (hk60 15 (by decide) (by decide)).trans r15, (hk60 23 (by decide) (by decide)).trans r23, (hk60 24 (by decide) (by decide)).trans r24, (hk60 25 (by decide) (by decide)).trans r25, r26, (hk60 27 (by decide) (by decide)).trans r27, (hk60 28 (by decide) (by decide)).trans r28, (hk60 29 (by decide) (by decide)).trans r29, r30, (hk60 31 (by decide) (by decide)).trans r31, (hk60 32 (by decide) (by decide)).trans r32, (hk60 33 (by decide) (by decide)).trans r33, (hk60 34 (by decide) (by decide)).trans r34⟩) ho59 hP hS ls (lv_sub hl [2, 3, 1, 0] rfl)
    intro n
    induction n with
    | zero => intro i c9 x hi hc9 hx1 hx2 hbn; exact absurd hbn (by omega)
    | succ n ih =>
      intro i c9 x hi hc9 hx1 hx2 hbn wl H locs  hR9 ho9 hP hS ls hl
      obtain ⟨r36, r0, r1, r2, r3, r4, r5, r6, r7, r8, ⟨u, r9⟩, r10, r11, r12, r13, r14, r15, r23, r24, r25, r26, r27, r28, r29, r30, r31, r32, r33, r34⟩ := (id hR9)
      refine lv_iload_n hx hb d_D_nextCandidate_26 rfl (lv_at hl 3 rfl) ?_
      refine lv_aload_n hx hb d_D_nextCandidate_27 rfl (lv_at hl 0 rfl) ?_
      have r36 : wl (md 36) = some (.inr (5, [.ref (md 0), .ref (md 1), .ref (md 2), .ref (md 3), .ref (md 4), .ref (md 5), .ref (md 6), .ref (md 7), .ref (md 8), .ref (md 9), .ref (md 10), .ref (md 11), .ref (md 12), .ref (md 13), .ref (md 14), .ref (md 15), .int (nI (m_cached μ)), .int (nI (m_ocached μ)), .int (m_circ μ), .int (m_ocirc μ), .int (nI (m_thr μ)), .int (nI (m_wkr μ)), .int (nI (m_ran μ).toNat), .ref (md 23), .ref (md 24), .ref (md 25), .ref (md 26), .ref (md 27), .ref (md 28), .ref (md 29), .ref (md 30), .ref (md 31), .ref (md 32), .ref (md 33), .ref (md 34), .int (nI (m_hgt μ))])) := r36
      refine va_get (D := (dC, dI)) (ci := 5) (v := .int (nI (m_cached μ))) (C := R_D) (T := F_D) (N := 36) hx hb hg in_D hown hK (hP.one r36) 0 rfl rfl 16 (by decide) (hg _ k_607) (fun _ h9 => h9) rfl d_D_nextCandidate_28 ?_
      refine nu_ge (tgt := 90) hx hb (by omega) (by omega) d_D_nextCandidate_31 (by decide) (fun c3 => ?_) (fun c3 => ?_)
      · have hiN : i = m_cached μ := by omega
        have hF : FillR μ f x c9 := ⟨fun _ => by rw [hx1, hiN], fun h9 => absurd c1 h9, by omega, hx2⟩
        refine lv_aload_n hx hb d_D_nextCandidate_90 rfl (lv_at hl 0 rfl) ?_
        refine va_get (D := (dC, dI)) (ci := 5) (v := .ref (md 28)) (C := R_D) (T := F_D) (N := 36) hx hb hg in_D hown hK (hP.one r36) 0 rfl rfl 28 (by decide) (hg _ k_619) (fun _ h9 => h9) rfl d_D_nextCandidate_91 ?_
        refine lv_iload_n hx hb d_D_nextCandidate_94 rfl (lv_at hl 1 rfl) ?_
        refine lv_iconst (v := (nI 0)) hx hb d_D_nextCandidate_95 (by decide) ?_
        have r28 : wl (md 28) = some (.inl (dA 0, 13, .inl (nf (m_at μ)))) := r28
        refine fw_iast (tys := tyl dA) hx hb hK hP hS r28 0 rfl (j := f) (x := (nI 0)) (by omega) (by decide) d_D_nextCandidate_96 (fun w61 H locs ew62 hP hS => ?_)
        rw [nf_up] at ew62
        have r28 : w61 (md 28) = some (.inl (dA 0, 13, .inl (nf (va_up (m_at μ) f 0)))) := by rw [ew62]; exact va_up_self _ _ _
        have ho63 : OutD md w w61 := OutD.up ho9 ew62 (by decide)
        refine lv_aload_n hx hb d_D_nextCandidate_97 rfl (lv_at hl 0 rfl) ?_
        have r36 : w61 (md 36) = some (.inr (5, [.ref (md 0), .ref (md 1), .ref (md 2), .ref (md 3), .ref (md 4), .ref (md 5), .ref (md 6), .ref (md 7), .ref (md 8), .ref (md 9), .ref (md 10), .ref (md 11), .ref (md 12), .ref (md 13), .ref (md 14), .ref (md 15), .int (nI (m_cached μ)), .int (nI (m_ocached μ)), .int (m_circ μ), .int (m_ocirc μ), .int (nI (m_thr μ)), .int (nI (m_wkr μ)), .int (nI (m_ran μ).toNat), .ref (md 23), .ref (md 24), .ref (md 25), .ref (md 26), .ref (md 27), .ref (md 28), .ref (md 29), .ref (md 30), .ref (md 31), .ref (md 32), .ref (md 33), .ref (md 34), .int (nI (m_hgt μ))])) := by rw [ew62, va_up_ne _ _ (hj.ne (i := 36) (j := 28) (by decide) (by decide) (by decide))]; exact r36
        refine va_get (D := (dC, dI)) (ci := 5) (v := .ref (md 30)) (C := R_D) (T := F_D) (N := 36) hx hb hg in_D hown hK (hP.one r36) 0 rfl rfl 30 (by decide) (hg _ k_621) (fun _ h9 => h9) rfl d_D_nextCandidate_98 ?_
        refine lv_iload_n hx hb d_D_nextCandidate_101 rfl (lv_at hl 1 rfl) ?_
        have r30 : w61 (md 30) = some (.inl (dA 0, 13, .inl (nf (va_up (m_cc μ) f c9)))) := by rw [ew62, va_up_ne _ _ (hj.ne (i := 30) (j := 28) (by decide) (by decide) (by decide))]; exact r30
        refine fw_iald (tys := tyl dA) hx hb hK hP r30 0 rfl (j := f) (by omega) (by decide) d_D_nextCandidate_102 ?_
        rw [show nf (va_up (m_cc μ) f c9) f = nI c9 from congrArg nI (va_up_self _ _ _)]
        refine nu_zle (tgt := 151) hx hb (by omega) d_D_nextCandidate_103 (by decide) (fun c2 => ?_) (fun c2 => ?_)
        · refine lv_aload_n hx hb d_D_nextCandidate_151 rfl (lv_at hl 0 rfl) ?_
          have hk64 : ∀ i, U37 i → i ∉ [28] → w61 (md i) = wl (md i) := fun i hi hn => by rw [ew62, va_up_ne _ _ (hj.ne hi (j := 28) (by decide) (fun e9 => hn (by rw [e9]; decide)))]
          have hRq : RD dA md w61 (dPre f x c9 μ) := ⟨r36, (hk64 0 (by decide) (by decide)).trans r0, (hk64 1 (by decide) (by decide)).trans r1, (hk64 2 (by decide) (by decide)).trans r2, (hk64 3 (by decide) (by decide)).trans r3, (hk64 4 (by decide) (by decide)).trans r4, (hk64 5 (by decide) (by decide)).trans r5, (hk64 6 (by decide) (by decide)).trans r6, (hk64 7 (by decide) (by decide)).trans r7, (hk64 8 (by decide) (by decide)).trans r8, ⟨_, (hk64 9 (by decide) (by decide)).trans r9⟩, (hk64 10 (by decide) (by decide)).trans r10, (hk64 11 (by decide) (by decide)).trans r11, (hk64 12 (by decide) (by decide)).trans r12, (hk64 13 (by decide) (by decide)).trans r13, (hk64 14 (by decide) (by decide)).trans r14, (hk64 15 (by decide) (by decide)).trans r15, (hk64 23 (by decide) (by decide)).trans r23, (hk64 24 (by decide) (by decide)).trans r24, (hk64 25 (by decide) (by decide)).trans r25, (hk64 26 (by decide) (by decide)).trans r26, (hk64 27 (by decide) (by decide)).trans r27, r28, (hk64 29 (by decide) (by decide)).trans r29, r30, (hk64 31 (by decide) (by decide)).trans r31, (hk64 32 (by decide) (by decide)).trans r32, (hk64 33 (by decide) (by decide)).trans r33, (hk64 34 (by decide) (by decide)).trans r34⟩
          rw [c2] at hRq
          have hF0 : FillR μ f x 0 := by rw [← c2]; exact hF
          refine va_calli (rn_V (n := 0) (As := []) (rest := []) (C := R_D) (T := F_D) (N := 36) (ci := 5) X hP hS (c_D_freeTrace B0 w61 md (dPre f x 0 μ) hj hRq (hok.pre hF.2.2.2)) k_775 k_777 k_50 k_58 k_778 (by decide +kernel) rfl rfl ⟨Nat.le_of_ble_eq_true rfl, Nat.le_of_ble_eq_true rfl⟩ r36 rfl rfl hl.1 rfl (Nat.le_of_ble_eq_true rfl) d_D_nextCandidate_152 ⟨Nat.le_of_ble_eq_true rfl, Nat.le_of_ble_eq_true rfl⟩) hS (fun q _ h => h) (fun q h => h) (fun r w65 tS H locs ht hvm hw hB hz1 hk1 hS => ?_)
          have hP : fw_P (dC, dI) cls_ (AA s0) w65 H := by rw [← ht]; exact hB
          obtain ⟨t, rfl, ht9, hnm, hRt, hot⟩ := hw
          have ho66 : OutD md w w65 := (OutD.tr ho63 hot)
          obtain ⟨r36, r0, r1, r2, r3, r4, r5, r6, r7, r8, ⟨u2, r9⟩, r10, r11, r12, r13, r14, r15, r23, r24, r25, r26, r27, r28, r29, r30, r31, r32, r33, r34⟩ := (id hRt)
          refine lv_istore_n (lv' := [(3, .int (nI t)), (0, .ref (md 36)), (1, .int (nI f)), (2, .int (nI (m_key μ f)))]) hx hb d_D_nextCandidate_155 rfl hl (by decide) rfl (fun ls hl => ?_)
          refine lv_aload_n hx hb d_D_nextCandidate_156 rfl (lv_at hl 1 rfl) ?_
          have r36 : w65 (md 36) = some (.inr (5, [.ref (md 0), .ref (md 1), .ref (md 2), .ref (md 3), .ref (md 4), .ref (md 5), .ref (md 6), .ref (md 7), .ref (md 8), .ref (md 9), .ref (md 10), .ref (md 11), .ref (md 12), .ref (md 13), .ref (md 14), .ref (md 15), .int (nI (m_cached μ)), .int (nI (m_ocached μ)), .int (m_circ μ), .int (m_ocirc μ), .int (nI (m_thr μ)), .int (nI (m_wkr μ)), .int (nI (m_ran μ).toNat), .ref (md 23), .ref (md 24), .ref (md 25), .ref (md 26), .ref (md 27), .ref (md 28), .ref (md 29), .ref (md 30), .ref (md 31), .ref (md 32), .ref (md 33), .ref (md 34), .int (nI (m_hgt μ))])) := r36
          refine va_get (D := (dC, dI)) (ci := 5) (v := .ref (md 26)) (C := R_D) (T := F_D) (N := 36) hx hb hg in_D hown hK (hP.one r36) 0 rfl rfl 26 (by decide) (hg _ k_617) (fun _ h9 => h9) rfl d_D_nextCandidate_157 ?_
          refine lv_iload_n hx hb d_D_nextCandidate_160 rfl (lv_at hl 2 rfl) ?_
          refine lv_iconst (v := (nI 3)) hx hb d_D_nextCandidate_161 (by decide) ?_
          have r26 : w65 (md 26) = some (.inl (dA 0, 13, .inl (nf (va_up (m_ph μ) f 2)))) := r26
          refine fw_iast (tys := tyl dA) hx hb hK hP hS r26 0 rfl (j := f) (x := (nI 3)) (by omega) (by decide) d_D_nextCandidate_162 (fun w67 H locs ew68 hP hS => ?_)
          rw [nf_up] at ew68
          have r26 : w67 (md 26) = some (.inl (dA 0, 13, .inl (nf (va_up (va_up (m_ph μ) f 2) f 3)))) := by rw [ew68]; exact va_up_self _ _ _
          have ho69 : OutD md w w67 := OutD.up ho66 ew68 (by decide)
          refine lv_aload_n hx hb d_D_nextCandidate_163 rfl (lv_at hl 1 rfl) ?_
          have r36 : w67 (md 36) = some (.inr (5, [.ref (md 0), .ref (md 1), .ref (md 2), .ref (md 3), .ref (md 4), .ref (md 5), .ref (md 6), .ref (md 7), .ref (md 8), .ref (md 9), .ref (md 10), .ref (md 11), .ref (md 12), .ref (md 13), .ref (md 14), .ref (md 15), .int (nI (m_cached μ)), .int (nI (m_ocached μ)), .int (m_circ μ), .int (m_ocirc μ), .int (nI (m_thr μ)), .int (nI (m_wkr μ)), .int (nI (m_ran μ).toNat), .ref (md 23), .ref (md 24), .ref (md 25), .ref (md 26), .ref (md 27), .ref (md 28), .ref (md 29), .ref (md 30), .ref (md 31), .ref (md 32), .ref (md 33), .ref (md 34), .int (nI (m_hgt μ))])) := by rw [ew68, va_up_ne _ _ (hj.ne (i := 36) (j := 26) (by decide) (by decide) (by decide))]; exact r36
          refine va_get (D := (dC, dI)) (ci := 5) (v := .ref (md 31)) (C := R_D) (T := F_D) (N := 36) hx hb hg in_D hown hK (hP.one r36) 0 rfl rfl 31 (by decide) (hg _ k_622) (fun _ h9 => h9) rfl d_D_nextCandidate_164 ?_
          refine lv_iload_n hx hb d_D_nextCandidate_167 rfl (lv_at hl 2 rfl) ?_
          refine lv_iload_n hx hb d_D_nextCandidate_168 rfl (lv_at hl 0 rfl) ?_
          have r31 : w67 (md 31) = some (.inl (dA 0, 13, .inl (nf (m_mk μ)))) := by rw [ew68, va_up_ne _ _ (hj.ne (i := 31) (j := 26) (by decide) (by decide) (by decide))]; exact r31
          refine fw_iast (tys := tyl dA) hx hb hK hP hS r31 0 rfl (j := f) (x := (nI t)) (by omega) (by decide) d_D_nextCandidate_169 (fun w70 H locs ew71 hP hS => ?_)
          rw [nf_up] at ew71
          have r31 : w70 (md 31) = some (.inl (dA 0, 13, .inl (nf (va_up (m_mk μ) f t)))) := by rw [ew71]; exact va_up_self _ _ _
          have ho72 : OutD md w w70 := OutD.up ho69 ew71 (by decide)
          refine lv_aload_n hx hb d_D_nextCandidate_170 rfl (lv_at hl 1 rfl) ?_
          have r36 : w70 (md 36) = some (.inr (5, [.ref (md 0), .ref (md 1), .ref (md 2), .ref (md 3), .ref (md 4), .ref (md 5), .ref (md 6), .ref (md 7), .ref (md 8), .ref (md 9), .ref (md 10), .ref (md 11), .ref (md 12), .ref (md 13), .ref (md 14), .ref (md 15), .int (nI (m_cached μ)), .int (nI (m_ocached μ)), .int (m_circ μ), .int (m_ocirc μ), .int (nI (m_thr μ)), .int (nI (m_wkr μ)), .int (nI (m_ran μ).toNat), .ref (md 23), .ref (md 24), .ref (md 25), .ref (md 26), .ref (md 27), .ref (md 28), .ref (md 29), .ref (md 30), .ref (md 31), .ref (md 32), .ref (md 33), .ref (md 34), .int (nI (m_hgt μ))])) := by rw [ew71, va_up_ne _ _ (hj.ne (i := 36) (j := 31) (by decide) (by decide) (by decide))]; exact r36
          refine va_get (D := (dC, dI)) (ci := 5) (v := .ref (md 4)) (C := R_D) (T := F_D) (N := 36) hx hb hg in_D hown hK (hP.one r36) 0 rfl rfl 4 (by decide) (hg _ k_595) (fun _ h9 => h9) rfl d_D_nextCandidate_171 ?_
          refine lv_iload_n hx hb d_D_nextCandidate_174 rfl (lv_at hl 0 rfl) ?_
          refine lv_iconst (v := (nI 0)) hx hb d_D_nextCandidate_175 (by decide) ?_
          have r4 : w70 (md 4) = some (.inl (dA 0, 320, .inl (nf (m_size μ)))) := by rw [ew71, va_up_ne _ _ (hj.ne (i := 4) (j := 31) (by decide) (by decide) (by decide)), ew68, va_up_ne _ _ (hj.ne (i := 4) (j := 26) (by decide) (by decide) (by decide))]; exact r4
          refine fw_iast (tys := tyl dA) hx hb hK hP hS r4 0 rfl (j := t) (x := (nI 0)) ht9 (by decide) d_D_nextCandidate_176 (fun w73 H locs ew74 hP hS => ?_)
          rw [nf_up] at ew74
          have r4 : w73 (md 4) = some (.inl (dA 0, 320, .inl (nf (va_up (m_size μ) t 0)))) := by rw [ew74]; exact va_up_self _ _ _
          have ho75 : OutD md w w73 := OutD.up ho72 ew74 (by decide)
          refine lv_aload_n hx hb d_D_nextCandidate_177 rfl (lv_at hl 1 rfl) ?_
          have r36 : w73 (md 36) = some (.inr (5, [.ref (md 0), .ref (md 1), .ref (md 2), .ref (md 3), .ref (md 4), .ref (md 5), .ref (md 6), .ref (md 7), .ref (md 8), .ref (md 9), .ref (md 10), .ref (md 11), .ref (md 12), .ref (md 13), .ref (md 14), .ref (md 15), .int (nI (m_cached μ)), .int (nI (m_ocached μ)), .int (m_circ μ), .int (m_ocirc μ), .int (nI (m_thr μ)), .int (nI (m_wkr μ)), .int (nI (m_ran μ).toNat), .ref (md 23), .ref (md 24), .ref (md 25), .ref (md 26), .ref (md 27), .ref (md 28), .ref (md 29), .ref (md 30), .ref (md 31), .ref (md 32), .ref (md 33), .ref (md 34), .int (nI (m_hgt μ))])) := by rw [ew74, va_up_ne _ _ (hj.ne (i := 36) (j := 4) (by decide) (by decide) (by decide))]; exact r36
          refine va_get (D := (dC, dI)) (ci := 5) (v := .ref (md 6)) (C := R_D) (T := F_D) (N := 36) hx hb hg in_D hown hK (hP.one r36) 0 rfl rfl 6 (by decide) (hg _ k_597) (fun _ h9 => h9) rfl d_D_nextCandidate_178 ?_
          refine lv_iload_n hx hb d_D_nextCandidate_181 rfl (lv_at hl 0 rfl) ?_
          refine lv_iload_n hx hb d_D_nextCandidate_182 rfl (lv_at hl 3 rfl) ?_
          have r6 : w73 (md 6) = some (.inl (dA 0, 320, .inl (nf (m_own μ)))) := by rw [ew74, va_up_ne _ _ (hj.ne (i := 6) (j := 4) (by decide) (by decide) (by decide)), ew71, va_up_ne _ _ (hj.ne (i := 6) (j := 31) (by decide) (by decide) (by decide)), ew68, va_up_ne _ _ (hj.ne (i := 6) (j := 26) (by decide) (by decide) (by decide))]; exact r6
          refine fw_iast (tys := tyl dA) hx hb hK hP hS r6 0 rfl (j := t) (x := (nI (m_key μ f))) ht9 (by decide) d_D_nextCandidate_183 (fun w76 H locs ew77 hP hS => ?_)
          rw [nf_up] at ew77
          have r6 : w76 (md 6) = some (.inl (dA 0, 320, .inl (nf (va_up (m_own μ) t (m_key μ f))))) := by rw [ew77]; exact va_up_self _ _ _
          have ho78 : OutD md w w76 := OutD.up ho75 ew77 (by decide)
          refine lv_aload_n hx hb d_D_nextCandidate_184 rfl (lv_at hl 1 rfl) ?_
          have r36 : w76 (md 36) = some (.inr (5, [.ref (md 0), .ref (md 1), .ref (md 2), .ref (md 3), .ref (md 4), .ref (md 5), .ref (md 6), .ref (md 7), .ref (md 8), .ref (md 9), .ref (md 10), .ref (md 11), .ref (md 12), .ref (md 13), .ref (md 14), .ref (md 15), .int (nI (m_cached μ)), .int (nI (m_ocached μ)), .int (m_circ μ), .int (m_ocirc μ), .int (nI (m_thr μ)), .int (nI (m_wkr μ)), .int (nI (m_ran μ).toNat), .ref (md 23), .ref (md 24), .ref (md 25), .ref (md 26), .ref (md 27), .ref (md 28), .ref (md 29), .ref (md 30), .ref (md 31), .ref (md 32), .ref (md 33), .ref (md 34), .int (nI (m_hgt μ))])) := by rw [ew77, va_up_ne _ _ (hj.ne (i := 36) (j := 6) (by decide) (by decide) (by decide))]; exact r36
          refine va_get (D := (dC, dI)) (ci := 5) (v := .ref (md 32)) (C := R_D) (T := F_D) (N := 36) hx hb hg in_D hown hK (hP.one r36) 0 rfl rfl 32 (by decide) (hg _ k_623) (fun _ h9 => h9) rfl d_D_nextCandidate_185 ?_
          refine lv_iload_n hx hb d_D_nextCandidate_188 rfl (lv_at hl 2 rfl) ?_
          refine lv_iconst (v := (nI 0)) hx hb d_D_nextCandidate_189 (by decide) ?_
          have r32 : w76 (md 32) = some (.inl (dA 0, 13, .inl (nf (m_asked μ)))) := by rw [ew77, va_up_ne _ _ (hj.ne (i := 32) (j := 6) (by decide) (by decide) (by decide)), ew74, va_up_ne _ _ (hj.ne (i := 32) (j := 4) (by decide) (by decide) (by decide)), ew71, va_up_ne _ _ (hj.ne (i := 32) (j := 31) (by decide) (by decide) (by decide)), ew68, va_up_ne _ _ (hj.ne (i := 32) (j := 26) (by decide) (by decide) (by decide))]; exact r32
          refine fw_iast (tys := tyl dA) hx hb hK hP hS r32 0 rfl (j := f) (x := (nI 0)) (by omega) (by decide) d_D_nextCandidate_190 (fun w79 H locs ew80 hP hS => ?_)
          rw [nf_up] at ew80
          have r32 : w79 (md 32) = some (.inl (dA 0, 13, .inl (nf (va_up (m_asked μ) f 0)))) := by rw [ew80]; exact va_up_self _ _ _
          have ho81 : OutD md w w79 := OutD.up ho78 ew80 (by decide)
          refine lv_aload_n hx hb d_D_nextCandidate_191 rfl (lv_at hl 1 rfl) ?_
          have r36 : w79 (md 36) = some (.inr (5, [.ref (md 0), .ref (md 1), .ref (md 2), .ref (md 3), .ref (md 4), .ref (md 5), .ref (md 6), .ref (md 7), .ref (md 8), .ref (md 9), .ref (md 10), .ref (md 11), .ref (md 12), .ref (md 13), .ref (md 14), .ref (md 15), .int (nI (m_cached μ)), .int (nI (m_ocached μ)), .int (m_circ μ), .int (m_ocirc μ), .int (nI (m_thr μ)), .int (nI (m_wkr μ)), .int (nI (m_ran μ).toNat), .ref (md 23), .ref (md 24), .ref (md 25), .ref (md 26), .ref (md 27), .ref (md 28), .ref (md 29), .ref (md 30), .ref (md 31), .ref (md 32), .ref (md 33), .ref (md 34), .int (nI (m_hgt μ))])) := by rw [ew80, va_up_ne _ _ (hj.ne (i := 36) (j := 32) (by decide) (by decide) (by decide))]; exact r36
          refine va_get (D := (dC, dI)) (ci := 5) (v := .ref (md 34)) (C := R_D) (T := F_D) (N := 36) hx hb hg in_D hown hK (hP.one r36) 0 rfl rfl 34 (by decide) (hg _ k_625) (fun _ h9 => h9) rfl d_D_nextCandidate_192 ?_
          refine lv_iload_n hx hb d_D_nextCandidate_195 rfl (lv_at hl 2 rfl) ?_
          refine lv_aload_n hx hb d_D_nextCandidate_196 rfl (lv_at hl 1 rfl) ?_
          refine va_get (D := (dC, dI)) (ci := 5) (v := .ref (md 1)) (C := R_D) (T := F_D) (N := 36) hx hb hg in_D hown hK (hP.one r36) 0 rfl rfl 1 (by decide) (hg _ k_592) (fun _ h9 => h9) rfl d_D_nextCandidate_197 ?_
          refine lv_iload_n hx hb d_D_nextCandidate_200 rfl (lv_at hl 3 rfl) ?_
          have r1 : w79 (md 1) = some (.inl (dA 0, 12, .inl (nf (m_rule μ)))) := by rw [ew80, va_up_ne _ _ (hj.ne (i := 1) (j := 32) (by decide) (by decide) (by decide)), ew77, va_up_ne _ _ (hj.ne (i := 1) (j := 6) (by decide) (by decide) (by decide)), ew74, va_up_ne _ _ (hj.ne (i := 1) (j := 4) (by decide) (by decide) (by decide)), ew71, va_up_ne _ _ (hj.ne (i := 1) (j := 31) (by decide) (by decide) (by decide)), ew68, va_up_ne _ _ (hj.ne (i := 1) (j := 26) (by decide) (by decide) (by decide))]; exact r1
          refine fw_iald (tys := tyl dA) hx hb hK hP r1 0 rfl (j := m_key μ f) (by omega) (by decide) d_D_nextCandidate_201 ?_
          refine lv_iconst (v := (nI 1)) hx hb d_D_nextCandidate_202 (by decide) ?_
          refine nu_ne (tgt := 210) hx hb (by omega) (by omega) d_D_nextCandidate_203 (by decide) (fun c3 => ?_) (fun c3 => ?_)
          · refine lv_lconst (v := 0) hx hb d_D_nextCandidate_210 (by decide) ?_
            have r34 : w79 (md 34) = some (.inl (dA 1, 13, .inr (.inl (m_sum μ)))) := by rw [ew80, va_up_ne _ _ (hj.ne (i := 34) (j := 32) (by decide) (by decide) (by decide)), ew77, va_up_ne _ _ (hj.ne (i := 34) (j := 6) (by decide) (by decide) (by decide)), ew74, va_up_ne _ _ (hj.ne (i := 34) (j := 4) (by decide) (by decide) (by decide)), ew71, va_up_ne _ _ (hj.ne (i := 34) (j := 31) (by decide) (by decide) (by decide)), ew68, va_up_ne _ _ (hj.ne (i := 34) (j := 26) (by decide) (by decide) (by decide))]; exact r34
            refine fw_last (tys := tyl dA) hx hb hK hP hS r34 1 rfl (j := f) (by omega) (by decide) d_D_nextCandidate_211 (fun w82 H locs ew83 hP hS => ?_)
            have r34 : w82 (md 34) = some (.inl (dA 1, 13, .inr (.inl (vp_updL (m_sum μ) f 0)))) := by rw [ew83]; exact va_up_self _ _ _
            have ho84 : OutD md w w82 := OutD.up ho81 ew83 (by decide)
            refine lv_aload_n hx hb d_D_nextCandidate_212 rfl (lv_at hl 1 rfl) ?_
            refine lv_iconst (v := (nI 1)) hx hb d_D_nextCandidate_213 (by decide) ?_
            have r36 : w82 (md 36) = some (.inr (5, [.ref (md 0), .ref (md 1), .ref (md 2), .ref (md 3), .ref (md 4), .ref (md 5), .ref (md 6), .ref (md 7), .ref (md 8), .ref (md 9), .ref (md 10), .ref (md 11), .ref (md 12), .ref (md 13), .ref (md 14), .ref (md 15), .int (nI (m_cached μ)), .int (nI (m_ocached μ)), .int (m_circ μ), .int (m_ocirc μ), .int (nI (m_thr μ)), .int (nI (m_wkr μ)), .int (nI (m_ran μ).toNat), .ref (md 23), .ref (md 24), .ref (md 25), .ref (md 26), .ref (md 27), .ref (md 28), .ref (md 29), .ref (md 30), .ref (md 31), .ref (md 32), .ref (md 33), .ref (md 34), .int (nI (m_hgt μ))])) := by rw [ew83, va_up_ne _ _ (hj.ne (i := 36) (j := 34) (by decide) (by decide) (by decide))]; exact r36
            refine fw_put (D := (dC, dI)) (ci := 5) (v := .int (nI 1)) (ty := .boolean) (C := R_D) (T := F_D) (N := 36) hx hb hg in_D ft_D ft_D_ok n_D hown hK hP hS r36 rfl 22 (by decide) (hg _ k_613) (fun _ h9 => h9) rfl (by decide +kernel) (by decide) (by decide) (Nat.le_of_ble_eq_true rfl) d_D_nextCandidate_214 (fun w85 H locs ew86 hP hS => ?_)
            have r36 : w85 (md 36) = some (.inr (5, [.ref (md 0), .ref (md 1), .ref (md 2), .ref (md 3), .ref (md 4), .ref (md 5), .ref (md 6), .ref (md 7), .ref (md 8), .ref (md 9), .ref (md 10), .ref (md 11), .ref (md 12), .ref (md 13), .ref (md 14), .ref (md 15), .int (nI (m_cached μ)), .int (nI (m_ocached μ)), .int (m_circ μ), .int (m_ocirc μ), .int (nI (m_thr μ)), .int (nI (m_wkr μ)), .int (nI 1), .ref (md 23), .ref (md 24), .ref (md 25), .ref (md 26), .ref (md 27), .ref (md 28), .ref (md 29), .ref (md 30), .ref (md 31), .ref (md 32), .ref (md 33), .ref (md 34), .int (nI (m_hgt μ))])) := by rw [ew86]; exact va_up_self _ _ _
            have ho87 : OutD md w w85 := OutD.up ho84 ew86 (by decide)
            have r26 : w85 (md 26) = some (.inl (dA 0, 13, .inl (nf (va_up (va_up (m_ph μ) f 2) f 3)))) := by rw [ew86, va_up_ne _ _ (hj.ne (i := 26) (j := 36) (by decide) (by decide) (by decide)), ew83, va_up_ne _ _ (hj.ne (i := 26) (j := 34) (by decide) (by decide) (by decide)), ew80, va_up_ne _ _ (hj.ne (i := 26) (j := 32) (by decide) (by decide) (by decide)), ew77, va_up_ne _ _ (hj.ne (i := 26) (j := 6) (by decide) (by decide) (by decide)), ew74, va_up_ne _ _ (hj.ne (i := 26) (j := 4) (by decide) (by decide) (by decide)), ew71, va_up_ne _ _ (hj.ne (i := 26) (j := 31) (by decide) (by decide) (by decide))]; exact r26
            have r26 : w85 (md 26) = some (.inl (dA 0, 13, .inl (nf (va_up (m_ph μ) f 3)))) := by rw [← vu_up (m_ph μ) f 2 3]; exact r26
            have r34 : w85 (md 34) = some (.inl (dA 1, 13, .inr (.inl (vp_updL (m_sum μ) f 0)))) := by rw [ew86, va_up_ne _ _ (hj.ne (i := 34) (j := 36) (by decide) (by decide) (by decide))]; exact r34
            have r34 : w85 (md 34) = some (.inl (dA 1, 13, .inr (.inl (vp_updL (m_sum μ) f (if m_rule μ (m_key μ f) = 1 then 1 else 0))))) := by rw [if_neg c3]; exact r34
            have hk88 : ∀ i, U37 i → i ∉ [4, 6, 26, 31, 32, 34, 36] → w85 (md i) = w65 (md i) := fun i hi hn => by rw [ew86, va_up_ne _ _ (hj.ne hi (j := 36) (by decide) (fun e9 => hn (by rw [e9]; decide))), ew83, va_up_ne _ _ (hj.ne hi (j := 34) (by decide) (fun e9 => hn (by rw [e9]; decide))), ew80, va_up_ne _ _ (hj.ne hi (j := 32) (by decide) (fun e9 => hn (by rw [e9]; decide))), ew77, va_up_ne _ _ (hj.ne hi (j := 6) (by decide) (fun e9 => hn (by rw [e9]; decide))), ew74, va_up_ne _ _ (hj.ne hi (j := 4) (by decide) (fun e9 => hn (by rw [e9]; decide))), ew71, va_up_ne _ _ (hj.ne hi (j := 31) (by decide) (fun e9 => hn (by rw [e9]; decide))), ew68, va_up_ne _ _ (hj.ne hi (j := 26) (by decide) (fun e9 => hn (by rw [e9]; decide)))]
            have hk89 : ∀ i, U37 i → i ∉ [34, 36] → w85 (md i) = w79 (md i) := fun i hi hn => by rw [ew86, va_up_ne _ _ (hj.ne hi (j := 36) (by decide) (fun e9 => hn (by rw [e9]; decide))), ew83, va_up_ne _ _ (hj.ne hi (j := 34) (by decide) (fun e9 => hn (by rw [e9]; decide)))]
            have hk90 : ∀ i, U37 i → i ∉ [6, 32, 34, 36] → w85 (md i) = w73 (md i) := fun i hi hn => by rw [ew86, va_up_ne _ _ (hj.ne hi (j := 36) (by decide) (fun e9 => hn (by rw [e9]; decide))), ew83, va_up_ne _ _ (hj.ne hi (j := 34) (by decide) (fun e9 => hn (by rw [e9]; decide))), ew80, va_up_ne _ _ (hj.ne hi (j := 32) (by decide) (fun e9 => hn (by rw [e9]; decide))), ew77, va_up_ne _ _ (hj.ne hi (j := 6) (by decide) (fun e9 => hn (by rw [e9]; decide)))]
            have hk91 : ∀ i, U37 i → i ∉ [32, 34, 36] → w85 (md i) = w76 (md i) := fun i hi hn => by rw [ew86, va_up_ne _ _ (hj.ne hi (j := 36) (by decide) (fun e9 => hn (by rw [e9]; decide))), ew83, va_up_ne _ _ (hj.ne hi (j := 34) (by decide) (fun e9 => hn (by rw [e9]; decide))), ew80, va_up_ne _ _ (hj.ne hi (j := 32) (by decide) (fun e9 => hn (by rw [e9]; decide)))]
            have hk92 : ∀ i, U37 i → i ∉ [4, 6, 32, 34, 36] → w85 (md i) = w70 (md i) := fun i hi hn => by rw [ew86, va_up_ne _ _ (hj.ne hi (j := 36) (by decide) (fun e9 => hn (by rw [e9]; decide))), ew83, va_up_ne _ _ (hj.ne hi (j := 34) (by decide) (fun e9 => hn (by rw [e9]; decide))), ew80, va_up_ne _ _ (hj.ne hi (j := 32) (by decide) (fun e9 => hn (by rw [e9]; decide))), ew77, va_up_ne _ _ (hj.ne hi (j := 6) (by decide) (fun e9 => hn (by rw [e9]; decide))), ew74, va_up_ne _ _ (hj.ne hi (j := 4) (by decide) (fun e9 => hn (by rw [e9]; decide)))]
            exact W.vret hx hb hr (fun tS ht hW => ⟨⟨w85, rfl, ⟨⟨x, 0, hF0, Or.inr ⟨rfl, t, ht9, hnm, ⟨r36, (hk88 0 (by decide) (by decide)).trans r0, (hk89 1 (by decide) (by decide)).trans r1, (hk88 2 (by decide) (by decide)).trans r2, (hk88 3 (by decide) (by decide)).trans r3, (hk90 4 (by decide) (by decide)).trans r4, (hk88 5 (by decide) (by decide)).trans r5, (hk91 6 (by decide) (by decide)).trans r6, (hk88 7 (by decide) (by decide)).trans r7, (hk88 8 (by decide) (by decide)).trans r8, ⟨_, (hk88 9 (by decide) (by decide)).trans r9⟩, (hk88 10 (by decide) (by decide)).trans r10, (hk88 11 (by decide) (by decide)).trans r11, (hk88 12 (by decide) (by decide)).trans r12, (hk88 13 (by decide) (by decide)).trans r13, (hk88 14 (by decide) (by decide)).trans r14, (hk88 15 (by decide) (by decide)).trans r15, (hk88 23 (by decide) (by decide)).trans r23, (hk88 24 (by decide) (by decide)).trans r24, (hk88 25 (by decide) (by decide)).trans r25, r26, (hk88 27 (by decide) (by decide)).trans r27, (hk88 28 (by decide) (by decide)).trans r28, (hk88 29 (by decide) (by decide)).trans r29, (hk88 30 (by decide) (by decide)).trans r30, (hk92 31 (by decide) (by decide)).trans r31, (hk89 32 (by decide) (by decide)).trans r32, (hk88 33 (by decide) (by decide)).trans r33, r34⟩⟩⟩, ho87⟩, mB_of ht hP⟩, hS.F ht⟩) hS.2.2 d_D_nextCandidate_217
          · refine lv_lconst (v := 1) hx hb d_D_nextCandidate_206 (by decide) ?_
            refine lv_goto (tgt := 211) hx hb d_D_nextCandidate_207 (by decide) ?_
            have r34 : w79 (md 34) = some (.inl (dA 1, 13, .inr (.inl (m_sum μ)))) := by rw [ew80, va_up_ne _ _ (hj.ne (i := 34) (j := 32) (by decide) (by decide) (by decide)), ew77, va_up_ne _ _ (hj.ne (i := 34) (j := 6) (by decide) (by decide) (by decide)), ew74, va_up_ne _ _ (hj.ne (i := 34) (j := 4) (by decide) (by decide) (by decide)), ew71, va_up_ne _ _ (hj.ne (i := 34) (j := 31) (by decide) (by decide) (by decide)), ew68, va_up_ne _ _ (hj.ne (i := 34) (j := 26) (by decide) (by decide) (by decide))]; exact r34
            refine fw_last (tys := tyl dA) hx hb hK hP hS r34 1 rfl (j := f) (by omega) (by decide) d_D_nextCandidate_211 (fun w93 H locs ew94 hP hS => ?_)
            have r34 : w93 (md 34) = some (.inl (dA 1, 13, .inr (.inl (vp_updL (m_sum μ) f 1)))) := by rw [ew94]; exact va_up_self _ _ _
            have ho95 : OutD md w w93 := OutD.up ho81 ew94 (by decide)
            refine lv_aload_n hx hb d_D_nextCandidate_212 rfl (lv_at hl 1 rfl) ?_
            refine lv_iconst (v := (nI 1)) hx hb d_D_nextCandidate_213 (by decide) ?_
            have r36 : w93 (md 36) = some (.inr (5, [.ref (md 0), .ref (md 1), .ref (md 2), .ref (md 3), .ref (md 4), .ref (md 5), .ref (md 6), .ref (md 7), .ref (md 8), .ref (md 9), .ref (md 10), .ref (md 11), .ref (md 12), .ref (md 13), .ref (md 14), .ref (md 15), .int (nI (m_cached μ)), .int (nI (m_ocached μ)), .int (m_circ μ), .int (m_ocirc μ), .int (nI (m_thr μ)), .int (nI (m_wkr μ)), .int (nI (m_ran μ).toNat), .ref (md 23), .ref (md 24), .ref (md 25), .ref (md 26), .ref (md 27), .ref (md 28), .ref (md 29), .ref (md 30), .ref (md 31), .ref (md 32), .ref (md 33), .ref (md 34), .int (nI (m_hgt μ))])) := by rw [ew94, va_up_ne _ _ (hj.ne (i := 36) (j := 34) (by decide) (by decide) (by decide))]; exact r36
            refine fw_put (D := (dC, dI)) (ci := 5) (v := .int (nI 1)) (ty := .boolean) (C := R_D) (T := F_D) (N := 36) hx hb hg in_D ft_D ft_D_ok n_D hown hK hP hS r36 rfl 22 (by decide) (hg _ k_613) (fun _ h9 => h9) rfl (by decide +kernel) (by decide) (by decide) (Nat.le_of_ble_eq_true rfl) d_D_nextCandidate_214 (fun w96 H locs ew97 hP hS => ?_)
            have r36 : w96 (md 36) = some (.inr (5, [.ref (md 0), .ref (md 1), .ref (md 2), .ref (md 3), .ref (md 4), .ref (md 5), .ref (md 6), .ref (md 7), .ref (md 8), .ref (md 9), .ref (md 10), .ref (md 11), .ref (md 12), .ref (md 13), .ref (md 14), .ref (md 15), .int (nI (m_cached μ)), .int (nI (m_ocached μ)), .int (m_circ μ), .int (m_ocirc μ), .int (nI (m_thr μ)), .int (nI (m_wkr μ)), .int (nI 1), .ref (md 23), .ref (md 24), .ref (md 25), .ref (md 26), .ref (md 27), .ref (md 28), .ref (md 29), .ref (md 30), .ref (md 31), .ref (md 32), .ref (md 33), .ref (md 34), .int (nI (m_hgt μ))])) := by rw [ew97]; exact va_up_self _ _ _
            have ho98 : OutD md w w96 := OutD.up ho95 ew97 (by decide)
            have r26 : w96 (md 26) = some (.inl (dA 0, 13, .inl (nf (va_up (va_up (m_ph μ) f 2) f 3)))) := by rw [ew97, va_up_ne _ _ (hj.ne (i := 26) (j := 36) (by decide) (by decide) (by decide)), ew94, va_up_ne _ _ (hj.ne (i := 26) (j := 34) (by decide) (by decide) (by decide)), ew80, va_up_ne _ _ (hj.ne (i := 26) (j := 32) (by decide) (by decide) (by decide)), ew77, va_up_ne _ _ (hj.ne (i := 26) (j := 6) (by decide) (by decide) (by decide)), ew74, va_up_ne _ _ (hj.ne (i := 26) (j := 4) (by decide) (by decide) (by decide)), ew71, va_up_ne _ _ (hj.ne (i := 26) (j := 31) (by decide) (by decide) (by decide))]; exact r26
            have r26 : w96 (md 26) = some (.inl (dA 0, 13, .inl (nf (va_up (m_ph μ) f 3)))) := by rw [← vu_up (m_ph μ) f 2 3]; exact r26
            have r34 : w96 (md 34) = some (.inl (dA 1, 13, .inr (.inl (vp_updL (m_sum μ) f 1)))) := by rw [ew97, va_up_ne _ _ (hj.ne (i := 34) (j := 36) (by decide) (by decide) (by decide))]; exact r34
            have r34 : w96 (md 34) = some (.inl (dA 1, 13, .inr (.inl (vp_updL (m_sum μ) f (if m_rule μ (m_key μ f) = 1 then 1 else 0))))) := by rw [if_pos c3]; exact r34
            have hk99 : ∀ i, U37 i → i ∉ [4, 6, 26, 31, 32, 34, 36] → w96 (md i) = w65 (md i) := fun i hi hn => by rw [ew97, va_up_ne _ _ (hj.ne hi (j := 36) (by decide) (fun e9 => hn (by rw [e9]; decide))), ew94, va_up_ne _ _ (hj.ne hi (j := 34) (by decide) (fun e9 => hn (by rw [e9]; decide))), ew80, va_up_ne _ _ (hj.ne hi (j := 32) (by decide) (fun e9 => hn (by rw [e9]; decide))), ew77, va_up_ne _ _ (hj.ne hi (j := 6) (by decide) (fun e9 => hn (by rw [e9]; decide))), ew74, va_up_ne _ _ (hj.ne hi (j := 4) (by decide) (fun e9 => hn (by rw [e9]; decide))), ew71, va_up_ne _ _ (hj.ne hi (j := 31) (by decide) (fun e9 => hn (by rw [e9]; decide))), ew68, va_up_ne _ _ (hj.ne hi (j := 26) (by decide) (fun e9 => hn (by rw [e9]; decide)))]
            have hk100 : ∀ i, U37 i → i ∉ [34, 36] → w96 (md i) = w79 (md i) := fun i hi hn => by rw [ew97, va_up_ne _ _ (hj.ne hi (j := 36) (by decide) (fun e9 => hn (by rw [e9]; decide))), ew94, va_up_ne _ _ (hj.ne hi (j := 34) (by decide) (fun e9 => hn (by rw [e9]; decide)))]
            have hk101 : ∀ i, U37 i → i ∉ [6, 32, 34, 36] → w96 (md i) = w73 (md i) := fun i hi hn => by rw [ew97, va_up_ne _ _ (hj.ne hi (j := 36) (by decide) (fun e9 => hn (by rw [e9]; decide))), ew94, va_up_ne _ _ (hj.ne hi (j := 34) (by decide) (fun e9 => hn (by rw [e9]; decide))), ew80, va_up_ne _ _ (hj.ne hi (j := 32) (by decide) (fun e9 => hn (by rw [e9]; decide))), ew77, va_up_ne _ _ (hj.ne hi (j := 6) (by decide) (fun e9 => hn (by rw [e9]; decide)))]
            have hk102 : ∀ i, U37 i → i ∉ [32, 34, 36] → w96 (md i) = w76 (md i) := fun i hi hn => by rw [ew97, va_up_ne _ _ (hj.ne hi (j := 36) (by decide) (fun e9 => hn (by rw [e9]; decide))), ew94, va_up_ne _ _ (hj.ne hi (j := 34) (by decide) (fun e9 => hn (by rw [e9]; decide))), ew80, va_up_ne _ _ (hj.ne hi (j := 32) (by decide) (fun e9 => hn (by rw [e9]; decide)))]
            have hk103 : ∀ i, U37 i → i ∉ [4, 6, 32, 34, 36] → w96 (md i) = w70 (md i) := fun i hi hn => by rw [ew97, va_up_ne _ _ (hj.ne hi (j := 36) (by decide) (fun e9 => hn (by rw [e9]; decide))), ew94, va_up_ne _ _ (hj.ne hi (j := 34) (by decide) (fun e9 => hn (by rw [e9]; decide))), ew80, va_up_ne _ _ (hj.ne hi (j := 32) (by decide) (fun e9 => hn (by rw [e9]; decide))), ew77, va_up_ne _ _ (hj.ne hi (j := 6) (by decide) (fun e9 => hn (by rw [e9]; decide))), ew74, va_up_ne _ _ (hj.ne hi (j := 4) (by decide) (fun e9 => hn (by rw [e9]; decide)))]
            exact W.vret hx hb hr (fun tS ht hW => ⟨⟨w96, rfl, ⟨⟨x, 0, hF0, Or.inr ⟨rfl, t, ht9, hnm, ⟨r36, (hk99 0 (by decide) (by decide)).trans r0, (hk100 1 (by decide) (by decide)).trans r1, (hk99 2 (by decide) (by decide)).trans r2, (hk99 3 (by decide) (by decide)).trans r3, (hk101 4 (by decide) (by decide)).trans r4, (hk99 5 (by decide) (by decide)).trans r5, (hk102 6 (by decide) (by decide)).trans r6, (hk99 7 (by decide) (by decide)).trans r7, (hk99 8 (by decide) (by decide)).trans r8, ⟨_, (hk99 9 (by decide) (by decide)).trans r9⟩, (hk99 10 (by decide) (by decide)).trans r10, (hk99 11 (by decide) (by decide)).trans r11, (hk99 12 (by decide) (by decide)).trans r12, (hk99 13 (by decide) (by decide)).trans r13, (hk99 14 (by decide) (by decide)).trans r14, (hk99 15 (by decide) (by decide)).trans r15, (hk99 23 (by decide) (by decide)).trans r23, (hk99 24 (by decide) (by decide)).trans r24, (hk99 25 (by decide) (by decide)).trans r25, r26, (hk99 27 (by decide) (by decide)).trans r27, (hk99 28 (by decide) (by decide)).trans r28, (hk99 29 (by decide) (by decide)).trans r29, (hk99 30 (by decide) (by decide)).trans r30, (hk103 31 (by decide) (by decide)).trans r31, (hk100 32 (by decide) (by decide)).trans r32, (hk99 33 (by decide) (by decide)).trans r33, r34⟩⟩⟩, ho98⟩, mB_of ht hP⟩, hS.F ht⟩) hS.2.2 d_D_nextCandidate_217
        · refine lv_aload_n hx hb d_D_nextCandidate_106 rfl (lv_at hl 0 rfl) ?_
          refine va_get (D := (dC, dI)) (ci := 5) (v := .ref (md 30)) (C := R_D) (T := F_D) (N := 36) hx hb hg in_D hown hK (hP.one r36) 0 rfl rfl 30 (by decide) (hg _ k_621) (fun _ h9 => h9) rfl d_D_nextCandidate_107 ?_
          refine lv_iload_n hx hb d_D_nextCandidate_110 rfl (lv_at hl 1 rfl) ?_
          refine lv_dup2_11 hx hb d_D_nextCandidate_111 rfl rfl ?_
          refine fw_iald (tys := tyl dA) hx hb hK hP r30 0 rfl (j := f) (by omega) (by decide) d_D_nextCandidate_112 ?_
          rw [show nf (va_up (m_cc μ) f c9) f = nI c9 from congrArg nI (va_up_self _ _ _)]
          refine lv_iconst (v := (nI 1)) hx hb d_D_nextCandidate_113 (by decide) ?_
          refine nu_isub (r := c9 - 1) hx hb d_D_nextCandidate_114 (by omega) ?_
          refine fw_iast (tys := tyl dA) hx hb hK hP hS r30 0 rfl (j := f) (x := (nI (c9 - 1))) (by omega) (by decide) d_D_nextCandidate_115 (fun w104 H locs ew105 hP hS => ?_)
          rw [nf_up] at ew105
          have r30 : w104 (md 30) = some (.inl (dA 0, 13, .inl (nf (va_up (va_up (m_cc μ) f c9) f (c9 - 1))))) := by rw [ew105]; exact va_up_self _ _ _
          have ho106 : OutD md w w104 := OutD.up ho63 ew105 (by decide)
          have r30 : w104 (md 30) = some (.inl (dA 0, 13, .inl (nf (va_up (m_cc μ) f (c9 - 1))))) := by rw [← vu_up (m_cc μ) f c9 (c9 - 1)]; exact r30
          refine lv_aload_n hx hb d_D_nextCandidate_116 rfl (lv_at hl 0 rfl) ?_
          have r36 : w104 (md 36) = some (.inr (5, [.ref (md 0), .ref (md 1), .ref (md 2), .ref (md 3), .ref (md 4), .ref (md 5), .ref (md 6), .ref (md 7), .ref (md 8), .ref (md 9), .ref (md 10), .ref (md 11), .ref (md 12), .ref (md 13), .ref (md 14), .ref (md 15), .int (nI (m_cached μ)), .int (nI (m_ocached μ)), .int (m_circ μ), .int (m_ocirc μ), .int (nI (m_thr μ)), .int (nI (m_wkr μ)), .int (nI (m_ran μ).toNat), .ref (md 23), .ref (md 24), .ref (md 25), .ref (md 26), .ref (md 27), .ref (md 28), .ref (md 29), .ref (md 30), .ref (md 31), .ref (md 32), .ref (md 33), .ref (md 34), .int (nI (m_hgt μ))])) := by rw [ew105, va_up_ne _ _ (hj.ne (i := 36) (j := 30) (by decide) (by decide) (by decide))]; exact r36
          refine va_get (D := (dC, dI)) (ci := 5) (v := .ref (md 27)) (C := R_D) (T := F_D) (N := 36) hx hb hg in_D hown hK (hP.one r36) 0 rfl rfl 27 (by decide) (hg _ k_618) (fun _ h9 => h9) rfl d_D_nextCandidate_117 ?_
          refine lv_iload_n hx hb d_D_nextCandidate_120 rfl (lv_at hl 1 rfl) ?_
          refine lv_aload_n hx hb d_D_nextCandidate_121 rfl (lv_at hl 0 rfl) ?_
          refine va_get (D := (dC, dI)) (ci := 5) (v := .ref (md 29)) (C := R_D) (T := F_D) (N := 36) hx hb hg in_D hown hK (hP.one r36) 0 rfl rfl 29 (by decide) (hg _ k_620) (fun _ h9 => h9) rfl d_D_nextCandidate_122 ?_
          refine lv_iload_n hx hb d_D_nextCandidate_125 rfl (lv_at hl 1 rfl) ?_
          refine lv_bipush (v := (nI 16)) hx hb d_D_nextCandidate_126 (by decide) ?_
          refine nu_imul (r := 16 * f) hx hb d_D_nextCandidate_128 (by omega) ?_
          refine lv_aload_n hx hb d_D_nextCandidate_129 rfl (lv_at hl 0 rfl) ?_
          refine va_get (D := (dC, dI)) (ci := 5) (v := .ref (md 30)) (C := R_D) (T := F_D) (N := 36) hx hb hg in_D hown hK (hP.one r36) 0 rfl rfl 30 (by decide) (hg _ k_621) (fun _ h9 => h9) rfl d_D_nextCandidate_130 ?_
          refine lv_iload_n hx hb d_D_nextCandidate_133 rfl (lv_at hl 1 rfl) ?_
          refine fw_iald (tys := tyl dA) hx hb hK hP r30 0 rfl (j := f) (by omega) (by decide) d_D_nextCandidate_134 ?_
          rw [show nf (va_up (m_cc μ) f (c9 - 1)) f = nI (c9 - 1) from congrArg nI (va_up_self _ _ _)]
          have hc16 := hF.2.2.1
          refine nu_iadd (r := 16 * f + (c9 - 1)) hx hb d_D_nextCandidate_135 (by omega) ?_
          have r29 : w104 (md 29) = some (.inl (dA 0, 208, .inl (nf x))) := by rw [ew105, va_up_ne _ _ (hj.ne (i := 29) (j := 30) (by decide) (by decide) (by decide)), ew62, va_up_ne _ _ (hj.ne (i := 29) (j := 28) (by decide) (by decide) (by decide))]; exact r29
          refine fw_iald (tys := tyl dA) hx hb hK hP r29 0 rfl (j := 16 * f + (c9 - 1)) (by omega) (by decide) d_D_nextCandidate_136 ?_
          have r27 : w104 (md 27) = some (.inl (dA 0, 13, .inl (m_chk μ))) := by rw [ew105, va_up_ne _ _ (hj.ne (i := 27) (j := 30) (by decide) (by decide) (by decide)), ew62, va_up_ne _ _ (hj.ne (i := 27) (j := 28) (by decide) (by decide) (by decide))]; exact r27
          refine fw_iast (tys := tyl dA) hx hb hK hP hS r27 0 rfl (j := f) (x := (nI (x (16 * f + (c9 - 1))))) (by omega) (by decide) d_D_nextCandidate_137 (fun w107 H locs ew108 hP hS => ?_)
          have r27 : w107 (md 27) = some (.inl (dA 0, 13, .inl (upd (m_chk μ) f (nI (x (16 * f + (c9 - 1))))))) := by rw [ew108]; exact va_up_self _ _ _
          have ho109 : OutD md w w107 := OutD.up ho106 ew108 (by decide)
          refine lv_aload_n hx hb d_D_nextCandidate_138 rfl (lv_at hl 0 rfl) ?_
          have r36 : w107 (md 36) = some (.inr (5, [.ref (md 0), .ref (md 1), .ref (md 2), .ref (md 3), .ref (md 4), .ref (md 5), .ref (md 6), .ref (md 7), .ref (md 8), .ref (md 9), .ref (md 10), .ref (md 11), .ref (md 12), .ref (md 13), .ref (md 14), .ref (md 15), .int (nI (m_cached μ)), .int (nI (m_ocached μ)), .int (m_circ μ), .int (m_ocirc μ), .int (nI (m_thr μ)), .int (nI (m_wkr μ)), .int (nI (m_ran μ).toNat), .ref (md 23), .ref (md 24), .ref (md 25), .ref (md 26), .ref (md 27), .ref (md 28), .ref (md 29), .ref (md 30), .ref (md 31), .ref (md 32), .ref (md 33), .ref (md 34), .int (nI (m_hgt μ))])) := by rw [ew108, va_up_ne _ _ (hj.ne (i := 36) (j := 27) (by decide) (by decide) (by decide))]; exact r36
          refine va_get (D := (dC, dI)) (ci := 5) (v := .ref (md 31)) (C := R_D) (T := F_D) (N := 36) hx hb hg in_D hown hK (hP.one r36) 0 rfl rfl 31 (by decide) (hg _ k_622) (fun _ h9 => h9) rfl d_D_nextCandidate_139 ?_
          refine lv_iload_n hx hb d_D_nextCandidate_142 rfl (lv_at hl 1 rfl) ?_
          refine lv_aload_n hx hb d_D_nextCandidate_143 rfl (lv_at hl 0 rfl) ?_
          refine va_get (D := (dC, dI)) (ci := 5) (v := .ref (md 27)) (C := R_D) (T := F_D) (N := 36) hx hb hg in_D hown hK (hP.one r36) 0 rfl rfl 27 (by decide) (hg _ k_618) (fun _ h9 => h9) rfl d_D_nextCandidate_144 ?_
          refine lv_iload_n hx hb d_D_nextCandidate_147 rfl (lv_at hl 1 rfl) ?_
          refine fw_iald (tys := tyl dA) hx hb hK hP r27 0 rfl (j := f) (by omega) (by decide) d_D_nextCandidate_148 ?_
          rw [show (upd (m_chk μ) f (nI (x (16 * f + (c9 - 1))))) f = nI (x (16 * f + (c9 - 1))) from pk_us]
          have r31 : w107 (md 31) = some (.inl (dA 0, 13, .inl (nf (m_mk μ)))) := by rw [ew108, va_up_ne _ _ (hj.ne (i := 31) (j := 27) (by decide) (by decide) (by decide)), ew105, va_up_ne _ _ (hj.ne (i := 31) (j := 30) (by decide) (by decide) (by decide)), ew62, va_up_ne _ _ (hj.ne (i := 31) (j := 28) (by decide) (by decide) (by decide))]; exact r31
          refine fw_iast (tys := tyl dA) hx hb hK hP hS r31 0 rfl (j := f) (x := (nI (x (16 * f + (c9 - 1))))) (by omega) (by decide) d_D_nextCandidate_149 (fun w110 H locs ew111 hP hS => ?_)
          rw [nf_up] at ew111
          have r31 : w110 (md 31) = some (.inl (dA 0, 13, .inl (nf (va_up (m_mk μ) f (x (16 * f + (c9 - 1))))))) := by rw [ew111]; exact va_up_self _ _ _
          have ho112 : OutD md w w110 := OutD.up ho109 ew111 (by decide)
          have hk113 : ∀ i, U37 i → i ∉ [31] → w110 (md i) = w107 (md i) := fun i hi hn => by rw [ew111, va_up_ne _ _ (hj.ne hi (j := 31) (by decide) (fun e9 => hn (by rw [e9]; decide)))]
          have hk114 : ∀ i, U37 i → i ∉ [27, 28, 30, 31] → w110 (md i) = wl (md i) := fun i hi hn => by rw [ew111, va_up_ne _ _ (hj.ne hi (j := 31) (by decide) (fun e9 => hn (by rw [e9]; decide))), ew108, va_up_ne _ _ (hj.ne hi (j := 27) (by decide) (fun e9 => hn (by rw [e9]; decide))), ew105, va_up_ne _ _ (hj.ne hi (j := 30) (by decide) (fun e9 => hn (by rw [e9]; decide))), ew62, va_up_ne _ _ (hj.ne hi (j := 28) (by decide) (fun e9 => hn (by rw [e9]; decide)))]
          have hk115 : ∀ i, U37 i → i ∉ [27, 30, 31] → w110 (md i) = w61 (md i) := fun i hi hn => by rw [ew111, va_up_ne _ _ (hj.ne hi (j := 31) (by decide) (fun e9 => hn (by rw [e9]; decide))), ew108, va_up_ne _ _ (hj.ne hi (j := 27) (by decide) (fun e9 => hn (by rw [e9]; decide))), ew105, va_up_ne _ _ (hj.ne hi (j := 30) (by decide) (fun e9 => hn (by rw [e9]; decide)))]
          have hk116 : ∀ i, U37 i → i ∉ [27, 31] → w110 (md i) = w104 (md i) := fun i hi hn => by rw [ew111, va_up_ne _ _ (hj.ne hi (j := 31) (by decide) (fun e9 => hn (by rw [e9]; decide))), ew108, va_up_ne _ _ (hj.ne hi (j := 27) (by decide) (fun e9 => hn (by rw [e9]; decide)))]
          exact W.vret hx hb hr (fun tS ht hW => ⟨⟨w110, rfl, ⟨⟨x, c9, hF, Or.inl ⟨c2, ⟨(hk113 36 (by decide) (by decide)).trans r36, (hk114 0 (by decide) (by decide)).trans r0, (hk114 1 (by decide) (by decide)).trans r1, (hk114 2 (by decide) (by decide)).trans r2, (hk114 3 (by decide) (by decide)).trans r3, (hk114 4 (by decide) (by decide)).trans r4, (hk114 5 (by decide) (by decide)).trans r5, (hk114 6 (by decide) (by decide)).trans r6, (hk114 7 (by decide) (by decide)).trans r7, (hk114 8 (by decide) (by decide)).trans r8, ⟨_, (hk114 9 (by decide) (by decide)).trans r9⟩, (hk114 10 (by decide) (by decide)).trans r10, (hk114 11 (by decide) (by decide)).trans r11, (hk114 12 (by decide) (by decide)).trans r12, (hk114 13 (by decide) (by decide)).trans r13, (hk114 14 (by decide) (by decide)).trans r14, (hk114 15 (by decide) (by decide)).trans r15, (hk114 23 (by decide) (by decide)).trans r23, (hk114 24 (by decide) (by decide)).trans r24, (hk114 25 (by decide) (by decide)).trans r25, (hk114 26 (by decide) (by decide)).trans r26, (hk113 27 (by decide) (by decide)).trans r27, (hk115 28 (by decide) (by decide)).trans r28, (hk116 29 (by decide) (by decide)).trans r29, (hk116 30 (by decide) (by decide)).trans r30, r31, (hk114 32 (by decide) (by decide)).trans r32, (hk114 33 (by decide) (by decide)).trans r33, (hk114 34 (by decide) (by decide)).trans r34⟩⟩⟩, ho112⟩, mB_of ht hP⟩, hS.F ht⟩) hS.2.2 d_D_nextCandidate_150
      · have es := o4b i (by omega)
        have eo := n7b i (by omega)
        refine lv_aload_n hx hb d_D_nextCandidate_34 rfl (lv_at hl 0 rfl) ?_
        refine va_get (D := (dC, dI)) (ci := 5) (v := .ref (md 6)) (C := R_D) (T := F_D) (N := 36) hx hb hg in_D hown hK (hP.one r36) 0 rfl rfl 6 (by decide) (hg _ k_597) (fun _ h9 => h9) rfl d_D_nextCandidate_35 ?_
        refine lv_aload_n hx hb d_D_nextCandidate_38 rfl (lv_at hl 0 rfl) ?_
        refine va_get (D := (dC, dI)) (ci := 5) (v := .ref (md 12)) (C := R_D) (T := F_D) (N := 36) hx hb hg in_D hown hK (hP.one r36) 0 rfl rfl 12 (by decide) (hg _ k_603) (fun _ h9 => h9) rfl d_D_nextCandidate_39 ?_
        refine lv_iload_n hx hb d_D_nextCandidate_42 rfl (lv_at hl 3 rfl) ?_
        have r12 : wl (md 12) = some (.inl (dA 0, 17, .inl (nf (m_cch μ)))) := r12
        refine fw_iald (tys := tyl dA) hx hb hK hP r12 0 rfl (j := i) (by omega) (by decide) d_D_nextCandidate_43 ?_
        have r6 : wl (md 6) = some (.inl (dA 0, 320, .inl (nf (m_own μ)))) := r6
        refine fw_iald (tys := tyl dA) hx hb hK hP r6 0 rfl (j := (m_cch μ) i) es (by decide) d_D_nextCandidate_44 ?_
        refine lv_iload_n hx hb d_D_nextCandidate_45 rfl (lv_at hl 2 rfl) ?_
        refine nu_eq (tgt := 52) hx hb (by omega) (by omega) d_D_nextCandidate_46 (by decide) (fun c4 => ?_) (fun c4 => ?_)
        · refine lv_aload_n hx hb d_D_nextCandidate_52 rfl (lv_at hl 0 rfl) ?_
          refine va_get (D := (dC, dI)) (ci := 5) (v := .ref (md 29)) (C := R_D) (T := F_D) (N := 36) hx hb hg in_D hown hK (hP.one r36) 0 rfl rfl 29 (by decide) (hg _ k_620) (fun _ h9 => h9) rfl d_D_nextCandidate_53 ?_
          refine lv_iload_n hx hb d_D_nextCandidate_56 rfl (lv_at hl 1 rfl) ?_
          refine lv_bipush (v := (nI 16)) hx hb d_D_nextCandidate_57 (by decide) ?_
          refine nu_imul (r := 16 * f) hx hb d_D_nextCandidate_59 (by omega) ?_
          refine lv_aload_n hx hb d_D_nextCandidate_60 rfl (lv_at hl 0 rfl) ?_
          refine va_get (D := (dC, dI)) (ci := 5) (v := .ref (md 30)) (C := R_D) (T := F_D) (N := 36) hx hb hg in_D hown hK (hP.one r36) 0 rfl rfl 30 (by decide) (hg _ k_621) (fun _ h9 => h9) rfl d_D_nextCandidate_61 ?_
          refine lv_iload_n hx hb d_D_nextCandidate_64 rfl (lv_at hl 1 rfl) ?_
          have r30 : wl (md 30) = some (.inl (dA 0, 13, .inl (nf (va_up (m_cc μ) f c9)))) := r30
          refine fw_iald (tys := tyl dA) hx hb hK hP r30 0 rfl (j := f) (by omega) (by decide) d_D_nextCandidate_65 ?_
          rw [show nf (va_up (m_cc μ) f c9) f = nI c9 from congrArg nI (va_up_self _ _ _)]
          refine nu_iadd (r := 16 * f + c9) hx hb d_D_nextCandidate_66 (by omega) ?_
          refine lv_aload_n hx hb d_D_nextCandidate_67 rfl (lv_at hl 0 rfl) ?_
          refine va_get (D := (dC, dI)) (ci := 5) (v := .ref (md 12)) (C := R_D) (T := F_D) (N := 36) hx hb hg in_D hown hK (hP.one r36) 0 rfl rfl 12 (by decide) (hg _ k_603) (fun _ h9 => h9) rfl d_D_nextCandidate_68 ?_
          refine lv_iload_n hx hb d_D_nextCandidate_71 rfl (lv_at hl 3 rfl) ?_
          refine fw_iald (tys := tyl dA) hx hb hK hP r12 0 rfl (j := i) (by omega) (by decide) d_D_nextCandidate_72 ?_
          have r29 : wl (md 29) = some (.inl (dA 0, 208, .inl (nf x))) := r29
          refine fw_iast (tys := tyl dA) hx hb hK hP hS r29 0 rfl (j := 16 * f + c9) (x := (nI ((m_cch μ) i))) (by omega) (by decide) d_D_nextCandidate_73 (fun w117 H locs ew118 hP hS => ?_)
          rw [nf_up] at ew118
          have r29 : w117 (md 29) = some (.inl (dA 0, 208, .inl (nf (va_up x (16 * f + c9) ((m_cch μ) i))))) := by rw [ew118]; exact va_up_self _ _ _
          have ho119 : OutD md w w117 := OutD.up ho9 ew118 (by decide)
          refine lv_aload_n hx hb d_D_nextCandidate_74 rfl (lv_at hl 0 rfl) ?_
          have r36 : w117 (md 36) = some (.inr (5, [.ref (md 0), .ref (md 1), .ref (md 2), .ref (md 3), .ref (md 4), .ref (md 5), .ref (md 6), .ref (md 7), .ref (md 8), .ref (md 9), .ref (md 10), .ref (md 11), .ref (md 12), .ref (md 13), .ref (md 14), .ref (md 15), .int (nI (m_cached μ)), .int (nI (m_ocached μ)), .int (m_circ μ), .int (m_ocirc μ), .int (nI (m_thr μ)), .int (nI (m_wkr μ)), .int (nI (m_ran μ).toNat), .ref (md 23), .ref (md 24), .ref (md 25), .ref (md 26), .ref (md 27), .ref (md 28), .ref (md 29), .ref (md 30), .ref (md 31), .ref (md 32), .ref (md 33), .ref (md 34), .int (nI (m_hgt μ))])) := by rw [ew118, va_up_ne _ _ (hj.ne (i := 36) (j := 29) (by decide) (by decide) (by decide))]; exact r36
          refine va_get (D := (dC, dI)) (ci := 5) (v := .ref (md 30)) (C := R_D) (T := F_D) (N := 36) hx hb hg in_D hown hK (hP.one r36) 0 rfl rfl 30 (by decide) (hg _ k_621) (fun _ h9 => h9) rfl d_D_nextCandidate_75 ?_
          refine lv_iload_n hx hb d_D_nextCandidate_78 rfl (lv_at hl 1 rfl) ?_
          refine lv_dup2_11 hx hb d_D_nextCandidate_79 rfl rfl ?_
          have r30 : w117 (md 30) = some (.inl (dA 0, 13, .inl (nf (va_up (m_cc μ) f c9)))) := by rw [ew118, va_up_ne _ _ (hj.ne (i := 30) (j := 29) (by decide) (by decide) (by decide))]; exact r30
          refine fw_iald (tys := tyl dA) hx hb hK hP r30 0 rfl (j := f) (by omega) (by decide) d_D_nextCandidate_80 ?_
          rw [show nf (va_up (m_cc μ) f c9) f = nI c9 from congrArg nI (va_up_self _ _ _)]
          refine lv_iconst (v := (nI 1)) hx hb d_D_nextCandidate_81 (by decide) ?_
          refine nu_iadd (r := c9 + 1) hx hb d_D_nextCandidate_82 (by omega) ?_
          refine fw_iast (tys := tyl dA) hx hb hK hP hS r30 0 rfl (j := f) (x := (nI (c9 + 1))) (by omega) (by decide) d_D_nextCandidate_83 (fun w120 H locs ew121 hP hS => ?_)
          rw [nf_up] at ew121
          have r30 : w120 (md 30) = some (.inl (dA 0, 13, .inl (nf (va_up (va_up (m_cc μ) f c9) f (c9 + 1))))) := by rw [ew121]; exact va_up_self _ _ _
          have ho122 : OutD md w w120 := OutD.up ho119 ew121 (by decide)
          have r30 : w120 (md 30) = some (.inl (dA 0, 13, .inl (nf (va_up (m_cc μ) f (c9 + 1))))) := by rw [← vu_up (m_cc μ) f c9 (c9 + 1)]; exact r30
          refine lv_iinc (v := nI (i + 1)) (lv' := [(3, .int (nI (i + 1))), (0, .ref (md 36)), (1, .int (nI f)), (2, .int (nI (m_key μ f)))]) hx hb d_D_nextCandidate_84 hl (k := 3) rfl (nI_add _ 1) (by decide) rfl (fun ls hl => ?_)
          refine lv_goto (tgt := 26) hx hb d_D_nextCandidate_87 (by decide) ?_
          have hk123 : ∀ i, U37 i → i ∉ [30] → w120 (md i) = w117 (md i) := fun i hi hn => by rw [ew121, va_up_ne _ _ (hj.ne hi (j := 30) (by decide) (fun e9 => hn (by rw [e9]; decide)))]
          have hk124 : ∀ i, U37 i → i ∉ [29, 30] → w120 (md i) = wl (md i) := fun i hi hn => by rw [ew121, va_up_ne _ _ (hj.ne hi (j := 30) (by decide) (fun e9 => hn (by rw [e9]; decide))), ew118, va_up_ne _ _ (hj.ne hi (j := 29) (by decide) (fun e9 => hn (by rw [e9]; decide)))]
          exact ih (i + 1) (c9 + 1) (va_up x (16 * f + c9) (m_cch μ i)) (by omega) (by omega) (by rw [lstN_w, filt_s, if_pos (by simp; omega), hx1]) (fun z hz => by rw [va_up_ne _ _ (by omega)]; exact hx2 z hz) (by omega) _ _ _  (⟨(hk123 36 (by decide) (by decide)).trans r36, (hk124 0 (by decide) (by decide)).trans r0, (hk124 1 (by decide) (by decide)).trans r1, (hk124 2 (by decide) (by decide)).trans r2, (hk124 3 (by decide) (by decide)).trans r3, (hk124 4 (by decide) (by decide)).trans r4, (hk124 5 (by decide) (by decide)).trans r5, (hk124 6 (by decide) (by decide)).trans r6, (hk124 7 (by decide) (by decide)).trans r7, (hk124 8 (by decide) (by decide)).trans r8, ⟨_, (hk124 9 (by decide) (by decide)).trans r9⟩, (hk124 10 (by decide) (by decide)).trans r10, (hk124 11 (by decide) (by decide)).trans r11, (hk124 12 (by decide) (by decide)).trans r12, (hk124 13 (by decide) (by decide)).trans r13, (hk124 14 (by decide) (by decide)).trans r14, (hk124 15 (by decide) (by decide)).trans r15, (hk124 23 (by decide) (by decide)).trans r23, (hk124 24 (by decide) (by decide)).trans r24, (hk124 25 (by decide) (by decide)).trans r25, (hk124 26 (by decide) (by decide)).trans r26, (hk124 27 (by decide) (by decide)).trans r27, (hk124 28 (by decide) (by decide)).trans r28, (hk123 29 (by decide) (by decide)).trans r29, r30, (hk124 31 (by decide) (by decide)).trans r31, (hk124 32 (by decide) (by decide)).trans r32, (hk124 33 (by decide) (by decide)).trans r33, (hk124 34 (by decide) (by decide)).trans r34⟩) ho122 hP hS ls (lv_sub hl [1, 2, 3, 0] rfl)
        · refine lv_goto (tgt := 84) hx hb d_D_nextCandidate_49 (by decide) ?_
          refine lv_iinc (v := nI (i + 1)) (lv' := [(3, .int (nI (i + 1))), (0, .ref (md 36)), (1, .int (nI f)), (2, .int (nI (m_key μ f)))]) hx hb d_D_nextCandidate_84 hl (k := 3) rfl (nI_add _ 1) (by decide) rfl (fun ls hl => ?_)
          refine lv_goto (tgt := 26) hx hb d_D_nextCandidate_87 (by decide) ?_
          exact ih (i + 1) c9 x (by omega) (by omega) (by rw [filt_s, if_neg (by simp; omega), hx1, List.append_nil]) hx2 (by omega) _ _ _  (⟨r36, r0, r1, r2, r3, r4, r5, r6, r7, r8, ⟨_, r9⟩, r10, r11, r12, r13, r14, r15, r23, r24, r25, r26, r27, r28, r29, r30, r31, r32, r33, r34⟩) ho9 hP hS ls (lv_sub hl [1, 2, 3, 0] rfl)
