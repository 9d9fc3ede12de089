/-! one turn of the reference's loop, as a relation -/
def Nx (μ : MS) (f : Nat) (μ' : MS) : Prop := ∃ (x : Nat → Nat) (c : Nat), FillR μ f x c ∧ ((0 < c ∧ μ' = dCand f x c μ) ∨ (c = 0 ∧ ∃ t, t < 320 ∧ t ∉ marks (dPre f x 0 μ) ∧ μ' = dRun f x t μ))
def St3 (μ : MS) (f : Nat) (μ' : MS) : Prop := (dWant μ f = -1 ∧ dEndC (m_rule μ (m_key μ f)) (m_asked μ f) (m_first μ f) (m_sum μ f) = 0 ∧ ∃ (x : Nat → Nat) (c : Nat), μ' = dEnd f x c (dEndV (m_rule μ (m_key μ f)) (m_first μ f) (m_sum μ f)) μ ∧ lstN x c = (lstN (m_cch μ) (m_cached μ) ++ [m_mk μ f]).drop (m_cached μ + 1 - 16)) ∨
  (dWant μ f = -1 ∧ dEndC (m_rule μ (m_key μ f)) (m_asked μ f) (m_first μ f) (m_sum μ f) ≠ 0 ∧ μ' = dThr (dEndC (m_rule μ (m_key μ f)) (m_asked μ f) (m_first μ f) (m_sum μ f)) μ) ∨
  (∃ k, k < 12 ∧ dWant μ f = nI k ∧ ((dAskB k (dGo1 f μ) = false ∧ μ' = dAsk k (dGo1 f μ)) ∨ (dAskB k (dGo1 f μ) = true ∧ kn μ (m_mk μ f) k (m_size μ (m_mk μ f)) ∧ μ' = dTake f (m_val (dAsk k (dGo1 f μ)) k) (dAt f 0 (dAsk k (dGo1 f μ)))) ∨ (dAskB k (dGo1 f μ) = true ∧ ¬ kn μ (m_mk μ f) k (m_size μ (m_mk μ f)) ∧ μ' = dTake f (m_val (dAsk k (dGo1 f μ)) k) (dNote (m_mk μ f) k (m_val (dAsk k (dGo1 f μ)) k) (dAt f 0 (dAsk k (dGo1 f μ)))))))
def St1 (μ : MS) (f : Nat) (μ' : MS) : Prop := (m_chk μ f = -1 ∧ Nx μ f μ') ∨ ∃ t, t < 320 ∧ m_chk μ f = nI t ∧ ((m_at μ f = m_size μ t ∧ μ' = dHit f t μ) ∨ (m_at μ f < m_size μ t ∧ ∃ k, m_keys μ (12 * t + m_at μ f) = k ∧ ((dAskB k μ = false ∧ μ' = dAsk k μ) ∨ (dAskB k μ = true ∧ m_val (dAsk k μ) k = m_got μ (12 * t + m_at μ f) ∧ μ' = dAt f (m_at μ f + 1) (dAsk k μ)) ∨ (dAskB k μ = true ∧ m_val (dAsk k μ) k ≠ m_got μ (12 * t + m_at μ f) ∧ Nx (dAsk k μ) f μ'))))
def Step (μ μ' : MS) : Prop := (m_ph μ (m_hgt μ - 1) = 3 ∧ St3 μ (m_hgt μ - 1) μ') ∨ (m_ph μ (m_hgt μ - 1) ≠ 3 ∧ St1 μ (m_hgt μ - 1) μ')
def O3 (μ : MS) (f : Nat) : Prop := eOK μ f ∧ ((m_rule μ (m_key μ f) < 2 ∨ m_rule μ (m_key μ f) = 6) → m_asked μ f ≤ 3) ∧ m_hgt μ < 13 ∧ m_at μ f < 2 ∧ m_size μ (m_mk μ f) < 12 ∧ (∀ j, j < m_size μ (m_mk μ f) → m_keys μ (12 * m_mk μ f + j) < 12) ∧ (dWant μ f = -1 ∨ ∃ k, k < 12 ∧ dWant μ f = nI k ∧ m_st μ k < 3 ∧ m_sort μ k < 3)
def O1 (μ : MS) (f : Nat) : Prop := nOK μ f ∧ f < 12 ∧ m_wkr μ < 2 ∧ (m_chk μ f = -1 ∨ ∃ t, t < 320 ∧ m_chk μ f = nI t ∧ m_size μ t ≤ 3 ∧ (m_at μ f = m_size μ t ∨ (m_at μ f < m_size μ t ∧ m_keys μ (12 * t + m_at μ f) < 12 ∧ m_st μ (m_keys μ (12 * t + m_at μ f)) < 3 ∧ m_sort μ (m_keys μ (12 * t + m_at μ f)) < 3)))
def iOK (μ : MS) : Prop := m_hgt μ < 13 ∧ m_thr μ < 10 ∧ m_ph μ (m_hgt μ - 1) < 4 ∧ (m_ph μ (m_hgt μ - 1) = 3 → O3 μ (m_hgt μ - 1)) ∧ (m_ph μ (m_hgt μ - 1) ≠ 3 → O1 μ (m_hgt μ - 1))
def zOK (μ : MS) : Prop := m_hgt μ ≤ 12 ∧ m_thr μ < 10 ∧ ∀ f, f < m_hgt μ → m_ph μ f < 4
def stops (μ : MS) : Prop := m_hgt μ = 0 ∨ m_thr μ ≠ 0
/-- closed under one turn of the loop -/
def Cl (Z X : MS → Prop) : Prop := ∀ μ, (stops μ → zOK μ → Z μ → X μ) ∧ (¬ stops μ → iOK μ → (∀ μ', Step μ μ' → X μ') → X μ)
/-- the loop comes from μ to an end at which Z holds -/
def Rch (Z : MS → Prop) (μ : MS) : Prop := ∀ X : MS → Prop, Cl Z X → X μ
def c3 (ph : Nat → Nat) (cn : Nat → Int32) : Nat → (Nat → Int32)
  | 0 => cn
  | n + 1 => if ph n = 3 then upd (c3 ph cn n) 4 (c3 ph cn n 4 + nI 1) else c3 ph cn n
def dInit (wk : Nat) (st : Nat → Nat) (μ : MS) : MS := u_fr (u_se μ (m_thr μ, wk, false, st, m_val μ)) (m_key μ, m_ph μ, m_chk μ, m_at μ, m_cand μ, m_cc μ, m_mk μ, m_asked μ, m_first μ, m_sum μ, 0)
def dClose (μ : MS) : MS := u_fr (u_mm μ (m_trc μ, m_cch μ, m_cached μ, c3 (m_ph μ) (m_cnt μ) (m_hgt μ), m_circ μ)) (m_key μ, m_ph μ, m_chk μ, m_at μ, m_cand μ, m_cc μ, m_mk μ, m_asked μ, m_first μ, m_sum μ, 0)
theorem NxR.nx {dA : Nat → ClassId} {md : Nat → Nat} {w : fw_W} {μ : MS} {f : Nat} (h : NxR dA md w μ f) : ∃ μ', Nx μ f μ' ∧ RD dA md w μ' := by
  obtain ⟨x, c, hF, h | ⟨h0, t, h1, h2, h3⟩⟩ := h
  · exact ⟨_, ⟨x, c, hF, Or.inl ⟨h.1, rfl⟩⟩, h.2⟩
  · exact ⟨_, ⟨x, c, hF, Or.inr ⟨h0, t, h1, h2, rfl⟩⟩, h3⟩
set_option maxHeartbeats 4000000 in
set_option maxRecDepth 100000 in
theorem c_D_session {l : Launch} {s0 : State} {dC : Nat → ClassId} {dI : Nat → Nat → Nat} {dA : Nat → ClassId} (B0 : BB s0 dC dI dA) (w : fw_W) (md : Nat → Nat) (μ : MS) (wk k : Nat) (Z : MS → Prop) (hj : Inj37 md) (hD : RD dA md w μ) (hwk : wk < 2) (hk : k < 12) (hq3 : m_sort μ k < 3) (hRch : ∀ st : Nat → Nat, (∀ j, j < 12 → st j = 0) → Rch Z (dAsk k (dInit wk st μ))) : Met l y_D_session [.code y_D_session b_D_session 5 (some .long)] ({ frames := 4, cells := 0, slots := 0, locals := 200 }) (mP s0 dC dI w [.ref (md 36), .int (nI wk), .int (nI k)]) (mQl s0 dC dI (fun r w' => ∃ μ', Z μ' ∧ RD dA md w' (dClose μ') ∧ r = (if m_thr μ' = 0 then m_val μ' k else 0) ∧ OutD md w w')) 0 0 (AA s0) := by
  refine mt_ofW B0 (by decide) (Nat.le_of_ble_eq_true rfl) (fun p e s m args below meth c ls hargs X hin hl hP => ?_)
  have X9 := X
  obtain ⟨hx, hb, hr, hml, hown, hg, hK, hn, hE, hlocks, hA⟩ := X9
  have hS : va_S (AA s0) s.heap s.heap [] := va_S.rf
  have hl : lv_has ls 5 [(0, .ref (md 36)), (1, .int (nI wk)), (2, .int (nI k))] := hl
  obtain ⟨r36, r0, r1, r2, r3, r4, r5, r6, r7, r8, ⟨u, r9⟩, r10, r11, r12, r13, r14, r15, r23, r24, r25, r26, r27, r28, r29, r30, r31, r32, r33, r34⟩ := (id hD)
  have fin : ∀ μ, zOK μ → Z μ → ∀ (wl : fw_W) (H : Heap) (locs : List Loc), RD dA md wl μ → OutD md w wl → fw_P (dC, dI) cls_ (AA s0) wl H → va_S (AA s0) s.heap H locs → ∀ (ls : Array Slot), lv_has ls 5 [(0, .ref (md 36)), (1, .int (nI wk)), (2, .int (nI k))] → W p l e ({ frames := 4, cells := 0, slots := 0, locals := 200 }) s m args below meth c H locs 0 0 (MQ below (mQl s0 dC dI (fun r w' => ∃ μ', Z μ' ∧ RD dA md w' (dClose μ') ∧ r = (if m_thr μ' = 0 then m_val μ' k else 0) ∧ OutD md w w')) args s 0 0 (AA s0)) (F0 m 93 ls []) := by
    intro μ hz hZ wl H locs hR9 ho9 hP hS ls hl
    obtain ⟨z1, z2, z3⟩ := hz
    have hD : RD dA md wl μ := hR9
    obtain ⟨r36, r0, r1, r2, r3, r4, r5, r6, r7, r8, ⟨u, r9⟩, r10, r11, r12, r13, r14, r15, r23, r24, r25, r26, r27, r28, r29, r30, r31, r32, r33, r34⟩ := (id hR9)
    refine lv_iconst (v := (nI 0)) hx hb d_D_session_93 (by decide) ?_
    refine lv_istore (lv' := [(4, .int (nI 0)), (0, .ref (md 36)), (1, .int (nI wk)), (2, .int (nI k))]) hx hb d_D_session_94 hl (by decide) rfl (fun ls hl => ?_)
    suffices lp : ∀ (n : Nat) (i : Nat), (i ≤ m_hgt μ) → (m_hgt μ < i + n) → ∀ (wm : fw_W) (H : Heap) (locs : List Loc), (RD dA md wm (u_mm μ (m_trc μ, m_cch μ, m_cached μ, c3 (m_ph μ) (m_cnt μ) i, m_circ μ))) → (OutD md w wm) → fw_P (dC, dI) cls_ (AA s0) wm H → va_S (AA s0) s.heap H locs → ∀ (ls : Array Slot), lv_has ls 5 [(0, .ref (md 36)), (1, .int (nI wk)), (2, .int (nI k)), (4, .int (nI i))] → W p l e _ s m args below meth c H locs 0 0 (MQ below _ args s 0 0 (AA s0)) (F0 m 96 ls []) from lp (m_hgt μ + 1) 0 (by omega) (by omega) _ _ _  (⟨r36, r0, r1, r2, r3, r4, r5, r6, r7, r8, ⟨_, r9⟩, r10, r11, r12, r13, r14, r15, r23, r24, r25, r26, r27, r28, r29, r30, r31, r32, r33, r34⟩) ho9 hP hS ls (lv_sub hl [1, 2, 3, 0] rfl)
    intro n
    induction n with
    | zero => intro i hi hbn; exact absurd hbn (by omega)
    | succ n ih =>
      intro i hi hbn wm H locs  hR7 ho7 hP hS ls hl
      obtain ⟨r36, r0, r1, r2, r3, r4, r5, r6, r7, r8, ⟨u, r9⟩, r10, r11, r12, r13, r14, r15, r23, r24, r25, r26, r27, r28, r29, r30, r31, r32, r33, r34⟩ := (id hR7)
      refine lv_iload hx hb d_D_session_96 (lv_at hl 3 rfl) ?_
      refine lv_aload_n hx hb d_D_session_98 rfl (lv_at hl 0 rfl) ?_
      have r36 : wm (md 36) = some (.inr (5, [.ref (md 0), .ref (md 1), .ref (md 2), .ref (md 3), .ref (md 4), .ref (md 5), .ref (md 6), .ref (md 7), .ref (md 8), .ref (md 9), .ref (md 10), .ref (md 11), .ref (md 12), .ref (md 13), .ref (md 14), .ref (md 15), .int (nI (m_cached μ)), .int (nI (m_ocached μ)), .int (m_circ μ), .int (m_ocirc μ), .int (nI (m_thr μ)), .int (nI (m_wkr μ)), .int (nI (m_ran μ).toNat), .ref (md 23), .ref (md 24), .ref (md 25), .ref (md 26), .ref (md 27), .ref (md 28), .ref (md 29), .ref (md 30), .ref (md 31), .ref (md 32), .ref (md 33), .ref (md 34), .int (nI (m_hgt μ))])) := r36
      refine va_get (D := (dC, dI)) (ci := 5) (v := .int (nI (m_hgt μ))) (C := R_D) (T := F_D) (N := 36) hx hb hg in_D hown hK (hP.one r36) 0 rfl rfl 35 (by decide) (hg _ k_626) (fun _ h9 => h9) rfl d_D_session_99 ?_
      refine nu_ge (tgt := 132) hx hb (by omega) (by omega) d_D_session_102 (by decide) (fun c5 => ?_) (fun c5 => ?_)
      · have hi9 : i = m_hgt μ := by omega
        rw [hi9] at hR7 r14
        refine lv_aload_n hx hb d_D_session_132 rfl (lv_at hl 0 rfl) ?_
        refine lv_iconst (v := (nI 0)) hx hb d_D_session_133 (by decide) ?_
        refine fw_put (D := (dC, dI)) (ci := 5) (v := .int (nI 0)) (ty := .int) (C := R_D) (T := F_D) (N := 36) hx hb hg in_D ft_D ft_D_ok n_D hown hK hP hS r36 rfl 35 (by decide) (hg _ k_626) (fun _ h9 => h9) rfl (by decide +kernel) rfl rfl (Nat.le_of_ble_eq_true rfl) d_D_session_134 (fun w1 H locs ew2 hP hS => ?_)
        have r36 : w1 (md 36) = some (.inr (5, [.ref (md 0), .ref (md 1), .ref (md 2), .ref (md 3), .ref (md 4), .ref (md 5), .ref (md 6), .ref (md 7), .ref (md 8), .ref (md 9), .ref (md 10), .ref (md 11), .ref (md 12), .ref (md 13), .ref (md 14), .ref (md 15), .int (nI (m_cached μ)), .int (nI (m_ocached μ)), .int (m_circ μ), .int (m_ocirc μ), .int (nI (m_thr μ)), .int (nI (m_wkr μ)), .int (nI (m_ran μ).toNat), .ref (md 23), .ref (md 24), .ref (md 25), .ref (md 26), .ref (md 27), .ref (md 28), .ref (md 29), .ref (md 30), .ref (md 31), .ref (md 32), .ref (md 33), .ref (md 34), .int (nI 0)])) := by rw [ew2]; exact va_up_self _ _ _
        have ho3 : OutD md w w1 := OutD.up ho7 ew2 (by decide)
        refine lv_aload_n hx hb d_D_session_137 rfl (lv_at hl 0 rfl) ?_
        refine va_get (D := (dC, dI)) (ci := 5) (v := .int (nI (m_thr μ))) (C := R_D) (T := F_D) (N := 36) hx hb hg in_D hown hK (hP.one r36) 0 rfl rfl 20 (by decide) (hg _ k_611) (fun _ h9 => h9) rfl d_D_session_138 ?_
        refine nu_zle (tgt := 148) hx hb (by omega) d_D_session_141 (by decide) (fun c6 => ?_) (fun c6 => ?_)
        · refine lv_aload_n hx hb d_D_session_148 rfl (lv_at hl 0 rfl) ?_
          refine va_get (D := (dC, dI)) (ci := 5) (v := .ref (md 24)) (C := R_D) (T := F_D) (N := 36) hx hb hg in_D hown hK (hP.one r36) 0 rfl rfl 24 (by decide) (hg _ k_615) (fun _ h9 => h9) rfl d_D_session_149 ?_
          refine lv_iload_n hx hb d_D_session_152 rfl (lv_at hl 2 rfl) ?_
          have r24 : w1 (md 24) = some (.inl (dA 1, 12, .inr (.inl (m_val μ)))) := by rw [ew2, va_up_ne _ _ (hj.ne (i := 24) (j := 36) (by decide) (by decide) (by decide))]; exact r24
          refine fw_lald (tys := tyl dA) hx hb hK hP r24 1 rfl (j := k) (by omega) (by decide) d_D_session_153 ?_
          have hk4 : ∀ i, U37 i → i ∉ [36] → w1 (md i) = wm (md i) := fun i hi hn => by rw [ew2, va_up_ne _ _ (hj.ne hi (j := 36) (by decide) (fun e9 => hn (by rw [e9]; decide)))]
          exact W.lret (v := (m_val μ) k) hx hb hr (fun tS ht hW => ⟨⟨(m_val μ) k, w1, rfl, ⟨μ, hZ, ⟨r36, (hk4 0 (by decide) (by decide)).trans r0, (hk4 1 (by decide) (by decide)).trans r1, (hk4 2 (by decide) (by decide)).trans r2, (hk4 3 (by decide) (by decide)).trans r3, (hk4 4 (by decide) (by decide)).trans r4, (hk4 5 (by decide) (by decide)).trans r5, (hk4 6 (by decide) (by decide)).trans r6, (hk4 7 (by decide) (by decide)).trans r7, (hk4 8 (by decide) (by decide)).trans r8, ⟨_, (hk4 9 (by decide) (by decide)).trans r9⟩, (hk4 10 (by decide) (by decide)).trans r10, (hk4 11 (by decide) (by decide)).trans r11, (hk4 12 (by decide) (by decide)).trans r12, (hk4 13 (by decide) (by decide)).trans r13, (hk4 14 (by decide) (by decide)).trans r14, (hk4 15 (by decide) (by decide)).trans r15, (hk4 23 (by decide) (by decide)).trans r23, r24, (hk4 25 (by decide) (by decide)).trans r25, (hk4 26 (by decide) (by decide)).trans r26, (hk4 27 (by decide) (by decide)).trans r27, (hk4 28 (by decide) (by decide)).trans r28, (hk4 29 (by decide) (by decide)).trans r29, (hk4 30 (by decide) (by decide)).trans r30, (hk4 31 (by decide) (by decide)).trans r31, (hk4 32 (by decide) (by decide)).trans r32, (hk4 33 (by decide) (by decide)).trans r33, (hk4 34 (by decide) (by decide)).trans r34⟩, by rw [if_pos c6], ho3⟩, mB_of ht hP⟩, hS.F ht⟩) hS.2.2 d_D_session_154
        · refine lv_lconst (v := 0) hx hb d_D_session_144 (by decide) ?_
          refine lv_goto (tgt := 154) hx hb d_D_session_145 (by decide) ?_
          have hk5 : ∀ i, U37 i → i ∉ [36] → w1 (md i) = wm (md i) := fun i hi hn => by rw [ew2, va_up_ne _ _ (hj.ne hi (j := 36) (by decide) (fun e9 => hn (by rw [e9]; decide)))]
          exact W.lret (v := 0) hx hb hr (fun tS ht hW => ⟨⟨0, w1, rfl, ⟨μ, hZ, ⟨r36, (hk5 0 (by decide) (by decide)).trans r0, (hk5 1 (by decide) (by decide)).trans r1, (hk5 2 (by decide) (by decide)).trans r2, (hk5 3 (by decide) (by decide)).trans r3, (hk5 4 (by decide) (by decide)).trans r4, (hk5 5 (by decide) (by decide)).trans r5, (hk5 6 (by decide) (by decide)).trans r6, (hk5 7 (by decide) (by decide)).trans r7, (hk5 8 (by decide) (by decide)).trans r8, ⟨_, (hk5 9 (by decide) (by decide)).trans r9⟩, (hk5 10 (by decide) (by decide)).trans r10, (hk5 11 (by decide) (by decide)).trans r11, (hk5 12 (by decide) (by decide)).trans r12, (hk5 13 (by decide) (by decide)).trans r13, (hk5 14 (by decide) (by decide)).trans r14, (hk5 15 (by decide) (by decide)).trans r15, (hk5 23 (by decide) (by decide)).trans r23, (hk5 24 (by decide) (by decide)).trans r24, (hk5 25 (by decide) (by decide)).trans r25, (hk5 26 (by decide) (by decide)).trans r26, (hk5 27 (by decide) (by decide)).trans r27, (hk5 28 (by decide) (by decide)).trans r28, (hk5 29 (by decide) (by decide)).trans r29, (hk5 30 (by decide) (by decide)).trans r30, (hk5 31 (by decide) (by decide)).trans r31, (hk5 32 (by decide) (by decide)).trans r32, (hk5 33 (by decide) (by decide)).trans r33, (hk5 34 (by decide) (by decide)).trans r34⟩, by rw [if_neg (by omega)], ho3⟩, mB_of ht hP⟩, hS.F ht⟩) hS.2.2 d_D_session_154
      · have hp4 := z3 i (by omega)
        refine lv_aload_n hx hb d_D_session_105 rfl (lv_at hl 0 rfl) ?_
        refine va_get (D := (dC, dI)) (ci := 5) (v := .ref (md 26)) (C := R_D) (T := F_D) (N := 36) hx hb hg in_D hown hK (hP.one r36) 0 rfl rfl 26 (by decide) (hg _ k_617) (fun _ h9 => h9) rfl d_D_session_106 ?_
        refine lv_iload hx hb d_D_session_109 (lv_at hl 3 rfl) ?_
        have r26 : wm (md 26) = some (.inl (dA 0, 13, .inl (nf (m_ph μ)))) := r26
        refine fw_iald (tys := tyl dA) hx hb hK hP r26 0 rfl (j := i) (by omega) (by decide) d_D_session_111 ?_
        refine lv_iconst (v := (nI 3)) hx hb d_D_session_112 (by decide) ?_
        refine nu_ne (tgt := 126) hx hb (by omega) (by omega) d_D_session_113 (by decide) (fun c7 => ?_) (fun c7 => ?_)
        · refine lv_iinc (v := nI (i + 1)) (lv' := [(4, .int (nI (i + 1))), (0, .ref (md 36)), (1, .int (nI wk)), (2, .int (nI k))]) hx hb d_D_session_126 hl (k := 3) rfl (nI_add _ 1) (by decide) rfl (fun ls hl => ?_)
          refine lv_goto (tgt := 96) hx hb d_D_session_129 (by decide) ?_
          have h9 : c3 (m_ph μ) (m_cnt μ) (i + 1) = c3 (m_ph μ) (m_cnt μ) i := by rw [c3, if_neg c7]
          exact ih (i + 1) (by omega) (by omega) _ _ _  (by rw [h9]; exact ⟨r36, r0, r1, r2, r3, r4, r5, r6, r7, r8, ⟨_, r9⟩, r10, r11, r12, r13, r14, r15, r23, r24, r25, r26, r27, r28, r29, r30, r31, r32, r33, r34⟩) ho7 hP hS ls (lv_sub hl [1, 2, 3, 0] rfl)
        · refine lv_aload_n hx hb d_D_session_116 rfl (lv_at hl 0 rfl) ?_
          refine va_get (D := (dC, dI)) (ci := 5) (v := .ref (md 14)) (C := R_D) (T := F_D) (N := 36) hx hb hg in_D hown hK (hP.one r36) 0 rfl rfl 14 (by decide) (hg _ k_605) (fun _ h9 => h9) rfl d_D_session_117 ?_
          refine lv_iconst (v := (nI 4)) hx hb d_D_session_120 (by decide) ?_
          refine lv_dup2_11 hx hb d_D_session_121 rfl rfl ?_
          have r14 : wm (md 14) = some (.inl (dA 0, 7, .inl (c3 (m_ph μ) (m_cnt μ) i))) := r14
          refine fw_iald (tys := tyl dA) hx hb hK hP r14 0 rfl (j := 4) (by omega) (by decide) d_D_session_122 ?_
          refine lv_iconst (v := (nI 1)) hx hb d_D_session_123 (by decide) ?_
          refine lv_iadd hx hb d_D_session_124 ?_
          refine fw_iast (tys := tyl dA) hx hb hK hP hS r14 0 rfl (j := 4) (x := (((c3 (m_ph μ) (m_cnt μ) i) 4) + (nI 1))) (by omega) (by decide) d_D_session_125 (fun w6 H locs ew7 hP hS => ?_)
          have r14 : w6 (md 14) = some (.inl (dA 0, 7, .inl (upd (c3 (m_ph μ) (m_cnt μ) i) 4 (((c3 (m_ph μ) (m_cnt μ) i) 4) + (nI 1))))) := by rw [ew7]; exact va_up_self _ _ _
          have ho8 : OutD md w w6 := OutD.up ho7 ew7 (by decide)
          refine lv_iinc (v := nI (i + 1)) (lv' := [(4, .int (nI (i + 1))), (0, .ref (md 36)), (1, .int (nI wk)), (2, .int (nI k))]) hx hb d_D_session_126 hl (k := 3) rfl (nI_add _ 1) (by decide) rfl (fun ls hl => ?_)
          refine lv_goto (tgt := 96) hx hb d_D_session_129 (by decide) ?_
          have h9 : c3 (m_ph μ) (m_cnt μ) (i + 1) = upd (c3 (m_ph μ) (m_cnt μ) i) 4 (c3 (m_ph μ) (m_cnt μ) i 4 + nI 1) := by rw [c3, if_pos c7]
          have hk9 : ∀ i, U37 i → i ∉ [14] → w6 (md i) = wm (md i) := fun i hi hn => by rw [ew7, va_up_ne _ _ (hj.ne hi (j := 14) (by decide) (fun e9 => hn (by rw [e9]; decide)))]
          exact ih (i + 1) (by omega) (by omega) _ _ _  (by rw [h9]; exact ⟨(hk9 36 (by decide) (by decide)).trans r36, (hk9 0 (by decide) (by decide)).trans r0, (hk9 1 (by decide) (by decide)).trans r1, (hk9 2 (by decide) (by decide)).trans r2, (hk9 3 (by decide) (by decide)).trans r3, (hk9 4 (by decide) (by decide)).trans r4, (hk9 5 (by decide) (by decide)).trans r5, (hk9 6 (by decide) (by decide)).trans r6, (hk9 7 (by decide) (by decide)).trans r7, (hk9 8 (by decide) (by decide)).trans r8, ⟨_, (hk9 9 (by decide) (by decide)).trans r9⟩, (hk9 10 (by decide) (by decide)).trans r10, (hk9 11 (by decide) (by decide)).trans r11, (hk9 12 (by decide) (by decide)).trans r12, (hk9 13 (by decide) (by decide)).trans r13, r14, (hk9 15 (by decide) (by decide)).trans r15, (hk9 23 (by decide) (by decide)).trans r23, (hk9 24 (by decide) (by decide)).trans r24, (hk9 25 (by decide) (by decide)).trans r25, (hk9 26 (by decide) (by decide)).trans r26, (hk9 27 (by decide) (by decide)).trans r27, (hk9 28 (by decide) (by decide)).trans r28, (hk9 29 (by decide) (by decide)).trans r29, (hk9 30 (by decide) (by decide)).trans r30, (hk9 31 (by decide) (by decide)).trans r31, (hk9 32 (by decide) (by decide)).trans r32, (hk9 33 (by decide) (by decide)).trans r33, (hk9 34 (by decide) (by decide)).trans r34⟩) ho8 hP hS ls (lv_sub hl [1, 2, 3, 0] rfl)
  have lp : ∀ μ, Rch Z μ → ∀ (wl : fw_W) (H : Heap) (locs : List Loc), RD dA md wl μ → OutD md w wl → fw_P (dC, dI) cls_ (AA s0) wl H → va_S (AA s0) s.heap H locs → ∀ (ls : Array Slot), lv_has ls 5 [(0, .ref (md 36)), (1, .int (nI wk)), (2, .int (nI k))] → W p l e ({ frames := 4, cells := 0, slots := 0, locals := 200 }) s m args below meth c H locs 0 0 (MQ below (mQl s0 dC dI (fun r w' => ∃ μ', Z μ' ∧ RD dA md w' (dClose μ') ∧ r = (if m_thr μ' = 0 then m_val μ' k else 0) ∧ OutD md w w')) args s 0 0 (AA s0)) (F0 m 42 ls []) := by
    intro μ5 h5
    refine h5 (fun μ => ∀ (wl : fw_W) (H : Heap) (locs : List Loc), RD dA md wl μ → OutD md w wl → fw_P (dC, dI) cls_ (AA s0) wl H → va_S (AA s0) s.heap H locs → ∀ (ls : Array Slot), lv_has ls 5 [(0, .ref (md 36)), (1, .int (nI wk)), (2, .int (nI k))] → W p l e ({ frames := 4, cells := 0, slots := 0, locals := 200 }) s m args below meth c H locs 0 0 (MQ below (mQl s0 dC dI (fun r w' => ∃ μ', Z μ' ∧ RD dA md w' (dClose μ') ∧ r = (if m_thr μ' = 0 then m_val μ' k else 0) ∧ OutD md w w')) args s 0 0 (AA s0)) (F0 m 42 ls [])) (fun μ => ⟨fun hst hz hZ wl H locs hR9 ho9 hP hS ls hl => ?_, fun hst hok ih wl H locs hR9 ho9 hP hS ls hl => ?_⟩)
    · have z1 := hz.1
      have z2 := hz.2.1
      have hR8 := hR9
      obtain ⟨r36, r0, r1, r2, r3, r4, r5, r6, r7, r8, ⟨u, r9⟩, r10, r11, r12, r13, r14, r15, r23, r24, r25, r26, r27, r28, r29, r30, r31, r32, r33, r34⟩ := (id hR9)
      refine lv_aload_n hx hb d_D_session_42 rfl (lv_at hl 0 rfl) ?_
      have r36 : wl (md 36) = some (.inr (5, [.ref (md 0), .ref (md 1), .ref (md 2), .ref (md 3), .ref (md 4), .ref (md 5), .ref (md 6), .ref (md 7), .ref (md 8), .ref (md 9), .ref (md 10), .ref (md 11), .ref (md 12), .ref (md 13), .ref (md 14), .ref (md 15), .int (nI (m_cached μ)), .int (nI (m_ocached μ)), .int (m_circ μ), .int (m_ocirc μ), .int (nI (m_thr μ)), .int (nI (m_wkr μ)), .int (nI (m_ran μ).toNat), .ref (md 23), .ref (md 24), .ref (md 25), .ref (md 26), .ref (md 27), .ref (md 28), .ref (md 29), .ref (md 30), .ref (md 31), .ref (md 32), .ref (md 33), .ref (md 34), .int (nI (m_hgt μ))])) := r36
      refine va_get (D := (dC, dI)) (ci := 5) (v := .int (nI (m_hgt μ))) (C := R_D) (T := F_D) (N := 36) hx hb hg in_D hown hK (hP.one r36) 0 rfl rfl 35 (by decide) (hg _ k_626) (fun _ h9 => h9) rfl d_D_session_43 ?_
      refine nu_zle (tgt := 93) hx hb (by omega) d_D_session_46 (by decide) (fun c3 => ?_) (fun c3 => ?_)
      · exact fin μ hz hZ wl H locs hR8 ho9 hP hS ls (lv_sub hl [0, 1, 2] rfl)
      · refine lv_aload_n hx hb d_D_session_49 rfl (lv_at hl 0 rfl) ?_
        refine va_get (D := (dC, dI)) (ci := 5) (v := .int (nI (m_thr μ))) (C := R_D) (T := F_D) (N := 36) hx hb hg in_D hown hK (hP.one r36) 0 rfl rfl 20 (by decide) (hg _ k_611) (fun _ h9 => h9) rfl d_D_session_50 ?_
        refine nu_zne (tgt := 93) hx hb (by omega) d_D_session_53 (by decide) (fun c4 => ?_) (fun c4 => ?_)
        · exact fin μ hz hZ wl H locs hR8 ho9 hP hS ls (lv_sub hl [0, 1, 2] rfl)
        · exact absurd hst (fun h9 => h9.elim (by omega) (fun h8 => h8 c4))
    · obtain ⟨i1, i2, i3, i4, i5⟩ := hok
      have hR8 := hR9
      obtain ⟨r36, r0, r1, r2, r3, r4, r5, r6, r7, r8, ⟨u, r9⟩, r10, r11, r12, r13, r14, r15, r23, r24, r25, r26, r27, r28, r29, r30, r31, r32, r33, r34⟩ := (id hR9)
      refine lv_aload_n hx hb d_D_session_42 rfl (lv_at hl 0 rfl) ?_
      have r36 : wl (md 36) = some (.inr (5, [.ref (md 0), .ref (md 1), .ref (md 2), .ref (md 3), .ref (md 4), .ref (md 5), .ref (md 6), .ref (md 7), .ref (md 8), .ref (md 9), .ref (md 10), .ref (md 11), .ref (md 12), .ref (md 13), .ref (md 14), .ref (md 15), .int (nI (m_cached μ)), .int (nI (m_ocached μ)), .int (m_circ μ), .int (m_ocirc μ), .int (nI (m_thr μ)), .int (nI (m_wkr μ)), .int (nI (m_ran μ).toNat), .ref (md 23), .ref (md 24), .ref (md 25), .ref (md 26), .ref (md 27), .ref (md 28), .ref (md 29), .ref (md 30), .ref (md 31), .ref (md 32), .ref (md 33), .ref (md 34), .int (nI (m_hgt μ))])) := r36
      refine va_get (D := (dC, dI)) (ci := 5) (v := .int (nI (m_hgt μ))) (C := R_D) (T := F_D) (N := 36) hx hb hg in_D hown hK (hP.one r36) 0 rfl rfl 35 (by decide) (hg _ k_626) (fun _ h9 => h9) rfl d_D_session_43 ?_
      refine nu_zle (tgt := 93) hx hb (by omega) d_D_session_46 (by decide) (fun c3 => ?_) (fun c3 => ?_)
      · exact absurd (Or.inl c3) hst
      · refine lv_aload_n hx hb d_D_session_49 rfl (lv_at hl 0 rfl) ?_
        refine va_get (D := (dC, dI)) (ci := 5) (v := .int (nI (m_thr μ))) (C := R_D) (T := F_D) (N := 36) hx hb hg in_D hown hK (hP.one r36) 0 rfl rfl 20 (by decide) (hg _ k_611) (fun _ h9 => h9) rfl d_D_session_50 ?_
        refine nu_zne (tgt := 93) hx hb (by omega) d_D_session_53 (by decide) (fun c4 => ?_) (fun c4 => ?_)
        · exact absurd (Or.inr c4) hst
        · have hp4 := i3
          refine lv_aload_n hx hb d_D_session_56 rfl (lv_at hl 0 rfl) ?_
          refine va_get (D := (dC, dI)) (ci := 5) (v := .int (nI (m_hgt μ))) (C := R_D) (T := F_D) (N := 36) hx hb hg in_D hown hK (hP.one r36) 0 rfl rfl 35 (by decide) (hg _ k_626) (fun _ h9 => h9) rfl d_D_session_57 ?_
          refine lv_iconst (v := (nI 1)) hx hb d_D_session_60 (by decide) ?_
          refine nu_isub (r := (m_hgt μ) - 1) hx hb d_D_session_61 (by omega) ?_
          refine lv_istore (lv' := [(4, .int (nI ((m_hgt μ) - 1))), (0, .ref (md 36)), (1, .int (nI wk)), (2, .int (nI k))]) hx hb d_D_session_62 hl (by decide) rfl (fun ls hl => ?_)
          refine lv_aload_n hx hb d_D_session_64 rfl (lv_at hl 1 rfl) ?_
          refine va_get (D := (dC, dI)) (ci := 5) (v := .ref (md 26)) (C := R_D) (T := F_D) (N := 36) hx hb hg in_D hown hK (hP.one r36) 0 rfl rfl 26 (by decide) (hg _ k_617) (fun _ h9 => h9) rfl d_D_session_65 ?_
          refine lv_iload hx hb d_D_session_68 (lv_at hl 0 rfl) ?_
          have r26 : wl (md 26) = some (.inl (dA 0, 13, .inl (nf (m_ph μ)))) := r26
          refine fw_iald (tys := tyl dA) hx hb hK hP r26 0 rfl (j := (m_hgt μ) - 1) (by omega) (by decide) d_D_session_70 ?_
          refine lv_iconst (v := (nI 3)) hx hb d_D_session_71 (by decide) ?_
          refine nu_ne (tgt := 84) hx hb (by omega) (by omega) d_D_session_72 (by decide) (fun c5 => ?_) (fun c5 => ?_)
          · obtain ⟨o1, o2, o3, o4⟩ := i5 c5
            refine lv_aload_n hx hb d_D_session_84 rfl (lv_at hl 1 rfl) ?_
            refine lv_iload hx hb d_D_session_85 (lv_at hl 0 rfl) ?_
            rcases o4 with o4 | ⟨t, t1, t2, t3, t4 | ⟨t4, t5, t6, t7⟩⟩
            · refine va_callv (rn_V (n := 1) (As := [.int (nI ((m_hgt μ) - 1))]) (rest := []) (C := R_D) (T := F_D) (N := 36) (ci := 5) X hP hS (c_D_checkN B0 wl md μ (m_hgt μ - 1) hj hR8 o1 o4) k_767 k_769 k_48 k_58 k_770 (by decide +kernel) rfl rfl ⟨Nat.le_of_ble_eq_true rfl, Nat.le_of_ble_eq_true rfl⟩ r36 rfl rfl hl.1 rfl (Nat.le_of_ble_eq_true rfl) d_D_session_87 ⟨Nat.le_of_ble_eq_true rfl, Nat.le_of_ble_eq_true rfl⟩) hS (fun q _ h => h) (fun q h => h) (fun w10 tS H locs ht hvm hw hB hz1 hk1 hS => ?_)
              have hP : fw_P (dC, dI) cls_ (AA s0) w10 H := by rw [← ht]; exact hB
              obtain ⟨hN8, ho8⟩ := hw
              obtain ⟨μ6, hN6, hR6⟩ := hN8.nx
              have ho11 : OutD md w w10 := OutD.tr ho9 ho8
              refine lv_goto (tgt := 42) hx hb d_D_session_90 (by decide) ?_
              exact ih μ6 (Or.inr ⟨c5, Or.inl ⟨o4, hN6⟩⟩) _ _ _ hR6 ho11 hP hS ls (lv_sub hl [1, 2, 3] rfl)
            · refine va_callv (rn_V (n := 1) (As := [.int (nI ((m_hgt μ) - 1))]) (rest := []) (C := R_D) (T := F_D) (N := 36) (ci := 5) X hP hS (c_D_checkH B0 wl md μ (m_hgt μ - 1) t hj hR8 o2 t1 t2 o1.2.2.1 (by omega) o3 (by omega) t4 (by omega)) k_767 k_769 k_48 k_58 k_770 (by decide +kernel) rfl rfl ⟨Nat.le_of_ble_eq_true rfl, Nat.le_of_ble_eq_true rfl⟩ r36 rfl rfl hl.1 rfl (Nat.le_of_ble_eq_true rfl) d_D_session_87 ⟨Nat.le_of_ble_eq_true rfl, Nat.le_of_ble_eq_true rfl⟩) hS (fun q _ h => h) (fun q h => h) (fun w12 tS H locs ht hvm hw hB hz1 hk1 hS => ?_)
              have hP : fw_P (dC, dI) cls_ (AA s0) w12 H := by rw [← ht]; exact hB
              obtain ⟨hR6, ho8⟩ := hw
              have ho13 : OutD md w w12 := OutD.tr ho9 ho8
              refine lv_goto (tgt := 42) hx hb d_D_session_90 (by decide) ?_
              exact ih _ (Or.inr ⟨c5, Or.inr ⟨t, t1, t2, Or.inl ⟨t4, rfl⟩⟩⟩) _ _ _ hR6 ho13 hP hS ls (lv_sub hl [1, 2, 3] rfl)
            · refine va_callv (rn_V (n := 1) (As := [.int (nI ((m_hgt μ) - 1))]) (rest := []) (C := R_D) (T := F_D) (N := 36) (ci := 5) X hP hS (c_D_checkA B0 wl md μ (m_hgt μ - 1) t _ hj hR8 o1 t1 t2 o3 t3 t4 rfl t5 t6 t7) k_767 k_769 k_48 k_58 k_770 (by decide +kernel) rfl rfl ⟨Nat.le_of_ble_eq_true rfl, Nat.le_of_ble_eq_true rfl⟩ r36 rfl rfl hl.1 rfl (Nat.le_of_ble_eq_true rfl) d_D_session_87 ⟨Nat.le_of_ble_eq_true rfl, Nat.le_of_ble_eq_true rfl⟩) hS (fun q _ h => h) (fun q h => h) (fun w14 tS H locs ht hvm hw hB hz1 hk1 hS => ?_)
              have hP : fw_P (dC, dI) cls_ (AA s0) w14 H := by rw [← ht]; exact hB
              obtain ⟨hN8, ho8⟩ := hw
              have ho15 : OutD md w w14 := OutD.tr ho9 ho8
              rcases hN8 with ⟨q1, hR6⟩ | ⟨q1, q2, hR6⟩ | ⟨q1, q2, hN8⟩
              · refine lv_goto (tgt := 42) hx hb d_D_session_90 (by decide) ?_
                exact ih _ (Or.inr ⟨c5, Or.inr ⟨t, t1, t2, Or.inr ⟨t4, _, rfl, Or.inl ⟨q1, rfl⟩⟩⟩⟩) _ _ _ hR6 ho15 hP hS ls (lv_sub hl [1, 2, 3] rfl)
              · refine lv_goto (tgt := 42) hx hb d_D_session_90 (by decide) ?_
                exact ih _ (Or.inr ⟨c5, Or.inr ⟨t, t1, t2, Or.inr ⟨t4, _, rfl, Or.inr (Or.inl ⟨q1, q2, rfl⟩)⟩⟩⟩) _ _ _ hR6 ho15 hP hS ls (lv_sub hl [1, 2, 3] rfl)
              · obtain ⟨μ6, hN6, hR6⟩ := hN8.nx
                refine lv_goto (tgt := 42) hx hb d_D_session_90 (by decide) ?_
                exact ih μ6 (Or.inr ⟨c5, Or.inr ⟨t, t1, t2, Or.inr ⟨t4, _, rfl, Or.inr (Or.inr ⟨q1, q2, hN6⟩)⟩⟩⟩) _ _ _ hR6 ho15 hP hS ls (lv_sub hl [1, 2, 3] rfl)
          · obtain ⟨o1, o2, o3, o3b, o4, o5, o6⟩ := i4 c5
            refine lv_aload_n hx hb d_D_session_75 rfl (lv_at hl 1 rfl) ?_
            refine lv_iload hx hb d_D_session_76 (lv_at hl 0 rfl) ?_
            rcases o6 with o6 | ⟨k7, k1, k2, k3, k4⟩
            · by_cases hC : dEndC (m_rule μ (m_key μ (m_hgt μ - 1))) (m_asked μ (m_hgt μ - 1)) (m_first μ (m_hgt μ - 1)) (m_sum μ (m_hgt μ - 1)) = 0
              · refine va_callv (rn_V (n := 1) (As := [.int (nI ((m_hgt μ) - 1))]) (rest := []) (C := R_D) (T := F_D) (N := 36) (ci := 5) X hP hS (c_D_goOnG B0 wl md μ (m_hgt μ - 1) hj hR8 o1 o2 o6 hC) k_739 k_741 k_42 k_58 k_742 (by decide +kernel) rfl rfl ⟨Nat.le_of_ble_eq_true rfl, Nat.le_of_ble_eq_true rfl⟩ r36 rfl rfl hl.1 rfl (Nat.le_of_ble_eq_true rfl) d_D_session_78 ⟨Nat.le_of_ble_eq_true rfl, Nat.le_of_ble_eq_true rfl⟩) hS (fun q _ h => h) (fun q h => h) (fun w16 tS H locs ht hvm hw hB hz1 hk1 hS => ?_)
                have hP : fw_P (dC, dI) cls_ (AA s0) w16 H := by rw [← ht]; exact hB
                obtain ⟨⟨x, c9, hR6, hx8⟩, ho8⟩ := hw
                have ho17 : OutD md w w16 := OutD.tr ho9 ho8
                refine lv_goto (tgt := 90) hx hb d_D_session_81 (by decide) ?_
                refine lv_goto (tgt := 42) hx hb d_D_session_90 (by decide) ?_
                exact ih _ (Or.inl ⟨c5, Or.inl ⟨o6, hC, x, c9, rfl, hx8⟩⟩) _ _ _ hR6 ho17 hP hS ls (lv_sub hl [1, 2, 3] rfl)
              · refine va_callv (rn_V (n := 1) (As := [.int (nI ((m_hgt μ) - 1))]) (rest := []) (C := R_D) (T := F_D) (N := 36) (ci := 5) X hP hS (c_D_goOnT B0 wl md μ (m_hgt μ - 1) hj hR8 o1 o2 o6 hC) k_739 k_741 k_42 k_58 k_742 (by decide +kernel) rfl rfl ⟨Nat.le_of_ble_eq_true rfl, Nat.le_of_ble_eq_true rfl⟩ r36 rfl rfl hl.1 rfl (Nat.le_of_ble_eq_true rfl) d_D_session_78 ⟨Nat.le_of_ble_eq_true rfl, Nat.le_of_ble_eq_true rfl⟩) hS (fun q _ h => h) (fun q h => h) (fun w18 tS H locs ht hvm hw hB hz1 hk1 hS => ?_)
                have hP : fw_P (dC, dI) cls_ (AA s0) w18 H := by rw [← ht]; exact hB
                obtain ⟨hR6, ho8⟩ := hw
                have ho19 : OutD md w w18 := OutD.tr ho9 ho8
                refine lv_goto (tgt := 90) hx hb d_D_session_81 (by decide) ?_
                refine lv_goto (tgt := 42) hx hb d_D_session_90 (by decide) ?_
                exact ih _ (Or.inl ⟨c5, Or.inr (Or.inl ⟨o6, hC, rfl⟩)⟩) _ _ _ hR6 ho19 hP hS ls (lv_sub hl [1, 2, 3] rfl)
            · refine va_callv (rn_V (n := 1) (As := [.int (nI ((m_hgt μ) - 1))]) (rest := []) (C := R_D) (T := F_D) (N := 36) (ci := 5) X hP hS (c_D_goOnA B0 wl md μ (m_hgt μ - 1) k7 hj hR8 o1 o2 k1 k2 o3 o3b o4 o5 k3 k4) k_739 k_741 k_42 k_58 k_742 (by decide +kernel) rfl rfl ⟨Nat.le_of_ble_eq_true rfl, Nat.le_of_ble_eq_true rfl⟩ r36 rfl rfl hl.1 rfl (Nat.le_of_ble_eq_true rfl) d_D_session_78 ⟨Nat.le_of_ble_eq_true rfl, Nat.le_of_ble_eq_true rfl⟩) hS (fun q _ h => h) (fun q h => h) (fun w20 tS H locs ht hvm hw hB hz1 hk1 hS => ?_)
              have hP : fw_P (dC, dI) cls_ (AA s0) w20 H := by rw [← ht]; exact hB
              obtain ⟨hN8, ho8⟩ := hw
              have ho21 : OutD md w w20 := OutD.tr ho9 ho8
              rcases hN8 with ⟨q1, hR6⟩ | ⟨q1, q2, hR6⟩ | ⟨q1, q2, hR6⟩
              · refine lv_goto (tgt := 90) hx hb d_D_session_81 (by decide) ?_
                refine lv_goto (tgt := 42) hx hb d_D_session_90 (by decide) ?_
                exact ih _ (Or.inl ⟨c5, Or.inr (Or.inr ⟨k7, k1, k2, Or.inl ⟨q1, rfl⟩⟩)⟩) _ _ _ hR6 ho21 hP hS ls (lv_sub hl [1, 2, 3] rfl)
              · refine lv_goto (tgt := 90) hx hb d_D_session_81 (by decide) ?_
                refine lv_goto (tgt := 42) hx hb d_D_session_90 (by decide) ?_
                exact ih _ (Or.inl ⟨c5, Or.inr (Or.inr ⟨k7, k1, k2, Or.inr (Or.inl ⟨q1, q2, rfl⟩)⟩)⟩) _ _ _ hR6 ho21 hP hS ls (lv_sub hl [1, 2, 3] rfl)
              · refine lv_goto (tgt := 90) hx hb d_D_session_81 (by decide) ?_
                refine lv_goto (tgt := 42) hx hb d_D_session_90 (by decide) ?_
                exact ih _ (Or.inl ⟨c5, Or.inr (Or.inr ⟨k7, k1, k2, Or.inr (Or.inr ⟨q1, q2, rfl⟩)⟩)⟩) _ _ _ hR6 ho21 hP hS ls (lv_sub hl [1, 2, 3] rfl)
  refine lv_aload_n hx hb d_D_session_0 rfl (lv_at hl 0 rfl) ?_
  refine lv_iload_n hx hb d_D_session_1 rfl (lv_at hl 1 rfl) ?_
  refine fw_put (D := (dC, dI)) (ci := 5) (v := .int (nI wk)) (ty := .int) (C := R_D) (T := F_D) (N := 36) hx hb hg in_D ft_D ft_D_ok n_D hown hK hP hS r36 rfl 21 (by decide) (hg _ k_612) (fun _ h9 => h9) rfl (by decide +kernel) rfl rfl (Nat.le_of_ble_eq_true rfl) d_D_session_2 (fun w22 H locs ew23 hP hS => ?_)
  have r36 : w22 (md 36) = some (.inr (5, [.ref (md 0), .ref (md 1), .ref (md 2), .ref (md 3), .ref (md 4), .ref (md 5), .ref (md 6), .ref (md 7), .ref (md 8), .ref (md 9), .ref (md 10), .ref (md 11), .ref (md 12), .ref (md 13), .ref (md 14), .ref (md 15), .int (nI (m_cached μ)), .int (nI (m_ocached μ)), .int (m_circ μ), .int (m_ocirc μ), .int (nI (m_thr μ)), .int (nI wk), .int (nI (m_ran μ).toNat), .ref (md 23), .ref (md 24), .ref (md 25), .ref (md 26), .ref (md 27), .ref (md 28), .ref (md 29), .ref (md 30), .ref (md 31), .ref (md 32), .ref (md 33), .ref (md 34), .int (nI (m_hgt μ))])) := by rw [ew23]; exact va_up_self _ _ _
  have ho24 : OutD md w w22 := OutD.up OutD.rf ew23 (by decide)
  refine lv_aload_n hx hb d_D_session_5 rfl (lv_at hl 0 rfl) ?_
  refine lv_iconst (v := (nI 0)) hx hb d_D_session_6 (by decide) ?_
  refine fw_put (D := (dC, dI)) (ci := 5) (v := .int (nI 0)) (ty := .boolean) (C := R_D) (T := F_D) (N := 36) hx hb hg in_D ft_D ft_D_ok n_D hown hK hP hS r36 rfl 22 (by decide) (hg _ k_613) (fun _ h9 => h9) rfl (by decide +kernel) (by decide) (by decide) (Nat.le_of_ble_eq_true rfl) d_D_session_7 (fun w25 H locs ew26 hP hS => ?_)
  have r36 : w25 (md 36) = some (.inr (5, [.ref (md 0), .ref (md 1), .ref (md 2), .ref (md 3), .ref (md 4), .ref (md 5), .ref (md 6), .ref (md 7), .ref (md 8), .ref (md 9), .ref (md 10), .ref (md 11), .ref (md 12), .ref (md 13), .ref (md 14), .ref (md 15), .int (nI (m_cached μ)), .int (nI (m_ocached μ)), .int (m_circ μ), .int (m_ocirc μ), .int (nI (m_thr μ)), .int (nI wk), .int (nI 0), .ref (md 23), .ref (md 24), .ref (md 25), .ref (md 26), .ref (md 27), .ref (md 28), .ref (md 29), .ref (md 30), .ref (md 31), .ref (md 32), .ref (md 33), .ref (md 34), .int (nI (m_hgt μ))])) := by rw [ew26]; exact va_up_self _ _ _
  have ho27 : OutD md w w25 := OutD.up ho24 ew26 (by decide)
  refine lv_aload_n hx hb d_D_session_10 rfl (lv_at hl 0 rfl) ?_
  refine lv_iconst (v := (nI 0)) hx hb d_D_session_11 (by decide) ?_
  refine fw_put (D := (dC, dI)) (ci := 5) (v := .int (nI 0)) (ty := .int) (C := R_D) (T := F_D) (N := 36) hx hb hg in_D ft_D ft_D_ok n_D hown hK hP hS r36 rfl 35 (by decide) (hg _ k_626) (fun _ h9 => h9) rfl (by decide +kernel) rfl rfl (Nat.le_of_ble_eq_true rfl) d_D_session_12 (fun w28 H locs ew29 hP hS => ?_)
  have r36 : w28 (md 36) = some (.inr (5, [.ref (md 0), .ref (md 1), .ref (md 2), .ref (md 3), .ref (md 4), .ref (md 5), .ref (md 6), .ref (md 7), .ref (md 8), .ref (md 9), .ref (md 10), .ref (md 11), .ref (md 12), .ref (md 13), .ref (md 14), .ref (md 15), .int (nI (m_cached μ)), .int (nI (m_ocached μ)), .int (m_circ μ), .int (m_ocirc μ), .int (nI (m_thr μ)), .int (nI wk), .int (nI 0), .ref (md 23), .ref (md 24), .ref (md 25), .ref (md 26), .ref (md 27), .ref (md 28), .ref (md 29), .ref (md 30), .ref (md 31), .ref (md 32), .ref (md 33), .ref (md 34), .int (nI 0)])) := by rw [ew29]; exact va_up_self _ _ _
  have ho30 : OutD md w w28 := OutD.up ho27 ew29 (by decide)
  refine lv_iconst (v := (nI 0)) hx hb d_D_session_15 (by decide) ?_
  refine lv_istore_n (lv' := [(3, .int (nI 0)), (0, .ref (md 36)), (1, .int (nI wk)), (2, .int (nI k))]) hx hb d_D_session_16 rfl hl (by decide) rfl (fun ls hl => ?_)
  have hk31 : ∀ i, U37 i → i ∉ [36] → w28 (md i) = w (md i) := fun i hi hn => by rw [ew29, va_up_ne _ _ (hj.ne hi (j := 36) (by decide) (fun e9 => hn (by rw [e9]; decide))), ew26, va_up_ne _ _ (hj.ne hi (j := 36) (by decide) (fun e9 => hn (by rw [e9]; decide))), ew23, va_up_ne _ _ (hj.ne hi (j := 36) (by decide) (fun e9 => hn (by rw [e9]; decide)))]
  suffices lp : ∀ (n : Nat) (i : Nat) (st : Nat → Nat), (i ≤ 12) → (∀ j, j < i → st j = 0) → (12 < i + n) → ∀ (wl : fw_W) (H : Heap) (locs : List Loc), (RD dA md wl (dInit wk st μ)) → (OutD md w wl) → fw_P (dC, dI) cls_ (AA s0) wl H → va_S (AA s0) s.heap H locs → ∀ (ls : Array Slot), lv_has ls 5 [(0, .ref (md 36)), (1, .int (nI wk)), (2, .int (nI k)), (3, .int (nI i))] → W p l e _ s m args below meth c H locs 0 0 (MQ below _ args s 0 0 (AA s0)) (F0 m 17 ls []) from lp 13 0 (m_st μ) (by omega) (fun j hj9 => by omega) (by omega) _ _ _  (⟨r36, (hk31 0 (by decide) (by decide)).trans r0, (hk31 1 (by decide) (by decide)).trans r1, (hk31 2 (by decide) (by decide)).trans r2, (hk31 3 (by decide) (by decide)).trans r3, (hk31 4 (by decide) (by decide)).trans r4, (hk31 5 (by decide) (by decide)).trans r5, (hk31 6 (by decide) (by decide)).trans r6, (hk31 7 (by decide) (by decide)).trans r7, (hk31 8 (by decide) (by decide)).trans r8, ⟨_, (hk31 9 (by decide) (by decide)).trans r9⟩, (hk31 10 (by decide) (by decide)).trans r10, (hk31 11 (by decide) (by decide)).trans r11, (hk31 12 (by decide) (by decide)).trans r12, (hk31 13 (by decide) (by decide)).trans r13, (hk31 14 (by decide) (by decide)).trans r14, (hk31 15 (by decide) (by decide)).trans r15, (hk31 23 (by decide) (by decide)).trans r23, (hk31 24 (by decide) (by decide)).trans r24, (hk31 25 (by decide) (by decide)).trans r25, (hk31 26 (by decide) (by decide)).trans r26, (hk31 27 (by decide) (by decide)).trans r27, (hk31 28 (by decide) (by decide)).trans r28, (hk31 29 (by decide) (by decide)).trans r29, (hk31 30 (by decide) (by decide)).trans r30, (hk31 31 (by decide) (by decide)).trans r31, (hk31 32 (by decide) (by decide)).trans r32, (hk31 33 (by decide) (by decide)).trans r33, (hk31 34 (by decide) (by decide)).trans r34⟩) ho30 hP hS ls (lv_sub hl [1, 2, 3, 0] rfl)
  intro n
  induction n with
  | zero => intro i st hi hst hbn; exact absurd hbn (by omega)
  | succ n ih =>
    intro i st hi hst hbn wl H locs  hR9 ho9 hP hS ls hl
    obtain ⟨r36, r0, r1, r2, r3, r4, r5, r6, r7, r8, ⟨u, r9⟩, r10, r11, r12, r13, r14, r15, r23, r24, r25, r26, r27, r28, r29, r30, r31, r32, r33, r34⟩ := (id hR9)
    refine lv_iload_n hx hb d_D_session_17 rfl (lv_at hl 3 rfl) ?_
    refine lv_bipush (v := (nI 12)) hx hb d_D_session_18 (by decide) ?_
    refine nu_ge (tgt := 36) hx hb (by omega) (by omega) d_D_session_20 (by decide) (fun c1 => ?_) (fun c1 => ?_)
    · have hi9 : i = 12 := by omega
      rw [hi9] at hst
      refine lv_aload_n hx hb d_D_session_36 rfl (lv_at hl 0 rfl) ?_
      refine lv_iload_n hx hb d_D_session_37 rfl (lv_at hl 2 rfl) ?_
      have r36 : wl (md 36) = some (.inr (5, [.ref (md 0), .ref (md 1), .ref (md 2), .ref (md 3), .ref (md 4), .ref (md 5), .ref (md 6), .ref (md 7), .ref (md 8), .ref (md 9), .ref (md 10), .ref (md 11), .ref (md 12), .ref (md 13), .ref (md 14), .ref (md 15), .int (nI (m_cached μ)), .int (nI (m_ocached μ)), .int (m_circ μ), .int (m_ocirc μ), .int (nI (m_thr μ)), .int (nI wk), .int (nI false.toNat), .ref (md 23), .ref (md 24), .ref (md 25), .ref (md 26), .ref (md 27), .ref (md 28), .ref (md 29), .ref (md 30), .ref (md 31), .ref (md 32), .ref (md 33), .ref (md 34), .int (nI 0)])) := r36
      refine va_calli (rn_V (n := 1) (As := [.int (nI k)]) (rest := []) (C := R_D) (T := F_D) (N := 36) (ci := 5) X hP hS (c_D_ask B0 wl md (dInit wk st μ) k hj hR9 hk hwk (Nat.le_of_ble_eq_true rfl) (show st k < 3 by rw [hst k hk]; omega) hq3) k_735 k_737 k_41 k_58 k_738 (by decide +kernel) rfl rfl ⟨Nat.le_of_ble_eq_true rfl, Nat.le_of_ble_eq_true rfl⟩ r36 rfl rfl hl.1 rfl (Nat.le_of_ble_eq_true rfl) d_D_session_38 ⟨Nat.le_of_ble_eq_true rfl, Nat.le_of_ble_eq_true rfl⟩) hS (fun q _ h => h) (fun q h => h) (fun r w32 tS H locs ht hvm hw hB hz1 hk1 hS => ?_)
      have hP : fw_P (dC, dI) cls_ (AA s0) w32 H := by rw [← ht]; exact hB
      obtain ⟨rfl, hR8, ho8⟩ := hw
      have ho33 : OutD md w w32 := OutD.tr ho9 ho8
      refine lv_istore_n (lv' := [(3, .int (nI (dAskB k (dInit wk st μ)).toNat)), (0, .ref (md 36)), (1, .int (nI wk)), (2, .int (nI k))]) hx hb d_D_session_41 rfl hl (by decide) rfl (fun ls hl => ?_)
      exact lp _ (hRch st hst) _ _ _ hR8 ho33 hP hS ls (lv_sub hl [1, 2, 3] rfl)
    · refine lv_aload_n hx hb d_D_session_23 rfl (lv_at hl 0 rfl) ?_
      have r36 : wl (md 36) = some (.inr (5, [.ref (md 0), .ref (md 1), .ref (md 2), .ref (md 3), .ref (md 4), .ref (md 5), .ref (md 6), .ref (md 7), .ref (md 8), .ref (md 9), .ref (md 10), .ref (md 11), .ref (md 12), .ref (md 13), .ref (md 14), .ref (md 15), .int (nI (m_cached μ)), .int (nI (m_ocached μ)), .int (m_circ μ), .int (m_ocirc μ), .int (nI (m_thr μ)), .int (nI wk), .int (nI false.toNat), .ref (md 23), .ref (md 24), .ref (md 25), .ref (md 26), .ref (md 27), .ref (md 28), .ref (md 29), .ref (md 30), .ref (md 31), .ref (md 32), .ref (md 33), .ref (md 34), .int (nI 0)])) := r36
      refine va_get (D := (dC, dI)) (ci := 5) (v := .ref (md 23)) (C := R_D) (T := F_D) (N := 36) hx hb hg in_D hown hK (hP.one r36) 0 rfl rfl 23 (by decide) (hg _ k_614) (fun _ h9 => h9) rfl d_D_session_24 ?_
      refine lv_iload_n hx hb d_D_session_27 rfl (lv_at hl 3 rfl) ?_
      refine lv_iconst (v := (nI 0)) hx hb d_D_session_28 (by decide) ?_
      have r23 : wl (md 23) = some (.inl (dA 0, 12, .inl (nf st))) := r23
      refine fw_iast (tys := tyl dA) hx hb hK hP hS r23 0 rfl (j := i) (x := (nI 0)) (by omega) (by decide) d_D_session_29 (fun w34 H locs ew35 hP hS => ?_)
      rw [nf_up] at ew35
      have r23 : w34 (md 23) = some (.inl (dA 0, 12, .inl (nf (va_up st i 0)))) := by rw [ew35]; exact va_up_self _ _ _
      have ho36 : OutD md w w34 := OutD.up ho9 ew35 (by decide)
      refine lv_iinc (v := nI (i + 1)) (lv' := [(3, .int (nI (i + 1))), (0, .ref (md 36)), (1, .int (nI wk)), (2, .int (nI k))]) hx hb d_D_session_30 hl (k := 3) rfl (nI_add _ 1) (by decide) rfl (fun ls hl => ?_)
      refine lv_goto (tgt := 17) hx hb d_D_session_33 (by decide) ?_
      have hk37 : ∀ i, U37 i → i ∉ [23] → w34 (md i) = wl (md i) := fun i hi hn => by rw [ew35, va_up_ne _ _ (hj.ne hi (j := 23) (by decide) (fun e9 => hn (by rw [e9]; decide)))]
      exact ih (i + 1) (va_up st i 0) (by omega) (fun j hj9 => (Nat.lt_or_ge j i).elim (fun h9 => (va_up_ne _ _ (by omega)).trans (hst j h9)) (fun h9 => by rw [show j = i by omega, va_up_self])) (by omega) _ _ _  (⟨(hk37 36 (by decide) (by decide)).trans r36, (hk37 0 (by decide) (by decide)).trans r0, (hk37 1 (by decide) (by decide)).trans r1, (hk37 2 (by decide) (by decide)).trans r2, (hk37 3 (by decide) (by decide)).trans r3, (hk37 4 (by decide) (by decide)).trans r4, (hk37 5 (by decide) (by decide)).trans r5, (hk37 6 (by decide) (by decide)).trans r6, (hk37 7 (by decide) (by decide)).trans r7, (hk37 8 (by decide) (by decide)).trans r8, ⟨_, (hk37 9 (by decide) (by decide)).trans r9⟩, (hk37 10 (by decide) (by decide)).trans r10, (hk37 11 (by decide) (by decide)).trans r11, (hk37 12 (by decide) (by decide)).trans r12, (hk37 13 (by decide) (by decide)).trans r13, (hk37 14 (by decide) (by decide)).trans r14, (hk37 15 (by decide) (by decide)).trans r15, r23, (hk37 24 (by decide) (by decide)).trans r24, (hk37 25 (by decide) (by decide)).trans r25, (hk37 26 (by decide) (by decide)).trans r26, (hk37 27 (by decide) (by decide)).trans r27, (hk37 28 (by decide) (by decide)).trans r28, (hk37 29 (by decide) (by decide)).trans r29, (hk37 30 (by decide) (by decide)).trans r30, (hk37 31 (by decide) (by decide)).trans r31, (hk37 32 (by decide) (by decide)).trans r32, (hk37 33 (by decide) (by decide)).trans r33, (hk37 34 (by decide) (by decide)).trans r34⟩) ho36 hP hS ls (lv_sub hl [1, 2, 3, 0] rfl)
