def s_cch (μ : MS) (x : Nat → Nat) (c : Nat) : MS := u_mm μ (m_trc μ, x, c, m_cnt μ, m_circ μ)
def dFor (k : Nat) (x : Nat → Nat) (c : Nat) (μ : MS) : MS := u_mm μ (upd (upd (m_trc μ) k (-1)) (12 + k) (-1), x, c, m_cnt μ, m_circ μ)
theorem filt_s (x : Nat → Nat) (p : Nat → Bool) (n : Nat) : (lstN x (n + 1)).filter p = (lstN x n).filter p ++ (if p (x n) = true then [x n] else []) := by
  rw [lstN_s, List.filter_append]
  congr 1
  by_cases h : p (x n) = true
  · rw [if_pos h, List.filter_cons_of_pos h]; rfl
  · rw [if_neg h, List.filter_cons_of_neg h]; rfl
set_option maxHeartbeats 4000000 in
set_option maxRecDepth 100000 in
theorem c_D_cut {l : Launch} {s0 : State} {dC : Nat → ClassId} {dI : Nat → Nat → Nat} {dA : Nat → ClassId} (B0 : BB s0 dC dI dA) (w : fw_W) (md : Nat → Nat) (μ : MS) (n0 : Nat) (hj : Inj37 md) (hD : RD dA md w μ) (hn0 : n0 ≤ 16) (hc : m_cached μ ≤ 17) : Met l y_D_cut [.code y_D_cut b_D_cut 4 (some .int)] ({ frames := 0, cells := 0, slots := 0, locals := 0 }) (mP s0 dC dI w [.ref (md 36), .int (nI n0)]) (mQi s0 dC dI (fun r w' => r = nI (m_cached μ - n0) ∧ ∃ x : Nat → Nat, RD dA md w' (s_cch μ x (m_cached μ - (m_cached μ - n0))) ∧ (∀ i, i + (m_cached μ - n0) < m_cached μ → x i = m_cch μ (i + (m_cached μ - n0))) ∧ OutD md w w')) 0 0 (AA s0) := by
  refine mt_ofW B0 (by decide) (Nat.le_of_ble_eq_true rfl) (fun p e s m args below meth c ls hargs X hin hl hP => ?_)
  have X9 := X
  obtain ⟨hx, hb, hr, hml, hown, hg, hK, hn, hE, hlocks, hA⟩ := X9
  have hS : va_S (AA s0) s.heap s.heap [] := va_S.rf
  have hl : lv_has ls 4 [(0, .ref (md 36)), (1, .int (nI n0))] := hl
  obtain ⟨r36, r0, r1, r2, r3, r4, r5, r6, r7, r8, ⟨u, r9⟩, r10, r11, r12, r13, r14, r15, r23, r24, r25, r26, r27, r28, r29, r30, r31, r32, r33, r34⟩ := (id hD)
  refine lv_aload_n hx hb d_D_cut_0 rfl (lv_at hl 0 rfl) ?_
  refine va_get (D := (dC, dI)) (ci := 5) (v := .int (nI (m_cached μ))) (C := R_D) (T := F_D) (N := 36) hx hb hg in_D hown hK (hP.one r36) 0 rfl rfl 16 (by decide) (hg _ k_607) (fun _ h9 => h9) rfl d_D_cut_1 ?_
  refine lv_iload_n hx hb d_D_cut_4 rfl (lv_at hl 1 rfl) ?_
  refine nu_le (tgt := 17) hx hb (by omega) (by omega) d_D_cut_5 (by decide) (fun c1 => ?_) (fun c1 => ?_)
  · refine lv_iconst (v := (nI 0)) hx hb d_D_cut_17 (by decide) ?_
    refine lv_istore_n (lv' := [(2, .int (nI 0)), (0, .ref (md 36)), (1, .int (nI n0))]) hx hb d_D_cut_18 rfl hl (by decide) rfl (fun ls hl => ?_)
    refine lv_iconst (v := (nI 0)) hx hb d_D_cut_19 (by decide) ?_
    refine lv_istore_n (lv' := [(3, .int (nI 0)), (2, .int (nI 0)), (0, .ref (md 36)), (1, .int (nI n0))]) hx hb d_D_cut_20 rfl hl (by decide) rfl (fun ls hl => ?_)
    suffices lp : ∀ (n : Nat) (i : Nat) (x : Nat → Nat), (i ≤ 17) → (∀ j, j < i → x j = m_cch μ (j + (0))) → (∀ j, i ≤ j → x j = m_cch μ j) → (17 < i + n) → ∀ (wl : fw_W) (H : Heap) (locs : List Loc), (RD dA md wl (s_cch μ x (m_cached μ))) → (OutD md w wl) → fw_P (dC, dI) cls_ (AA s0) wl H → va_S (AA s0) s.heap H locs → ∀ (ls : Array Slot), lv_has ls 4 [(0, .ref (md 36)), (1, .int (nI n0)), (2, .int (nI 0)), (3, .int (nI i))] → W p l e _ s m args below meth c H locs 0 0 (MQ below _ args s 0 0 (AA s0)) (F0 m 21 ls []) from lp 18 0 (m_cch μ) (by omega) (fun j hj9 => absurd hj9 (by omega)) (fun _ _ => rfl) (by omega) _ _ _  (⟨r36, r0, r1, r2, r3, r4, r5, r6, r7, r8, ⟨_, r9⟩, r10, r11, r12, r13, r14, r15, r23, r24, r25, r26, r27, r28, r29, r30, r31, r32, r33, r34⟩) OutD.rf hP hS ls (lv_sub hl [2, 3, 1, 0] rfl)
    intro n
    induction n with
    | zero => intro i x hi hx1 hx2 hbn; exact absurd hbn (by omega)
    | succ n ih =>
      intro i x hi hx1 hx2 hbn wl H locs  hR9 ho9 hP hS ls hl
      obtain ⟨r36, r0, r1, r2, r3, r4, r5, r6, r7, r8, ⟨u, r9⟩, r10, r11, r12, r13, r14, r15, r23, r24, r25, r26, r27, r28, r29, r30, r31, r32, r33, r34⟩ := (id hR9)
      refine lv_iload_n hx hb d_D_cut_21 rfl (lv_at hl 3 rfl) ?_
      refine lv_iload_n hx hb d_D_cut_22 rfl (lv_at hl 2 rfl) ?_
      refine nu_iadd (r := i + 0) hx hb d_D_cut_23 (by omega) ?_
      refine lv_aload_n hx hb d_D_cut_24 rfl (lv_at hl 0 rfl) ?_
      have r36 : wl (md 36) = some (.inr (5, [.ref (md 0), .ref (md 1), .ref (md 2), .ref (md 3), .ref (md 4), .ref (md 5), .ref (md 6), .ref (md 7), .ref (md 8), .ref (md 9), .ref (md 10), .ref (md 11), .ref (md 12), .ref (md 13), .ref (md 14), .ref (md 15), .int (nI (m_cached μ)), .int (nI (m_ocached μ)), .int (m_circ μ), .int (m_ocirc μ), .int (nI (m_thr μ)), .int (nI (m_wkr μ)), .int (nI (m_ran μ).toNat), .ref (md 23), .ref (md 24), .ref (md 25), .ref (md 26), .ref (md 27), .ref (md 28), .ref (md 29), .ref (md 30), .ref (md 31), .ref (md 32), .ref (md 33), .ref (md 34), .int (nI (m_hgt μ))])) := r36
      refine va_get (D := (dC, dI)) (ci := 5) (v := .int (nI (m_cached μ))) (C := R_D) (T := F_D) (N := 36) hx hb hg in_D hown hK (hP.one r36) 0 rfl rfl 16 (by decide) (hg _ k_607) (fun _ h9 => h9) rfl d_D_cut_25 ?_
      refine nu_ge (tgt := 51) hx hb (by omega) (by omega) d_D_cut_28 (by decide) (fun c2 => ?_) (fun c2 => ?_)
      · refine lv_aload_n hx hb d_D_cut_51 rfl (lv_at hl 0 rfl) ?_
        refine lv_dup hx hb d_D_cut_52 rfl ?_
        refine va_get (D := (dC, dI)) (ci := 5) (v := .int (nI (m_cached μ))) (C := R_D) (T := F_D) (N := 36) hx hb hg in_D hown hK (hP.one r36) 0 rfl rfl 16 (by decide) (hg _ k_607) (fun _ h9 => h9) rfl d_D_cut_53 ?_
        refine lv_iload_n hx hb d_D_cut_56 rfl (lv_at hl 2 rfl) ?_
        refine nu_isub (r := (m_cached μ) - 0) hx hb d_D_cut_57 (by omega) ?_
        refine fw_put (D := (dC, dI)) (ci := 5) (v := .int (nI ((m_cached μ) - 0))) (ty := .int) (C := R_D) (T := F_D) (N := 36) hx hb hg in_D ft_D ft_D_ok n_D hown hK hP hS r36 rfl 16 (by decide) (hg _ k_607) (fun _ h9 => h9) rfl (by decide +kernel) rfl rfl (Nat.le_of_ble_eq_true rfl) d_D_cut_58 (fun w1 H locs ew2 hP hS => ?_)
        have r36 : w1 (md 36) = some (.inr (5, [.ref (md 0), .ref (md 1), .ref (md 2), .ref (md 3), .ref (md 4), .ref (md 5), .ref (md 6), .ref (md 7), .ref (md 8), .ref (md 9), .ref (md 10), .ref (md 11), .ref (md 12), .ref (md 13), .ref (md 14), .ref (md 15), .int (nI ((m_cached μ) - 0)), .int (nI (m_ocached μ)), .int (m_circ μ), .int (m_ocirc μ), .int (nI (m_thr μ)), .int (nI (m_wkr μ)), .int (nI (m_ran μ).toNat), .ref (md 23), .ref (md 24), .ref (md 25), .ref (md 26), .ref (md 27), .ref (md 28), .ref (md 29), .ref (md 30), .ref (md 31), .ref (md 32), .ref (md 33), .ref (md 34), .int (nI (m_hgt μ))])) := by rw [ew2]; exact va_up_self _ _ _
        have ho3 : OutD md w w1 := OutD.up ho9 ew2 (by decide)
        refine lv_iload_n hx hb d_D_cut_61 rfl (lv_at hl 2 rfl) ?_
        have hgone : m_cached μ - n0 = 0 := (by omega)
        have hk4 : ∀ i, U37 i → i ∉ [36] → w1 (md i) = wl (md i) := fun i hi hn => by rw [ew2, va_up_ne _ _ (hj.ne hi (j := 36) (by decide) (fun e9 => hn (by rw [e9]; decide)))]
        exact W.iret (v := (nI 0)) hx hb hr (fun tS ht hW => ⟨⟨(nI 0), w1, rfl, ⟨by rw [hgone], x, by rw [hgone]; exact ⟨r36, (hk4 0 (by decide) (by decide)).trans r0, (hk4 1 (by decide) (by decide)).trans r1, (hk4 2 (by decide) (by decide)).trans r2, (hk4 3 (by decide) (by decide)).trans r3, (hk4 4 (by decide) (by decide)).trans r4, (hk4 5 (by decide) (by decide)).trans r5, (hk4 6 (by decide) (by decide)).trans r6, (hk4 7 (by decide) (by decide)).trans r7, (hk4 8 (by decide) (by decide)).trans r8, ⟨_, (hk4 9 (by decide) (by decide)).trans r9⟩, (hk4 10 (by decide) (by decide)).trans r10, (hk4 11 (by decide) (by decide)).trans r11, (hk4 12 (by decide) (by decide)).trans r12, (hk4 13 (by decide) (by decide)).trans r13, (hk4 14 (by decide) (by decide)).trans r14, (hk4 15 (by decide) (by decide)).trans r15, (hk4 23 (by decide) (by decide)).trans r23, (hk4 24 (by decide) (by decide)).trans r24, (hk4 25 (by decide) (by decide)).trans r25, (hk4 26 (by decide) (by decide)).trans r26, (hk4 27 (by decide) (by decide)).trans r27, (hk4 28 (by decide) (by decide)).trans r28, (hk4 29 (by decide) (by decide)).trans r29, (hk4 30 (by decide) (by decide)).trans r30, (hk4 31 (by decide) (by decide)).trans r31, (hk4 32 (by decide) (by decide)).trans r32, (hk4 33 (by decide) (by decide)).trans r33, (hk4 34 (by decide) (by decide)).trans r34⟩, fun j hj9 => by rw [hgone] at hj9 ⊢; exact hx1 j (by omega), ho3⟩, mB_of ht hP⟩, hS.F ht⟩) hS.2.2 d_D_cut_62
      · refine lv_aload_n hx hb d_D_cut_31 rfl (lv_at hl 0 rfl) ?_
        refine va_get (D := (dC, dI)) (ci := 5) (v := .ref (md 12)) (C := R_D) (T := F_D) (N := 36) hx hb hg in_D hown hK (hP.one r36) 0 rfl rfl 12 (by decide) (hg _ k_603) (fun _ h9 => h9) rfl d_D_cut_32 ?_
        refine lv_iload_n hx hb d_D_cut_35 rfl (lv_at hl 3 rfl) ?_
        refine lv_aload_n hx hb d_D_cut_36 rfl (lv_at hl 0 rfl) ?_
        refine va_get (D := (dC, dI)) (ci := 5) (v := .ref (md 12)) (C := R_D) (T := F_D) (N := 36) hx hb hg in_D hown hK (hP.one r36) 0 rfl rfl 12 (by decide) (hg _ k_603) (fun _ h9 => h9) rfl d_D_cut_37 ?_
        refine lv_iload_n hx hb d_D_cut_40 rfl (lv_at hl 3 rfl) ?_
        refine lv_iload_n hx hb d_D_cut_41 rfl (lv_at hl 2 rfl) ?_
        refine nu_iadd (r := i + 0) hx hb d_D_cut_42 (by omega) ?_
        have r12 : wl (md 12) = some (.inl (dA 0, 17, .inl (nf x))) := r12
        refine fw_iald (tys := tyl dA) hx hb hK hP r12 0 rfl (j := i + 0) (by omega) (by decide) d_D_cut_43 ?_
        refine fw_iast (tys := tyl dA) hx hb hK hP hS r12 0 rfl (j := i) (x := (nI (x (i + 0)))) (by omega) (by decide) d_D_cut_44 (fun w5 H locs ew6 hP hS => ?_)
        rw [nf_up] at ew6
        have r12 : w5 (md 12) = some (.inl (dA 0, 17, .inl (nf (va_up x i (x (i + 0)))))) := by rw [ew6]; exact va_up_self _ _ _
        have ho7 : OutD md w w5 := OutD.up ho9 ew6 (by decide)
        refine lv_iinc (v := nI (i + 1)) (lv' := [(3, .int (nI (i + 1))), (0, .ref (md 36)), (1, .int (nI n0)), (2, .int (nI 0))]) hx hb d_D_cut_45 hl (k := 3) rfl (nI_add _ 1) (by decide) rfl (fun ls hl => ?_)
        refine lv_goto (tgt := 21) hx hb d_D_cut_48 (by decide) ?_
        have hk8 : ∀ i, U37 i → i ∉ [12] → w5 (md i) = wl (md i) := fun i hi hn => by rw [ew6, va_up_ne _ _ (hj.ne hi (j := 12) (by decide) (fun e9 => hn (by rw [e9]; decide)))]
        exact ih (i + 1) (va_up x i (x (i + (0)))) (by omega) (fun j hj9 => by by_cases e9 : j = i; (rw [e9, va_up_self]; exact hx2 _ (by omega)); (rw [va_up_ne _ _ e9]; exact hx1 j (by omega))) (fun j hj9 => by rw [va_up_ne _ _ (by omega)]; exact hx2 j (by omega)) (by omega) _ _ _  (⟨(hk8 36 (by decide) (by decide)).trans r36, (hk8 0 (by decide) (by decide)).trans r0, (hk8 1 (by decide) (by decide)).trans r1, (hk8 2 (by decide) (by decide)).trans r2, (hk8 3 (by decide) (by decide)).trans r3, (hk8 4 (by decide) (by decide)).trans r4, (hk8 5 (by decide) (by decide)).trans r5, (hk8 6 (by decide) (by decide)).trans r6, (hk8 7 (by decide) (by decide)).trans r7, (hk8 8 (by decide) (by decide)).trans r8, ⟨_, (hk8 9 (by decide) (by decide)).trans r9⟩, (hk8 10 (by decide) (by decide)).trans r10, (hk8 11 (by decide) (by decide)).trans r11, r12, (hk8 13 (by decide) (by decide)).trans r13, (hk8 14 (by decide) (by decide)).trans r14, (hk8 15 (by decide) (by decide)).trans r15, (hk8 23 (by decide) (by decide)).trans r23, (hk8 24 (by decide) (by decide)).trans r24, (hk8 25 (by decide) (by decide)).trans r25, (hk8 26 (by decide) (by decide)).trans r26, (hk8 27 (by decide) (by decide)).trans r27, (hk8 28 (by decide) (by decide)).trans r28, (hk8 29 (by decide) (by decide)).trans r29, (hk8 30 (by decide) (by decide)).trans r30, (hk8 31 (by decide) (by decide)).trans r31, (hk8 32 (by decide) (by decide)).trans r32, (hk8 33 (by decide) (by decide)).trans r33, (hk8 34 (by decide) (by decide)).trans r34⟩) ho7 hP hS ls (lv_sub hl [1, 2, 3, 0] rfl)
  · refine lv_aload_n hx hb d_D_cut_8 rfl (lv_at hl 0 rfl) ?_
    refine va_get (D := (dC, dI)) (ci := 5) (v := .int (nI (m_cached μ))) (C := R_D) (T := F_D) (N := 36) hx hb hg in_D hown hK (hP.one r36) 0 rfl rfl 16 (by decide) (hg _ k_607) (fun _ h9 => h9) rfl d_D_cut_9 ?_
    refine lv_iload_n hx hb d_D_cut_12 rfl (lv_at hl 1 rfl) ?_
    refine nu_isub (r := (m_cached μ) - n0) hx hb d_D_cut_13 (by omega) ?_
    refine lv_goto (tgt := 18) hx hb d_D_cut_14 (by decide) ?_
    refine lv_istore_n (lv' := [(2, .int (nI ((m_cached μ) - n0))), (0, .ref (md 36)), (1, .int (nI n0))]) hx hb d_D_cut_18 rfl hl (by decide) rfl (fun ls hl => ?_)
    refine lv_iconst (v := (nI 0)) hx hb d_D_cut_19 (by decide) ?_
    refine lv_istore_n (lv' := [(3, .int (nI 0)), (2, .int (nI ((m_cached μ) - n0))), (0, .ref (md 36)), (1, .int (nI n0))]) hx hb d_D_cut_20 rfl hl (by decide) rfl (fun ls hl => ?_)
    suffices lp : ∀ (n : Nat) (i : Nat) (x : Nat → Nat), (i ≤ 17) → (∀ j, j < i → x j = m_cch μ (j + (m_cached μ - n0))) → (∀ j, i ≤ j → x j = m_cch μ j) → (17 < i + n) → ∀ (wl : fw_W) (H : Heap) (locs : List Loc), (RD dA md wl (s_cch μ x (m_cached μ))) → (OutD md w wl) → fw_P (dC, dI) cls_ (AA s0) wl H → va_S (AA s0) s.heap H locs → ∀ (ls : Array Slot), lv_has ls 4 [(0, .ref (md 36)), (1, .int (nI n0)), (2, .int (nI (m_cached μ - n0))), (3, .int (nI i))] → W p l e _ s m args below meth c H locs 0 0 (MQ below _ args s 0 0 (AA s0)) (F0 m 21 ls []) from lp 18 0 (m_cch μ) (by omega) (fun j hj9 => absurd hj9 (by omega)) (fun _ _ => rfl) (by omega) _ _ _  (⟨r36, r0, r1, r2, r3, r4, r5, r6, r7, r8, ⟨_, r9⟩, r10, r11, r12, r13, r14, r15, r23, r24, r25, r26, r27, r28, r29, r30, r31, r32, r33, r34⟩) OutD.rf hP hS ls (lv_sub hl [2, 3, 1, 0] rfl)
    intro n
    induction n with
    | zero => intro i x hi hx1 hx2 hbn; exact absurd hbn (by omega)
    | succ n ih =>
      intro i x hi hx1 hx2 hbn wl H locs  hR9 ho9 hP hS ls hl
      obtain ⟨r36, r0, r1, r2, r3, r4, r5, r6, r7, r8, ⟨u, r9⟩, r10, r11, r12, r13, r14, r15, r23, r24, r25, r26, r27, r28, r29, r30, r31, r32, r33, r34⟩ := (id hR9)
      refine lv_iload_n hx hb d_D_cut_21 rfl (lv_at hl 3 rfl) ?_
      refine lv_iload_n hx hb d_D_cut_22 rfl (lv_at hl 2 rfl) ?_
      refine nu_iadd (r := i + (m_cached μ - n0)) hx hb d_D_cut_23 (by omega) ?_
      refine lv_aload_n hx hb d_D_cut_24 rfl (lv_at hl 0 rfl) ?_
      have r36 : wl (md 36) = some (.inr (5, [.ref (md 0), .ref (md 1), .ref (md 2), .ref (md 3), .ref (md 4), .ref (md 5), .ref (md 6), .ref (md 7), .ref (md 8), .ref (md 9), .ref (md 10), .ref (md 11), .ref (md 12), .ref (md 13), .ref (md 14), .ref (md 15), .int (nI (m_cached μ)), .int (nI (m_ocached μ)), .int (m_circ μ), .int (m_ocirc μ), .int (nI (m_thr μ)), .int (nI (m_wkr μ)), .int (nI (m_ran μ).toNat), .ref (md 23), .ref (md 24), .ref (md 25), .ref (md 26), .ref (md 27), .ref (md 28), .ref (md 29), .ref (md 30), .ref (md 31), .ref (md 32), .ref (md 33), .ref (md 34), .int (nI (m_hgt μ))])) := r36
      refine va_get (D := (dC, dI)) (ci := 5) (v := .int (nI (m_cached μ))) (C := R_D) (T := F_D) (N := 36) hx hb hg in_D hown hK (hP.one r36) 0 rfl rfl 16 (by decide) (hg _ k_607) (fun _ h9 => h9) rfl d_D_cut_25 ?_
      refine nu_ge (tgt := 51) hx hb (by omega) (by omega) d_D_cut_28 (by decide) (fun c2 => ?_) (fun c2 => ?_)
      · refine lv_aload_n hx hb d_D_cut_51 rfl (lv_at hl 0 rfl) ?_
        refine lv_dup hx hb d_D_cut_52 rfl ?_
        refine va_get (D := (dC, dI)) (ci := 5) (v := .int (nI (m_cached μ))) (C := R_D) (T := F_D) (N := 36) hx hb hg in_D hown hK (hP.one r36) 0 rfl rfl 16 (by decide) (hg _ k_607) (fun _ h9 => h9) rfl d_D_cut_53 ?_
        refine lv_iload_n hx hb d_D_cut_56 rfl (lv_at hl 2 rfl) ?_
        refine nu_isub (r := (m_cached μ) - (m_cached μ - n0)) hx hb d_D_cut_57 (by omega) ?_
        refine fw_put (D := (dC, dI)) (ci := 5) (v := .int (nI ((m_cached μ) - (m_cached μ - n0)))) (ty := .int) (C := R_D) (T := F_D) (N := 36) hx hb hg in_D ft_D ft_D_ok n_D hown hK hP hS r36 rfl 16 (by decide) (hg _ k_607) (fun _ h9 => h9) rfl (by decide +kernel) rfl rfl (Nat.le_of_ble_eq_true rfl) d_D_cut_58 (fun w9 H locs ew10 hP hS => ?_)
        have r36 : w9 (md 36) = some (.inr (5, [.ref (md 0), .ref (md 1), .ref (md 2), .ref (md 3), .ref (md 4), .ref (md 5), .ref (md 6), .ref (md 7), .ref (md 8), .ref (md 9), .ref (md 10), .ref (md 11), .ref (md 12), .ref (md 13), .ref (md 14), .ref (md 15), .int (nI ((m_cached μ) - (m_cached μ - n0))), .int (nI (m_ocached μ)), .int (m_circ μ), .int (m_ocirc μ), .int (nI (m_thr μ)), .int (nI (m_wkr μ)), .int (nI (m_ran μ).toNat), .ref (md 23), .ref (md 24), .ref (md 25), .ref (md 26), .ref (md 27), .ref (md 28), .ref (md 29), .ref (md 30), .ref (md 31), .ref (md 32), .ref (md 33), .ref (md 34), .int (nI (m_hgt μ))])) := by rw [ew10]; exact va_up_self _ _ _
        have ho11 : OutD md w w9 := OutD.up ho9 ew10 (by decide)
        refine lv_iload_n hx hb d_D_cut_61 rfl (lv_at hl 2 rfl) ?_
        have hgone : m_cached μ - n0 = m_cached μ - n0 := rfl
        have hk12 : ∀ i, U37 i → i ∉ [36] → w9 (md i) = wl (md i) := fun i hi hn => by rw [ew10, va_up_ne _ _ (hj.ne hi (j := 36) (by decide) (fun e9 => hn (by rw [e9]; decide)))]
        exact W.iret (v := (nI (m_cached μ - n0))) hx hb hr (fun tS ht hW => ⟨⟨(nI (m_cached μ - n0)), w9, rfl, ⟨by rw [hgone], x, by rw [hgone]; exact ⟨r36, (hk12 0 (by decide) (by decide)).trans r0, (hk12 1 (by decide) (by decide)).trans r1, (hk12 2 (by decide) (by decide)).trans r2, (hk12 3 (by decide) (by decide)).trans r3, (hk12 4 (by decide) (by decide)).trans r4, (hk12 5 (by decide) (by decide)).trans r5, (hk12 6 (by decide) (by decide)).trans r6, (hk12 7 (by decide) (by decide)).trans r7, (hk12 8 (by decide) (by decide)).trans r8, ⟨_, (hk12 9 (by decide) (by decide)).trans r9⟩, (hk12 10 (by decide) (by decide)).trans r10, (hk12 11 (by decide) (by decide)).trans r11, (hk12 12 (by decide) (by decide)).trans r12, (hk12 13 (by decide) (by decide)).trans r13, (hk12 14 (by decide) (by decide)).trans r14, (hk12 15 (by decide) (by decide)).trans r15, (hk12 23 (by decide) (by decide)).trans r23, (hk12 24 (by decide) (by decide)).trans r24, (hk12 25 (by decide) (by decide)).trans r25, (hk12 26 (by decide) (by decide)).trans r26, (hk12 27 (by decide) (by decide)).trans r27, (hk12 28 (by decide) (by decide)).trans r28, (hk12 29 (by decide) (by decide)).trans r29, (hk12 30 (by decide) (by decide)).trans r30, (hk12 31 (by decide) (by decide)).trans r31, (hk12 32 (by decide) (by decide)).trans r32, (hk12 33 (by decide) (by decide)).trans r33, (hk12 34 (by decide) (by decide)).trans r34⟩, fun j hj9 => by rw [hgone] at hj9 ⊢; exact hx1 j (by omega), ho11⟩, mB_of ht hP⟩, hS.F ht⟩) hS.2.2 d_D_cut_62
      · refine lv_aload_n hx hb d_D_cut_31 rfl (lv_at hl 0 rfl) ?_
        refine va_get (D := (dC, dI)) (ci := 5) (v := .ref (md 12)) (C := R_D) (T := F_D) (N := 36) hx hb hg in_D hown hK (hP.one r36) 0 rfl rfl 12 (by decide) (hg _ k_603) (fun _ h9 => h9) rfl d_D_cut_32 ?_
        refine lv_iload_n hx hb d_D_cut_35 rfl (lv_at hl 3 rfl) ?_
        refine lv_aload_n hx hb d_D_cut_36 rfl (lv_at hl 0 rfl) ?_
        refine va_get (D := (dC, dI)) (ci := 5) (v := .ref (md 12)) (C := R_D) (T := F_D) (N := 36) hx hb hg in_D hown hK (hP.one r36) 0 rfl rfl 12 (by decide) (hg _ k_603) (fun _ h9 => h9) rfl d_D_cut_37 ?_
        refine lv_iload_n hx hb d_D_cut_40 rfl (lv_at hl 3 rfl) ?_
        refine lv_iload_n hx hb d_D_cut_41 rfl (lv_at hl 2 rfl) ?_
        refine nu_iadd (r := i + (m_cached μ - n0)) hx hb d_D_cut_42 (by omega) ?_
        have r12 : wl (md 12) = some (.inl (dA 0, 17, .inl (nf x))) := r12
        refine fw_iald (tys := tyl dA) hx hb hK hP r12 0 rfl (j := i + (m_cached μ - n0)) (by omega) (by decide) d_D_cut_43 ?_
        refine fw_iast (tys := tyl dA) hx hb hK hP hS r12 0 rfl (j := i) (x := (nI (x (i + (m_cached μ - n0))))) (by omega) (by decide) d_D_cut_44 (fun w13 H locs ew14 hP hS => ?_)
        rw [nf_up] at ew14
        have r12 : w13 (md 12) = some (.inl (dA 0, 17, .inl (nf (va_up x i (x (i + (m_cached μ - n0))))))) := by rw [ew14]; exact va_up_self _ _ _
        have ho15 : OutD md w w13 := OutD.up ho9 ew14 (by decide)
        refine lv_iinc (v := nI (i + 1)) (lv' := [(3, .int (nI (i + 1))), (0, .ref (md 36)), (1, .int (nI n0)), (2, .int (nI (m_cached μ - n0)))]) hx hb d_D_cut_45 hl (k := 3) rfl (nI_add _ 1) (by decide) rfl (fun ls hl => ?_)
        refine lv_goto (tgt := 21) hx hb d_D_cut_48 (by decide) ?_
        have hk16 : ∀ i, U37 i → i ∉ [12] → w13 (md i) = wl (md i) := fun i hi hn => by rw [ew14, va_up_ne _ _ (hj.ne hi (j := 12) (by decide) (fun e9 => hn (by rw [e9]; decide)))]
        exact ih (i + 1) (va_up x i (x (i + (m_cached μ - n0)))) (by omega) (fun j hj9 => by by_cases e9 : j = i; (rw [e9, va_up_self]; exact hx2 _ (by omega)); (rw [va_up_ne _ _ e9]; exact hx1 j (by omega))) (fun j hj9 => by rw [va_up_ne _ _ (by omega)]; exact hx2 j (by omega)) (by omega) _ _ _  (⟨(hk16 36 (by decide) (by decide)).trans r36, (hk16 0 (by decide) (by decide)).trans r0, (hk16 1 (by decide) (by decide)).trans r1, (hk16 2 (by decide) (by decide)).trans r2, (hk16 3 (by decide) (by decide)).trans r3, (hk16 4 (by decide) (by decide)).trans r4, (hk16 5 (by decide) (by decide)).trans r5, (hk16 6 (by decide) (by decide)).trans r6, (hk16 7 (by decide) (by decide)).trans r7, (hk16 8 (by decide) (by decide)).trans r8, ⟨_, (hk16 9 (by decide) (by decide)).trans r9⟩, (hk16 10 (by decide) (by decide)).trans r10, (hk16 11 (by decide) (by decide)).trans r11, r12, (hk16 13 (by decide) (by decide)).trans r13, (hk16 14 (by decide) (by decide)).trans r14, (hk16 15 (by decide) (by decide)).trans r15, (hk16 23 (by decide) (by decide)).trans r23, (hk16 24 (by decide) (by decide)).trans r24, (hk16 25 (by decide) (by decide)).trans r25, (hk16 26 (by decide) (by decide)).trans r26, (hk16 27 (by decide) (by decide)).trans r27, (hk16 28 (by decide) (by decide)).trans r28, (hk16 29 (by decide) (by decide)).trans r29, (hk16 30 (by decide) (by decide)).trans r30, (hk16 31 (by decide) (by decide)).trans r31, (hk16 32 (by decide) (by decide)).trans r32, (hk16 33 (by decide) (by decide)).trans r33, (hk16 34 (by decide) (by decide)).trans r34⟩) ho15 hP hS ls (lv_sub hl [1, 2, 3, 0] rfl)
set_option maxHeartbeats 4000000 in
set_option maxRecDepth 100000 in
theorem c_D_forgetKey {l : Launch} {s0 : State} {dC : Nat → ClassId} {dI : Nat → Nat → Nat} {dA : Nat → ClassId} (B0 : BB s0 dC dI dA) (w : fw_W) (md : Nat → Nat) (μ : MS) (k : Nat) (hj : Inj37 md) (hD : RD dA md w μ) (hk : k < 12) (hc : m_cached μ ≤ 17) (hs : ∀ i, i < m_cached μ → m_cch μ i < 320) (ho : ∀ i, i < m_cached μ → m_own μ (m_cch μ i) < 12) : Met l y_D_forgetKey [.code y_D_forgetKey b_D_forgetKey 4 none] ({ frames := 0, cells := 0, slots := 0, locals := 0 }) (mP s0 dC dI w [.ref (md 36), .int (nI k)]) (mQv s0 dC dI (fun w' => ∃ (x : Nat → Nat) (c : Nat), RD dA md w' (dFor k x c μ) ∧ lstN x c = (lstN (m_cch μ) (m_cached μ)).filter (fun t => !(m_own μ t == k)) ∧ OutD md w w')) 0 0 (AA s0) := by
  have hs0 := hs
  have ho0 := ho
  refine mt_ofW B0 (by decide) (Nat.le_of_ble_eq_true rfl) (fun p e s m args below meth c ls hargs X hin hl hP => ?_)
  have X9 := X
  obtain ⟨hx, hb, hr, hml, hown, hg, hK, hn, hE, hlocks, hA⟩ := X9
  have hS : va_S (AA s0) s.heap s.heap [] := va_S.rf
  have hl : lv_has ls 4 [(0, .ref (md 36)), (1, .int (nI k))] := hl
  obtain ⟨r36, r0, r1, r2, r3, r4, r5, r6, r7, r8, ⟨u, r9⟩, r10, r11, r12, r13, r14, r15, r23, r24, r25, r26, r27, r28, r29, r30, r31, r32, r33, r34⟩ := (id hD)
  refine lv_aload_n hx hb d_D_forgetKey_0 rfl (lv_at hl 0 rfl) ?_
  refine va_get (D := (dC, dI)) (ci := 5) (v := .ref (md 10)) (C := R_D) (T := F_D) (N := 36) hx hb hg in_D hown hK (hP.one r36) 0 rfl rfl 10 (by decide) (hg _ k_601) (fun _ h9 => h9) rfl d_D_forgetKey_1 ?_
  refine lv_iload_n hx hb d_D_forgetKey_4 rfl (lv_at hl 1 rfl) ?_
  refine lv_iconst (v := (-1)) hx hb d_D_forgetKey_5 (by decide) ?_
  refine fw_iast (tys := tyl dA) hx hb hK hP hS r10 0 rfl (j := k) (x := (-1)) (by omega) (by decide) d_D_forgetKey_6 (fun w17 H locs ew18 hP hS => ?_)
  have r10 : w17 (md 10) = some (.inl (dA 0, 24, .inl (upd (m_trc μ) k (-1)))) := by rw [ew18]; exact va_up_self _ _ _
  have ho19 : OutD md w w17 := OutD.up OutD.rf ew18 (by decide)
  refine lv_aload_n hx hb d_D_forgetKey_7 rfl (lv_at hl 0 rfl) ?_
  have r36 : w17 (md 36) = some (.inr (5, [.ref (md 0), .ref (md 1), .ref (md 2), .ref (md 3), .ref (md 4), .ref (md 5), .ref (md 6), .ref (md 7), .ref (md 8), .ref (md 9), .ref (md 10), .ref (md 11), .ref (md 12), .ref (md 13), .ref (md 14), .ref (md 15), .int (nI (m_cached μ)), .int (nI (m_ocached μ)), .int (m_circ μ), .int (m_ocirc μ), .int (nI (m_thr μ)), .int (nI (m_wkr μ)), .int (nI (m_ran μ).toNat), .ref (md 23), .ref (md 24), .ref (md 25), .ref (md 26), .ref (md 27), .ref (md 28), .ref (md 29), .ref (md 30), .ref (md 31), .ref (md 32), .ref (md 33), .ref (md 34), .int (nI (m_hgt μ))])) := by rw [ew18, va_up_ne _ _ (hj.ne (i := 36) (j := 10) (by decide) (by decide) (by decide))]; exact r36
  refine va_get (D := (dC, dI)) (ci := 5) (v := .ref (md 10)) (C := R_D) (T := F_D) (N := 36) hx hb hg in_D hown hK (hP.one r36) 0 rfl rfl 10 (by decide) (hg _ k_601) (fun _ h9 => h9) rfl d_D_forgetKey_8 ?_
  refine lv_bipush (v := (nI 12)) hx hb d_D_forgetKey_11 (by decide) ?_
  refine lv_iload_n hx hb d_D_forgetKey_13 rfl (lv_at hl 1 rfl) ?_
  refine nu_iadd (r := 12 + k) hx hb d_D_forgetKey_14 (by omega) ?_
  refine lv_iconst (v := (-1)) hx hb d_D_forgetKey_15 (by decide) ?_
  refine fw_iast (tys := tyl dA) hx hb hK hP hS r10 0 rfl (j := 12 + k) (x := (-1)) (by omega) (by decide) d_D_forgetKey_16 (fun w20 H locs ew21 hP hS => ?_)
  have r10 : w20 (md 10) = some (.inl (dA 0, 24, .inl (upd (upd (m_trc μ) k (-1)) (12 + k) (-1)))) := by rw [ew21]; exact va_up_self _ _ _
  have ho22 : OutD md w w20 := OutD.up ho19 ew21 (by decide)
  refine lv_iconst (v := (nI 0)) hx hb d_D_forgetKey_17 (by decide) ?_
  refine lv_istore_n (lv' := [(2, .int (nI 0)), (0, .ref (md 36)), (1, .int (nI k))]) hx hb d_D_forgetKey_18 rfl hl (by decide) rfl (fun ls hl => ?_)
  refine lv_iconst (v := (nI 0)) hx hb d_D_forgetKey_19 (by decide) ?_
  refine lv_istore_n (lv' := [(3, .int (nI 0)), (2, .int (nI 0)), (0, .ref (md 36)), (1, .int (nI k))]) hx hb d_D_forgetKey_20 rfl hl (by decide) rfl (fun ls hl => ?_)
  have hk23 : ∀ i, U37 i → i ∉ [10] → w20 (md i) = w17 (md i) := fun i hi hn => by rw [ew21, va_up_ne _ _ (hj.ne hi (j := 10) (by decide) (fun e9 => hn (by rw [e9]; decide)))]
  have hk24 : ∀ i, U37 i → i ∉ [10] → w20 (md i) = w (md i) := fun i hi hn => by rw [ew21, va_up_ne _ _ (hj.ne hi (j := 10) (by decide) (fun e9 => hn (by rw [e9]; decide))), ew18, va_up_ne _ _ (hj.ne hi (j := 10) (by decide) (fun e9 => hn (by rw [e9]; decide)))]
  suffices lp : ∀ (n : Nat) (i : Nat) (n1 : Nat) (x : Nat → Nat), (i ≤ m_cached μ) → (n1 ≤ i) → (lstN x n1 = (lstN (m_cch μ) i).filter (fun t => !(m_own μ t == k))) → (∀ j, i ≤ j → x j = m_cch μ j) → (m_cached μ < i + n) → ∀ (wl : fw_W) (H : Heap) (locs : List Loc), (RD dA md wl (dFor k x (m_cached μ) μ)) → (OutD md w wl) → fw_P (dC, dI) cls_ (AA s0) wl H → va_S (AA s0) s.heap H locs → ∀ (ls : Array Slot), lv_has ls 4 [(0, .ref (md 36)), (1, .int (nI k)), (2, .int (nI n1)), (3, .int (nI i))] → W p l e _ s m args below meth c H locs 0 0 (MQ below _ args s 0 0 (AA s0)) (F0 m 21 ls []) from lp (m_cached μ + 1) 0 0 (m_cch μ) (by omega) (by omega) rfl (fun _ _ => rfl) (by omega) _ _ _  (⟨(hk23 36 (by decide) (by decide)).trans r36, (hk24 0 (by decide) (by decide)).trans r0, (hk24 1 (by decide) (by decide)).trans r1, (hk24 2 (by decide) (by decide)).trans r2, (hk24 3 (by decide) (by decide)).trans r3, (hk24 4 (by decide) (by decide)).trans r4, (hk24 5 (by decide) (by decide)).trans r5, (hk24 6 (by decide) (by decide)).trans r6, (hk24 7 (by decide) (by decide)).trans r7, (hk24 8 (by decide) (by decide)).trans r8, ⟨_, (hk24 9 (by decide) (by decide)).trans r9⟩, r10, (hk24 11 (by decide) (by decide)).trans r11, (hk24 12 (by decide) (by decide)).trans r12, (hk24 13 (by decide) (by decide)).trans r13, (hk24 14 (by decide) (by decide)).trans r14, (hk24 15 (by decide) (by decide)).trans r15, (hk24 23 (by decide) (by decide)).trans r23, (hk24 24 (by decide) (by decide)).trans r24, (hk24 25 (by decide) (by decide)).trans r25, (hk24 26 (by decide) (by decide)).trans r26, (hk24 27 (by decide) (by decide)).trans r27, (hk24 28 (by decide) (by decide)).trans r28, (hk24 29 (by decide) (by decide)).trans r29, (hk24 30 (by decide) (by decide)).trans r30, (hk24 31 (by decide) (by decide)).trans r31, (hk24 32 (by decide) (by decide)).trans r32, (hk24 33 (by decide) (by decide)).trans r33, (hk24 34 (by decide) (by decide)).trans r34⟩) ho22 hP hS ls (lv_sub hl [2, 3, 1, 0] rfl)
  intro n
  induction n with
  | zero => intro i n1 x hi hn1 hx1 hx2 hbn; exact absurd hbn (by omega)
  | succ n ih =>
    intro i n1 x hi hn1 hx1 hx2 hbn wl H locs  hR9 ho9 hP hS ls hl
    obtain ⟨r36, r0, r1, r2, r3, r4, r5, r6, r7, r8, ⟨u, r9⟩, r10, r11, r12, r13, r14, r15, r23, r24, r25, r26, r27, r28, r29, r30, r31, r32, r33, r34⟩ := (id hR9)
    refine lv_iload_n hx hb d_D_forgetKey_21 rfl (lv_at hl 3 rfl) ?_
    refine lv_aload_n hx hb d_D_forgetKey_22 rfl (lv_at hl 0 rfl) ?_
    have r36 : wl (md 36) = some (.inr (5, [.ref (md 0), .ref (md 1), .ref (md 2), .ref (md 3), .ref (md 4), .ref (md 5), .ref (md 6), .ref (md 7), .ref (md 8), .ref (md 9), .ref (md 10), .ref (md 11), .ref (md 12), .ref (md 13), .ref (md 14), .ref (md 15), .int (nI (m_cached μ)), .int (nI (m_ocached μ)), .int (m_circ μ), .int (m_ocirc μ), .int (nI (m_thr μ)), .int (nI (m_wkr μ)), .int (nI (m_ran μ).toNat), .ref (md 23), .ref (md 24), .ref (md 25), .ref (md 26), .ref (md 27), .ref (md 28), .ref (md 29), .ref (md 30), .ref (md 31), .ref (md 32), .ref (md 33), .ref (md 34), .int (nI (m_hgt μ))])) := r36
    refine va_get (D := (dC, dI)) (ci := 5) (v := .int (nI (m_cached μ))) (C := R_D) (T := F_D) (N := 36) hx hb hg in_D hown hK (hP.one r36) 0 rfl rfl 16 (by decide) (hg _ k_607) (fun _ h9 => h9) rfl d_D_forgetKey_23 ?_
    refine nu_ge (tgt := 68) hx hb (by omega) (by omega) d_D_forgetKey_26 (by decide) (fun c1 => ?_) (fun c1 => ?_)
    · refine lv_aload_n hx hb d_D_forgetKey_68 rfl (lv_at hl 0 rfl) ?_
      refine lv_iload_n hx hb d_D_forgetKey_69 rfl (lv_at hl 2 rfl) ?_
      refine fw_put (D := (dC, dI)) (ci := 5) (v := .int (nI n1)) (ty := .int) (C := R_D) (T := F_D) (N := 36) hx hb hg in_D ft_D ft_D_ok n_D hown hK hP hS r36 rfl 16 (by decide) (hg _ k_607) (fun _ h9 => h9) rfl (by decide +kernel) rfl rfl (Nat.le_of_ble_eq_true rfl) d_D_forgetKey_70 (fun w25 H locs ew26 hP hS => ?_)
      have r36 : w25 (md 36) = some (.inr (5, [.ref (md 0), .ref (md 1), .ref (md 2), .ref (md 3), .ref (md 4), .ref (md 5), .ref (md 6), .ref (md 7), .ref (md 8), .ref (md 9), .ref (md 10), .ref (md 11), .ref (md 12), .ref (md 13), .ref (md 14), .ref (md 15), .int (nI n1), .int (nI (m_ocached μ)), .int (m_circ μ), .int (m_ocirc μ), .int (nI (m_thr μ)), .int (nI (m_wkr μ)), .int (nI (m_ran μ).toNat), .ref (md 23), .ref (md 24), .ref (md 25), .ref (md 26), .ref (md 27), .ref (md 28), .ref (md 29), .ref (md 30), .ref (md 31), .ref (md 32), .ref (md 33), .ref (md 34), .int (nI (m_hgt μ))])) := by rw [ew26]; exact va_up_self _ _ _
      have ho27 : OutD md w w25 := OutD.up ho9 ew26 (by decide)
      have hk28 : ∀ i, U37 i → i ∉ [36] → w25 (md i) = wl (md i) := fun i hi hn => by rw [ew26, va_up_ne _ _ (hj.ne hi (j := 36) (by decide) (fun e9 => hn (by rw [e9]; decide)))]
      exact W.vret hx hb hr (fun tS ht hW => ⟨⟨w25, rfl, ⟨x, n1, ⟨r36, (hk28 0 (by decide) (by decide)).trans r0, (hk28 1 (by decide) (by decide)).trans r1, (hk28 2 (by decide) (by decide)).trans r2, (hk28 3 (by decide) (by decide)).trans r3, (hk28 4 (by decide) (by decide)).trans r4, (hk28 5 (by decide) (by decide)).trans r5, (hk28 6 (by decide) (by decide)).trans r6, (hk28 7 (by decide) (by decide)).trans r7, (hk28 8 (by decide) (by decide)).trans r8, ⟨_, (hk28 9 (by decide) (by decide)).trans r9⟩, (hk28 10 (by decide) (by decide)).trans r10, (hk28 11 (by decide) (by decide)).trans r11, (hk28 12 (by decide) (by decide)).trans r12, (hk28 13 (by decide) (by decide)).trans r13, (hk28 14 (by decide) (by decide)).trans r14, (hk28 15 (by decide) (by decide)).trans r15, (hk28 23 (by decide) (by decide)).trans r23, (hk28 24 (by decide) (by decide)).trans r24, (hk28 25 (by decide) (by decide)).trans r25, (hk28 26 (by decide) (by decide)).trans r26, (hk28 27 (by decide) (by decide)).trans r27, (hk28 28 (by decide) (by decide)).trans r28, (hk28 29 (by decide) (by decide)).trans r29, (hk28 30 (by decide) (by decide)).trans r30, (hk28 31 (by decide) (by decide)).trans r31, (hk28 32 (by decide) (by decide)).trans r32, (hk28 33 (by decide) (by decide)).trans r33, (hk28 34 (by decide) (by decide)).trans r34⟩, by rw [hx1, show i = m_cached μ by omega], ho27⟩, mB_of ht hP⟩, hS.F ht⟩) hS.2.2 d_D_forgetKey_73
    · have ex := hx2 i (Nat.le_refl i)
      have es := hs0 i (by omega)
      have eo := ho0 i (by omega)
      rw [← ex] at es eo
      have hsx : (lstN (m_cch μ) (i + 1)).filter (fun t => !(m_own μ t == k)) = (lstN (m_cch μ) i).filter (fun t => !(m_own μ t == k)) ++ (if (fun t => !(m_own μ t == k)) (x i) = true then [x i] else []) := by rw [filt_s, ex]
      refine lv_aload_n hx hb d_D_forgetKey_29 rfl (lv_at hl 0 rfl) ?_
      refine va_get (D := (dC, dI)) (ci := 5) (v := .ref (md 6)) (C := R_D) (T := F_D) (N := 36) hx hb hg in_D hown hK (hP.one r36) 0 rfl rfl 6 (by decide) (hg _ k_597) (fun _ h9 => h9) rfl d_D_forgetKey_30 ?_
      refine lv_aload_n hx hb d_D_forgetKey_33 rfl (lv_at hl 0 rfl) ?_
      refine va_get (D := (dC, dI)) (ci := 5) (v := .ref (md 12)) (C := R_D) (T := F_D) (N := 36) hx hb hg in_D hown hK (hP.one r36) 0 rfl rfl 12 (by decide) (hg _ k_603) (fun _ h9 => h9) rfl d_D_forgetKey_34 ?_
      refine lv_iload_n hx hb d_D_forgetKey_37 rfl (lv_at hl 3 rfl) ?_
      have r12 : wl (md 12) = some (.inl (dA 0, 17, .inl (nf x))) := r12
      refine fw_iald (tys := tyl dA) hx hb hK hP r12 0 rfl (j := i) (by omega) (by decide) d_D_forgetKey_38 ?_
      have r6 : wl (md 6) = some (.inl (dA 0, 320, .inl (nf (m_own μ)))) := r6
      refine fw_iald (tys := tyl dA) hx hb hK hP r6 0 rfl (j := x i) es (by decide) d_D_forgetKey_39 ?_
      refine lv_iload_n hx hb d_D_forgetKey_40 rfl (lv_at hl 1 rfl) ?_
      refine nu_ne (tgt := 47) hx hb (by omega) (by omega) d_D_forgetKey_41 (by decide) (fun c2 => ?_) (fun c2 => ?_)
      · refine lv_aload_n hx hb d_D_forgetKey_47 rfl (lv_at hl 0 rfl) ?_
        refine va_get (D := (dC, dI)) (ci := 5) (v := .ref (md 12)) (C := R_D) (T := F_D) (N := 36) hx hb hg in_D hown hK (hP.one r36) 0 rfl rfl 12 (by decide) (hg _ k_603) (fun _ h9 => h9) rfl d_D_forgetKey_48 ?_
        refine lv_iload_n hx hb d_D_forgetKey_51 rfl (lv_at hl 2 rfl) ?_
        refine lv_aload_n hx hb d_D_forgetKey_52 rfl (lv_at hl 0 rfl) ?_
        refine va_get (D := (dC, dI)) (ci := 5) (v := .ref (md 12)) (C := R_D) (T := F_D) (N := 36) hx hb hg in_D hown hK (hP.one r36) 0 rfl rfl 12 (by decide) (hg _ k_603) (fun _ h9 => h9) rfl d_D_forgetKey_53 ?_
        refine lv_iload_n hx hb d_D_forgetKey_56 rfl (lv_at hl 3 rfl) ?_
        refine fw_iald (tys := tyl dA) hx hb hK hP r12 0 rfl (j := i) (by omega) (by decide) d_D_forgetKey_57 ?_
        refine fw_iast (tys := tyl dA) hx hb hK hP hS r12 0 rfl (j := n1) (x := (nI (x i))) (by omega) (by decide) d_D_forgetKey_58 (fun w29 H locs ew30 hP hS => ?_)
        rw [nf_up] at ew30
        have r12 : w29 (md 12) = some (.inl (dA 0, 17, .inl (nf (va_up x n1 (x i))))) := by rw [ew30]; exact va_up_self _ _ _
        have ho31 : OutD md w w29 := OutD.up ho9 ew30 (by decide)
        refine lv_iinc (v := nI (n1 + 1)) (lv' := [(2, .int (nI (n1 + 1))), (0, .ref (md 36)), (1, .int (nI k)), (3, .int (nI i))]) hx hb d_D_forgetKey_59 hl (k := 2) rfl (nI_add _ 1) (by decide) rfl (fun ls hl => ?_)
        refine lv_iinc (v := nI (i + 1)) (lv' := [(3, .int (nI (i + 1))), (2, .int (nI (n1 + 1))), (0, .ref (md 36)), (1, .int (nI k))]) hx hb d_D_forgetKey_62 hl (k := 3) rfl (nI_add _ 1) (by decide) rfl (fun ls hl => ?_)
        refine lv_goto (tgt := 21) hx hb d_D_forgetKey_65 (by decide) ?_
        have hk32 : ∀ i, U37 i → i ∉ [12] → w29 (md i) = wl (md i) := fun i hi hn => by rw [ew30, va_up_ne _ _ (hj.ne hi (j := 12) (by decide) (fun e9 => hn (by rw [e9]; decide)))]
        exact ih (i + 1) (n1 + 1) (va_up x n1 (x i)) (by omega) (by omega) (by rw [lstN_up, hsx, if_pos (by simp; omega), hx1]) (fun j hj9 => by rw [va_up_ne _ _ (by omega)]; exact hx2 j (by omega)) (by omega) _ _ _  (⟨(hk32 36 (by decide) (by decide)).trans r36, (hk32 0 (by decide) (by decide)).trans r0, (hk32 1 (by decide) (by decide)).trans r1, (hk32 2 (by decide) (by decide)).trans r2, (hk32 3 (by decide) (by decide)).trans r3, (hk32 4 (by decide) (by decide)).trans r4, (hk32 5 (by decide) (by decide)).trans r5, (hk32 6 (by decide) (by decide)).trans r6, (hk32 7 (by decide) (by decide)).trans r7, (hk32 8 (by decide) (by decide)).trans r8, ⟨_, (hk32 9 (by decide) (by decide)).trans r9⟩, (hk32 10 (by decide) (by decide)).trans r10, (hk32 11 (by decide) (by decide)).trans r11, r12, (hk32 13 (by decide) (by decide)).trans r13, (hk32 14 (by decide) (by decide)).trans r14, (hk32 15 (by decide) (by decide)).trans r15, (hk32 23 (by decide) (by decide)).trans r23, (hk32 24 (by decide) (by decide)).trans r24, (hk32 25 (by decide) (by decide)).trans r25, (hk32 26 (by decide) (by decide)).trans r26, (hk32 27 (by decide) (by decide)).trans r27, (hk32 28 (by decide) (by decide)).trans r28, (hk32 29 (by decide) (by decide)).trans r29, (hk32 30 (by decide) (by decide)).trans r30, (hk32 31 (by decide) (by decide)).trans r31, (hk32 32 (by decide) (by decide)).trans r32, (hk32 33 (by decide) (by decide)).trans r33, (hk32 34 (by decide) (by decide)).trans r34⟩) ho31 hP hS ls (lv_sub hl [2, 3, 1, 0] rfl)
      · refine lv_goto (tgt := 62) hx hb d_D_forgetKey_44 (by decide) ?_
        refine lv_iinc (v := nI (i + 1)) (lv' := [(3, .int (nI (i + 1))), (0, .ref (md 36)), (1, .int (nI k)), (2, .int (nI n1))]) hx hb d_D_forgetKey_62 hl (k := 3) rfl (nI_add _ 1) (by decide) rfl (fun ls hl => ?_)
        refine lv_goto (tgt := 21) hx hb d_D_forgetKey_65 (by decide) ?_
        exact ih (i + 1) n1 x (by omega) (by omega) (by rw [hsx, if_neg (by simp; omega), hx1, List.append_nil]) (fun j hj9 => hx2 j (by omega)) (by omega) _ _ _  (⟨r36, r0, r1, r2, r3, r4, r5, r6, r7, r8, ⟨_, r9⟩, r10, r11, r12, r13, r14, r15, r23, r24, r25, r26, r27, r28, r29, r30, r31, r32, r33, r34⟩) ho9 hP hS ls (lv_sub hl [1, 2, 3, 0] rfl)
