def lstN (x : Nat → Nat) (n : Nat) : List Nat := (List.range n).map x
theorem lstN_0 (x : Nat → Nat) : lstN x 0 = [] := rfl
theorem lstN_s (x : Nat → Nat) (n : Nat) : lstN x (n + 1) = lstN x n ++ [x n] := by
  unfold lstN
  rw [List.range_succ, List.map_append]
  rfl
theorem lstN_len (x : Nat → Nat) (n : Nat) : (lstN x n).length = n := by
  unfold lstN
  rw [List.length_map, List.length_range]
theorem lstN_ext {x y : Nat → Nat} {n : Nat} (h : ∀ i, i < n → x i = y i) : lstN x n = lstN y n := by
  unfold lstN
  exact List.map_congr_left (fun i hi => h i (List.mem_range.mp hi))
theorem lstN_up (x : Nat → Nat) (n v : Nat) : lstN (va_up x n v) (n + 1) = lstN x n ++ [v] := by
  rw [lstN_s, va_up_self, lstN_ext (fun i hi => va_up_ne _ _ (by omega))]
theorem lstN_at {x : Nat → Nat} {n i : Nat} (hi : i < n) : (lstN x n)[i]? = some (x i) := by
  unfold lstN
  rw [List.getElem?_map, List.getElem?_range hi]
  rfl
theorem flt_len9 (x : Nat → Nat) (p : Nat → Bool) (n : Nat) : ((lstN x n).filter p).length ≤ n := by
  have := List.length_filter_le p (lstN x n)
  rw [lstN_len] at this
  exact this
def cntR (t : Nat → Int32) (wk : Nat) : Nat → Nat
  | 0 => 0
  | n + 1 => cntR t wk n + (if t (12 * wk + n) < 0 then 0 else 1)
theorem cntR_le (t : Nat → Int32) (wk : Nat) : ∀ n, cntR t wk n ≤ n
  | 0 => Nat.le_refl 0
  | n + 1 => by
    have h := cntR_le t wk n
    unfold cntR
    split <;> omega
set_option maxHeartbeats 4000000 in
set_option maxRecDepth 100000 in
theorem c_D_take {l : Launch} {s0 : State} {dC : Nat → ClassId} {dI : Nat → Nat → Nat} {dA : Nat → ClassId} (B0 : BB s0 dC dI dA) (w : fw_W) (md : Nat → Nat) (μ : MS) (f : Nat) (v : Int64) (hj : Inj37 md) (hD : RD dA md w μ) (hf : f < 13) (hk : m_key μ f < 12) (hr : m_rule μ (m_key μ f) < 10) (ha : m_asked μ f < 100) : Met l y_D_take [.code y_D_take b_D_take 5 none] ({ frames := 0, cells := 0, slots := 0, locals := 0 }) (mP s0 dC dI w [.ref (md 36), .int (nI f), .long v]) (mQv s0 dC dI (fun w' => RD dA md w' (dTake f v μ) ∧ OutD md w w')) 0 0 (AA s0) := by
  have hr10 := hr
  refine mt_ofW B0 (by decide) (Nat.le_of_ble_eq_true rfl) (fun p e s m args below meth c ls hargs X hin hl hP => ?_)
  have X9 := X
  obtain ⟨hx, hb, hr, hml, hown, hg, hK, hn, hE, hlocks, hA⟩ := X9
  have hS : va_S (AA s0) s.heap s.heap [] := va_S.rf
  have hl : lv_has ls 5 [(0, .ref (md 36)), (1, .int (nI f)), (2, .long v)] := hl
  obtain ⟨r36, r0, r1, r2, r3, r4, r5, r6, r7, r8, ⟨u, r9⟩, r10, r11, r12, r13, r14, r15, r23, r24, r25, r26, r27, r28, r29, r30, r31, r32, r33, r34⟩ := (id hD)
  refine lv_aload_n hx hb d_D_take_0 rfl (lv_at hl 0 rfl) ?_
  refine va_get (D := (dC, dI)) (ci := 5) (v := .ref (md 1)) (C := R_D) (T := F_D) (N := 36) hx hb hg in_D hown hK (hP.one r36) 0 rfl rfl 1 (by decide) (hg _ k_592) (fun _ h9 => h9) rfl d_D_take_1 ?_
  refine lv_aload_n hx hb d_D_take_4 rfl (lv_at hl 0 rfl) ?_
  refine va_get (D := (dC, dI)) (ci := 5) (v := .ref (md 25)) (C := R_D) (T := F_D) (N := 36) hx hb hg in_D hown hK (hP.one r36) 0 rfl rfl 25 (by decide) (hg _ k_616) (fun _ h9 => h9) rfl d_D_take_5 ?_
  refine lv_iload_n hx hb d_D_take_8 rfl (lv_at hl 1 rfl) ?_
  refine fw_iald (tys := tyl dA) hx hb hK hP r25 0 rfl (j := f) (by omega) (by decide) d_D_take_9 ?_
  refine fw_iald (tys := tyl dA) hx hb hK hP r1 0 rfl (j := (m_key μ) f) (by omega) (by decide) d_D_take_10 ?_
  refine lv_istore (lv' := [(4, .int (nI ((m_rule μ) ((m_key μ) f)))), (0, .ref (md 36)), (1, .int (nI f)), (2, .long v)]) hx hb d_D_take_11 hl (by decide) rfl (fun ls hl => ?_)
  refine lv_aload_n hx hb d_D_take_13 rfl (lv_at hl 1 rfl) ?_
  refine va_get (D := (dC, dI)) (ci := 5) (v := .ref (md 32)) (C := R_D) (T := F_D) (N := 36) hx hb hg in_D hown hK (hP.one r36) 0 rfl rfl 32 (by decide) (hg _ k_623) (fun _ h9 => h9) rfl d_D_take_14 ?_
  refine lv_iload_n hx hb d_D_take_17 rfl (lv_at hl 2 rfl) ?_
  refine fw_iald (tys := tyl dA) hx hb hK hP r32 0 rfl (j := f) (by omega) (by decide) d_D_take_18 ?_
  refine nu_zne (tgt := 29) hx hb (by omega) d_D_take_19 (by decide) (fun c1 => ?_) (fun c1 => ?_)
  · refine lv_iload hx hb d_D_take_29 (lv_at hl 0 rfl) ?_
    refine nu_zeq (tgt := 41) hx hb (by omega) d_D_take_31 (by decide) (fun c2 => ?_) (fun c2 => ?_)
    · refine lv_aload_n hx hb d_D_take_41 rfl (lv_at hl 1 rfl) ?_
      refine va_get (D := (dC, dI)) (ci := 5) (v := .ref (md 34)) (C := R_D) (T := F_D) (N := 36) hx hb hg in_D hown hK (hP.one r36) 0 rfl rfl 34 (by decide) (hg _ k_625) (fun _ h9 => h9) rfl d_D_take_42 ?_
      refine lv_iload_n hx hb d_D_take_45 rfl (lv_at hl 2 rfl) ?_
      refine lv_dup2_11 hx hb d_D_take_46 rfl rfl ?_
      refine fw_lald (tys := tyl dA) hx hb hK hP r34 1 rfl (j := f) (by omega) (by decide) d_D_take_47 ?_
      refine lv_lload_n hx hb d_D_take_48 rfl (lv_at hl 3 rfl) ?_
      refine lv_ladd hx hb d_D_take_49 ?_
      refine fw_last (tys := tyl dA) hx hb hK hP hS r34 1 rfl (j := f) (by omega) (by decide) d_D_take_50 (fun w1 H locs ew2 hP hS => ?_)
      have r34 : w1 (md 34) = some (.inl (dA 1, 13, .inr (.inl (vp_updL (m_sum μ) f (((m_sum μ) f) + v))))) := by rw [ew2]; exact va_up_self _ _ _
      have ho3 : OutD md w w1 := OutD.up OutD.rf ew2 (by decide)
      refine lv_goto (tgt := 126) hx hb d_D_take_51 (by decide) ?_
      refine lv_aload_n hx hb d_D_take_126 rfl (lv_at hl 1 rfl) ?_
      have r36 : w1 (md 36) = some (.inr (5, [.ref (md 0), .ref (md 1), .ref (md 2), .ref (md 3), .ref (md 4), .ref (md 5), .ref (md 6), .ref (md 7), .ref (md 8), .ref (md 9), .ref (md 10), .ref (md 11), .ref (md 12), .ref (md 13), .ref (md 14), .ref (md 15), .int (nI (m_cached μ)), .int (nI (m_ocached μ)), .int (m_circ μ), .int (m_ocirc μ), .int (nI (m_thr μ)), .int (nI (m_wkr μ)), .int (nI (m_ran μ).toNat), .ref (md 23), .ref (md 24), .ref (md 25), .ref (md 26), .ref (md 27), .ref (md 28), .ref (md 29), .ref (md 30), .ref (md 31), .ref (md 32), .ref (md 33), .ref (md 34), .int (nI (m_hgt μ))])) := by rw [ew2, va_up_ne _ _ (hj.ne (i := 36) (j := 34) (by decide) (by decide) (by decide))]; exact r36
      refine va_get (D := (dC, dI)) (ci := 5) (v := .ref (md 32)) (C := R_D) (T := F_D) (N := 36) hx hb hg in_D hown hK (hP.one r36) 0 rfl rfl 32 (by decide) (hg _ k_623) (fun _ h9 => h9) rfl d_D_take_127 ?_
      refine lv_iload_n hx hb d_D_take_130 rfl (lv_at hl 2 rfl) ?_
      refine lv_dup2_11 hx hb d_D_take_131 rfl rfl ?_
      have r32 : w1 (md 32) = some (.inl (dA 0, 13, .inl (nf (m_asked μ)))) := by rw [ew2, va_up_ne _ _ (hj.ne (i := 32) (j := 34) (by decide) (by decide) (by decide))]; exact r32
      refine fw_iald (tys := tyl dA) hx hb hK hP r32 0 rfl (j := f) (by omega) (by decide) d_D_take_132 ?_
      refine lv_iconst (v := (nI 1)) hx hb d_D_take_133 (by decide) ?_
      refine nu_iadd (r := (m_asked μ) f + 1) hx hb d_D_take_134 (by omega) ?_
      refine fw_iast (tys := tyl dA) hx hb hK hP hS r32 0 rfl (j := f) (x := (nI ((m_asked μ) f + 1))) (by omega) (by decide) d_D_take_135 (fun w4 H locs ew5 hP hS => ?_)
      rw [nf_up] at ew5
      have r32 : w4 (md 32) = some (.inl (dA 0, 13, .inl (nf (va_up (m_asked μ) f ((m_asked μ) f + 1))))) := by rw [ew5]; exact va_up_self _ _ _
      have ho6 : OutD md w w4 := OutD.up ho3 ew5 (by decide)
      have hk7 : ∀ i, U37 i → i ∉ [32] → w4 (md i) = w1 (md i) := fun i hi hn => by rw [ew5, va_up_ne _ _ (hj.ne hi (j := 32) (by decide) (fun e9 => hn (by rw [e9]; decide)))]
      have hk8 : ∀ i, U37 i → i ∉ [32, 34] → w4 (md i) = w (md i) := fun i hi hn => by rw [ew5, va_up_ne _ _ (hj.ne hi (j := 32) (by decide) (fun e9 => hn (by rw [e9]; decide))), ew2, va_up_ne _ _ (hj.ne hi (j := 34) (by decide) (fun e9 => hn (by rw [e9]; decide)))]
      exact W.vret hx hb hr (fun tS ht hW => ⟨⟨w4, rfl, (by rw [show dTake f v μ = (((m_sort μ), (m_rule μ), m_parts μ, m_inp μ), ((m_size μ), (m_keys μ), (m_own μ), m_got μ, m_came μ), (m_trc μ, (m_cch μ), m_cached μ, m_cnt μ, (m_circ μ)), (m_otrc μ, (m_occh μ), m_ocached μ, m_ocnt μ, (m_ocirc μ)), (m_thr μ, m_wkr μ, (m_ran μ), (m_st μ), m_val μ), ((m_key μ), (m_ph μ), m_chk μ, (m_at μ), (m_cand μ), (m_cc μ), (m_mk μ), (va_up (m_asked μ) f ((m_asked μ) f + 1)), m_first μ, vp_updL (m_sum μ) f (((m_sum μ) f) + v), m_hgt μ)) from (by unfold dTake; rw [show dFst (m_asked μ f) f v (m_first μ) = m_first μ from if_neg c1, show dAcc (m_rule μ (m_key μ f)) (m_asked μ f) (m_sum μ f) v = _ from (if_pos (Or.inl c2))] <;> rfl)]; exact ⟨⟨(hk7 36 (by decide) (by decide)).trans r36, (hk8 0 (by decide) (by decide)).trans r0, (hk8 1 (by decide) (by decide)).trans r1, (hk8 2 (by decide) (by decide)).trans r2, (hk8 3 (by decide) (by decide)).trans r3, (hk8 4 (by decide) (by decide)).trans r4, (hk8 5 (by decide) (by decide)).trans r5, (hk8 6 (by decide) (by decide)).trans r6, (hk8 7 (by decide) (by decide)).trans r7, (hk8 8 (by decide) (by decide)).trans r8, ⟨_, (hk8 9 (by decide) (by decide)).trans r9⟩, (hk8 10 (by decide) (by decide)).trans r10, (hk8 11 (by decide) (by decide)).trans r11, (hk8 12 (by decide) (by decide)).trans r12, (hk8 13 (by decide) (by decide)).trans r13, (hk8 14 (by decide) (by decide)).trans r14, (hk8 15 (by decide) (by decide)).trans r15, (hk8 23 (by decide) (by decide)).trans r23, (hk8 24 (by decide) (by decide)).trans r24, (hk8 25 (by decide) (by decide)).trans r25, (hk8 26 (by decide) (by decide)).trans r26, (hk8 27 (by decide) (by decide)).trans r27, (hk8 28 (by decide) (by decide)).trans r28, (hk8 29 (by decide) (by decide)).trans r29, (hk8 30 (by decide) (by decide)).trans r30, (hk8 31 (by decide) (by decide)).trans r31, r32, (hk8 33 (by decide) (by decide)).trans r33, (hk7 34 (by decide) (by decide)).trans r34⟩, ho6⟩), mB_of ht hP⟩, hS.F ht⟩) hS.2.2 d_D_take_136
    · refine lv_iload hx hb d_D_take_34 (lv_at hl 0 rfl) ?_
      refine lv_bipush (v := (nI 7)) hx hb d_D_take_36 (by decide) ?_
      refine nu_ne (tgt := 54) hx hb (by omega) (by omega) d_D_take_38 (by decide) (fun c3 => ?_) (fun c3 => ?_)
      · refine lv_iload hx hb d_D_take_54 (lv_at hl 0 rfl) ?_
        refine lv_iconst (v := (nI 1)) hx hb d_D_take_56 (by decide) ?_
        refine nu_ne (tgt := 73) hx hb (by omega) (by omega) d_D_take_57 (by decide) (fun c4 => ?_) (fun c4 => ?_)
        · refine lv_iload hx hb d_D_take_73 (lv_at hl 0 rfl) ?_
          refine lv_bipush (v := (nI 6)) hx hb d_D_take_75 (by decide) ?_
          refine nu_ne (tgt := 119) hx hb (by omega) (by omega) d_D_take_77 (by decide) (fun c5 => ?_) (fun c5 => ?_)
          · refine lv_aload_n hx hb d_D_take_119 rfl (lv_at hl 1 rfl) ?_
            refine va_get (D := (dC, dI)) (ci := 5) (v := .ref (md 34)) (C := R_D) (T := F_D) (N := 36) hx hb hg in_D hown hK (hP.one r36) 0 rfl rfl 34 (by decide) (hg _ k_625) (fun _ h9 => h9) rfl d_D_take_120 ?_
            refine lv_iload_n hx hb d_D_take_123 rfl (lv_at hl 2 rfl) ?_
            refine lv_lload_n hx hb d_D_take_124 rfl (lv_at hl 3 rfl) ?_
            refine fw_last (tys := tyl dA) hx hb hK hP hS r34 1 rfl (j := f) (by omega) (by decide) d_D_take_125 (fun w9 H locs ew10 hP hS => ?_)
            have r34 : w9 (md 34) = some (.inl (dA 1, 13, .inr (.inl (vp_updL (m_sum μ) f v)))) := by rw [ew10]; exact va_up_self _ _ _
            have ho11 : OutD md w w9 := OutD.up OutD.rf ew10 (by decide)
            refine lv_aload_n hx hb d_D_take_126 rfl (lv_at hl 1 rfl) ?_
            have r36 : w9 (md 36) = some (.inr (5, [.ref (md 0), .ref (md 1), .ref (md 2), .ref (md 3), .ref (md 4), .ref (md 5), .ref (md 6), .ref (md 7), .ref (md 8), .ref (md 9), .ref (md 10), .ref (md 11), .ref (md 12), .ref (md 13), .ref (md 14), .ref (md 15), .int (nI (m_cached μ)), .int (nI (m_ocached μ)), .int (m_circ μ), .int (m_ocirc μ), .int (nI (m_thr μ)), .int (nI (m_wkr μ)), .int (nI (m_ran μ).toNat), .ref (md 23), .ref (md 24), .ref (md 25), .ref (md 26), .ref (md 27), .ref (md 28), .ref (md 29), .ref (md 30), .ref (md 31), .ref (md 32), .ref (md 33), .ref (md 34), .int (nI (m_hgt μ))])) := by rw [ew10, va_up_ne _ _ (hj.ne (i := 36) (j := 34) (by decide) (by decide) (by decide))]; exact r36
            refine va_get (D := (dC, dI)) (ci := 5) (v := .ref (md 32)) (C := R_D) (T := F_D) (N := 36) hx hb hg in_D hown hK (hP.one r36) 0 rfl rfl 32 (by decide) (hg _ k_623) (fun _ h9 => h9) rfl d_D_take_127 ?_
            refine lv_iload_n hx hb d_D_take_130 rfl (lv_at hl 2 rfl) ?_
            refine lv_dup2_11 hx hb d_D_take_131 rfl rfl ?_
            have r32 : w9 (md 32) = some (.inl (dA 0, 13, .inl (nf (m_asked μ)))) := by rw [ew10, va_up_ne _ _ (hj.ne (i := 32) (j := 34) (by decide) (by decide) (by decide))]; exact r32
            refine fw_iald (tys := tyl dA) hx hb hK hP r32 0 rfl (j := f) (by omega) (by decide) d_D_take_132 ?_
            refine lv_iconst (v := (nI 1)) hx hb d_D_take_133 (by decide) ?_
            refine nu_iadd (r := (m_asked μ) f + 1) hx hb d_D_take_134 (by omega) ?_
            refine fw_iast (tys := tyl dA) hx hb hK hP hS r32 0 rfl (j := f) (x := (nI ((m_asked μ) f + 1))) (by omega) (by decide) d_D_take_135 (fun w12 H locs ew13 hP hS => ?_)
            rw [nf_up] at ew13
            have r32 : w12 (md 32) = some (.inl (dA 0, 13, .inl (nf (va_up (m_asked μ) f ((m_asked μ) f + 1))))) := by rw [ew13]; exact va_up_self _ _ _
            have ho14 : OutD md w w12 := OutD.up ho11 ew13 (by decide)
            have hk15 : ∀ i, U37 i → i ∉ [32] → w12 (md i) = w9 (md i) := fun i hi hn => by rw [ew13, va_up_ne _ _ (hj.ne hi (j := 32) (by decide) (fun e9 => hn (by rw [e9]; decide)))]
            have hk16 : ∀ i, U37 i → i ∉ [32, 34] → w12 (md i) = w (md i) := fun i hi hn => by rw [ew13, va_up_ne _ _ (hj.ne hi (j := 32) (by decide) (fun e9 => hn (by rw [e9]; decide))), ew10, va_up_ne _ _ (hj.ne hi (j := 34) (by decide) (fun e9 => hn (by rw [e9]; decide)))]
            exact W.vret hx hb hr (fun tS ht hW => ⟨⟨w12, rfl, (by rw [show dTake f v μ = (((m_sort μ), (m_rule μ), m_parts μ, m_inp μ), ((m_size μ), (m_keys μ), (m_own μ), m_got μ, m_came μ), (m_trc μ, (m_cch μ), m_cached μ, m_cnt μ, (m_circ μ)), (m_otrc μ, (m_occh μ), m_ocached μ, m_ocnt μ, (m_ocirc μ)), (m_thr μ, m_wkr μ, (m_ran μ), (m_st μ), m_val μ), ((m_key μ), (m_ph μ), m_chk μ, (m_at μ), (m_cand μ), (m_cc μ), (m_mk μ), (va_up (m_asked μ) f ((m_asked μ) f + 1)), m_first μ, vp_updL (m_sum μ) f v, m_hgt μ)) from (by unfold dTake; rw [show dFst (m_asked μ f) f v (m_first μ) = m_first μ from if_neg c1, show dAcc (m_rule μ (m_key μ f)) (m_asked μ f) (m_sum μ f) v = _ from (((if_neg (fun h9 => h9.elim c2 c3)).trans (if_neg c4)).trans (if_neg c5))] <;> rfl)]; exact ⟨⟨(hk15 36 (by decide) (by decide)).trans r36, (hk16 0 (by decide) (by decide)).trans r0, (hk16 1 (by decide) (by decide)).trans r1, (hk16 2 (by decide) (by decide)).trans r2, (hk16 3 (by decide) (by decide)).trans r3, (hk16 4 (by decide) (by decide)).trans r4, (hk16 5 (by decide) (by decide)).trans r5, (hk16 6 (by decide) (by decide)).trans r6, (hk16 7 (by decide) (by decide)).trans r7, (hk16 8 (by decide) (by decide)).trans r8, ⟨_, (hk16 9 (by decide) (by decide)).trans r9⟩, (hk16 10 (by decide) (by decide)).trans r10, (hk16 11 (by decide) (by decide)).trans r11, (hk16 12 (by decide) (by decide)).trans r12, (hk16 13 (by decide) (by decide)).trans r13, (hk16 14 (by decide) (by decide)).trans r14, (hk16 15 (by decide) (by decide)).trans r15, (hk16 23 (by decide) (by decide)).trans r23, (hk16 24 (by decide) (by decide)).trans r24, (hk16 25 (by decide) (by decide)).trans r25, (hk16 26 (by decide) (by decide)).trans r26, (hk16 27 (by decide) (by decide)).trans r27, (hk16 28 (by decide) (by decide)).trans r28, (hk16 29 (by decide) (by decide)).trans r29, (hk16 30 (by decide) (by decide)).trans r30, (hk16 31 (by decide) (by decide)).trans r31, r32, (hk16 33 (by decide) (by decide)).trans r33, (hk15 34 (by decide) (by decide)).trans r34⟩, ho14⟩), mB_of ht hP⟩, hS.F ht⟩) hS.2.2 d_D_take_136
          · refine lv_aload_n hx hb d_D_take_80 rfl (lv_at hl 1 rfl) ?_
            refine va_get (D := (dC, dI)) (ci := 5) (v := .ref (md 34)) (C := R_D) (T := F_D) (N := 36) hx hb hg in_D hown hK (hP.one r36) 0 rfl rfl 34 (by decide) (hg _ k_625) (fun _ h9 => h9) rfl d_D_take_81 ?_
            refine lv_iload_n hx hb d_D_take_84 rfl (lv_at hl 2 rfl) ?_
            refine lv_aload_n hx hb d_D_take_85 rfl (lv_at hl 1 rfl) ?_
            refine va_get (D := (dC, dI)) (ci := 5) (v := .ref (md 32)) (C := R_D) (T := F_D) (N := 36) hx hb hg in_D hown hK (hP.one r36) 0 rfl rfl 32 (by decide) (hg _ k_623) (fun _ h9 => h9) rfl d_D_take_86 ?_
            refine lv_iload_n hx hb d_D_take_89 rfl (lv_at hl 2 rfl) ?_
            refine fw_iald (tys := tyl dA) hx hb hK hP r32 0 rfl (j := f) (by omega) (by decide) d_D_take_90 ?_
            refine nu_zeq (tgt := 105) hx hb (by omega) d_D_take_91 (by decide) (fun c6 => ?_) (fun c6 => ?_)
            · refine lv_lload_n hx hb d_D_take_105 rfl (lv_at hl 3 rfl) ?_
              refine lv_goto (tgt := 115) hx hb d_D_take_106 (by decide) ?_
              refine fw_last (tys := tyl dA) hx hb hK hP hS r34 1 rfl (j := f) (by omega) (by decide) d_D_take_115 (fun w17 H locs ew18 hP hS => ?_)
              have r34 : w17 (md 34) = some (.inl (dA 1, 13, .inr (.inl (vp_updL (m_sum μ) f v)))) := by rw [ew18]; exact va_up_self _ _ _
              have ho19 : OutD md w w17 := OutD.up OutD.rf ew18 (by decide)
              refine lv_goto (tgt := 126) hx hb d_D_take_116 (by decide) ?_
              refine lv_aload_n hx hb d_D_take_126 rfl (lv_at hl 1 rfl) ?_
              have r36 : w17 (md 36) = some (.inr (5, [.ref (md 0), .ref (md 1), .ref (md 2), .ref (md 3), .ref (md 4), .ref (md 5), .ref (md 6), .ref (md 7), .ref (md 8), .ref (md 9), .ref (md 10), .ref (md 11), .ref (md 12), .ref (md 13), .ref (md 14), .ref (md 15), .int (nI (m_cached μ)), .int (nI (m_ocached μ)), .int (m_circ μ), .int (m_ocirc μ), .int (nI (m_thr μ)), .int (nI (m_wkr μ)), .int (nI (m_ran μ).toNat), .ref (md 23), .ref (md 24), .ref (md 25), .ref (md 26), .ref (md 27), .ref (md 28), .ref (md 29), .ref (md 30), .ref (md 31), .ref (md 32), .ref (md 33), .ref (md 34), .int (nI (m_hgt μ))])) := by rw [ew18, va_up_ne _ _ (hj.ne (i := 36) (j := 34) (by decide) (by decide) (by decide))]; exact r36
              refine va_get (D := (dC, dI)) (ci := 5) (v := .ref (md 32)) (C := R_D) (T := F_D) (N := 36) hx hb hg in_D hown hK (hP.one r36) 0 rfl rfl 32 (by decide) (hg _ k_623) (fun _ h9 => h9) rfl d_D_take_127 ?_
              refine lv_iload_n hx hb d_D_take_130 rfl (lv_at hl 2 rfl) ?_
              refine lv_dup2_11 hx hb d_D_take_131 rfl rfl ?_
              have r32 : w17 (md 32) = some (.inl (dA 0, 13, .inl (nf (m_asked μ)))) := by rw [ew18, va_up_ne _ _ (hj.ne (i := 32) (j := 34) (by decide) (by decide) (by decide))]; exact r32
              refine fw_iald (tys := tyl dA) hx hb hK hP r32 0 rfl (j := f) (by omega) (by decide) d_D_take_132 ?_
              refine lv_iconst (v := (nI 1)) hx hb d_D_take_133 (by decide) ?_
              refine nu_iadd (r := (m_asked μ) f + 1) hx hb d_D_take_134 (by omega) ?_
              refine fw_iast (tys := tyl dA) hx hb hK hP hS r32 0 rfl (j := f) (x := (nI ((m_asked μ) f + 1))) (by omega) (by decide) d_D_take_135 (fun w20 H locs ew21 hP hS => ?_)
              rw [nf_up] at ew21
              have r32 : w20 (md 32) = some (.inl (dA 0, 13, .inl (nf (va_up (m_asked μ) f ((m_asked μ) f + 1))))) := by rw [ew21]; exact va_up_self _ _ _
              have ho22 : OutD md w w20 := OutD.up ho19 ew21 (by decide)
              have hk23 : ∀ i, U37 i → i ∉ [32] → w20 (md i) = w17 (md i) := fun i hi hn => by rw [ew21, va_up_ne _ _ (hj.ne hi (j := 32) (by decide) (fun e9 => hn (by rw [e9]; decide)))]
              have hk24 : ∀ i, U37 i → i ∉ [32, 34] → w20 (md i) = w (md i) := fun i hi hn => by rw [ew21, va_up_ne _ _ (hj.ne hi (j := 32) (by decide) (fun e9 => hn (by rw [e9]; decide))), ew18, va_up_ne _ _ (hj.ne hi (j := 34) (by decide) (fun e9 => hn (by rw [e9]; decide)))]
              exact W.vret hx hb hr (fun tS ht hW => ⟨⟨w20, rfl, (by rw [show dTake f v μ = (((m_sort μ), (m_rule μ), m_parts μ, m_inp μ), ((m_size μ), (m_keys μ), (m_own μ), m_got μ, m_came μ), (m_trc μ, (m_cch μ), m_cached μ, m_cnt μ, (m_circ μ)), (m_otrc μ, (m_occh μ), m_ocached μ, m_ocnt μ, (m_ocirc μ)), (m_thr μ, m_wkr μ, (m_ran μ), (m_st μ), m_val μ), ((m_key μ), (m_ph μ), m_chk μ, (m_at μ), (m_cand μ), (m_cc μ), (m_mk μ), (va_up (m_asked μ) f ((m_asked μ) f + 1)), m_first μ, vp_updL (m_sum μ) f v, m_hgt μ)) from (by unfold dTake; rw [show dFst (m_asked μ f) f v (m_first μ) = m_first μ from if_neg c1, show dAcc (m_rule μ (m_key μ f)) (m_asked μ f) (m_sum μ f) v = _ from ((((if_neg (fun h9 => h9.elim c2 c3)).trans (if_neg c4)).trans (if_pos c5)).trans (if_pos (Or.inl c6)))] <;> rfl)]; exact ⟨⟨(hk23 36 (by decide) (by decide)).trans r36, (hk24 0 (by decide) (by decide)).trans r0, (hk24 1 (by decide) (by decide)).trans r1, (hk24 2 (by decide) (by decide)).trans r2, (hk24 3 (by decide) (by decide)).trans r3, (hk24 4 (by decide) (by decide)).trans r4, (hk24 5 (by decide) (by decide)).trans r5, (hk24 6 (by decide) (by decide)).trans r6, (hk24 7 (by decide) (by decide)).trans r7, (hk24 8 (by decide) (by decide)).trans r8, ⟨_, (hk24 9 (by decide) (by decide)).trans r9⟩, (hk24 10 (by decide) (by decide)).trans r10, (hk24 11 (by decide) (by decide)).trans r11, (hk24 12 (by decide) (by decide)).trans r12, (hk24 13 (by decide) (by decide)).trans r13, (hk24 14 (by decide) (by decide)).trans r14, (hk24 15 (by decide) (by decide)).trans r15, (hk24 23 (by decide) (by decide)).trans r23, (hk24 24 (by decide) (by decide)).trans r24, (hk24 25 (by decide) (by decide)).trans r25, (hk24 26 (by decide) (by decide)).trans r26, (hk24 27 (by decide) (by decide)).trans r27, (hk24 28 (by decide) (by decide)).trans r28, (hk24 29 (by decide) (by decide)).trans r29, (hk24 30 (by decide) (by decide)).trans r30, (hk24 31 (by decide) (by decide)).trans r31, r32, (hk24 33 (by decide) (by decide)).trans r33, (hk23 34 (by decide) (by decide)).trans r34⟩, ho22⟩), mB_of ht hP⟩, hS.F ht⟩) hS.2.2 d_D_take_136
            · refine lv_lload_n hx hb d_D_take_94 rfl (lv_at hl 3 rfl) ?_
              refine lv_aload_n hx hb d_D_take_95 rfl (lv_at hl 1 rfl) ?_
              refine va_get (D := (dC, dI)) (ci := 5) (v := .ref (md 34)) (C := R_D) (T := F_D) (N := 36) hx hb hg in_D hown hK (hP.one r36) 0 rfl rfl 34 (by decide) (hg _ k_625) (fun _ h9 => h9) rfl d_D_take_96 ?_
              refine lv_iload_n hx hb d_D_take_99 rfl (lv_at hl 2 rfl) ?_
              refine fw_lald (tys := tyl dA) hx hb hK hP r34 1 rfl (j := f) (by omega) (by decide) d_D_take_100 ?_
              refine W.lcmp hx hb d_D_take_101 ?_
              refine lv_if_le (tgt := 109) hx hb d_D_take_102 (by decide) (fun c7 => ?_) (fun c7 => ?_)
              · refine lv_aload_n hx hb d_D_take_109 rfl (lv_at hl 1 rfl) ?_
                refine va_get (D := (dC, dI)) (ci := 5) (v := .ref (md 34)) (C := R_D) (T := F_D) (N := 36) hx hb hg in_D hown hK (hP.one r36) 0 rfl rfl 34 (by decide) (hg _ k_625) (fun _ h9 => h9) rfl d_D_take_110 ?_
                refine lv_iload_n hx hb d_D_take_113 rfl (lv_at hl 2 rfl) ?_
                refine fw_lald (tys := tyl dA) hx hb hK hP r34 1 rfl (j := f) (by omega) (by decide) d_D_take_114 ?_
                refine fw_last (tys := tyl dA) hx hb hK hP hS r34 1 rfl (j := f) (by omega) (by decide) d_D_take_115 (fun w25 H locs ew26 hP hS => ?_)
                have r34 : w25 (md 34) = some (.inl (dA 1, 13, .inr (.inl (vp_updL (m_sum μ) f ((m_sum μ) f))))) := by rw [ew26]; exact va_up_self _ _ _
                have ho27 : OutD md w w25 := OutD.up OutD.rf ew26 (by decide)
                refine lv_goto (tgt := 126) hx hb d_D_take_116 (by decide) ?_
                refine lv_aload_n hx hb d_D_take_126 rfl (lv_at hl 1 rfl) ?_
                have r36 : w25 (md 36) = some (.inr (5, [.ref (md 0), .ref (md 1), .ref (md 2), .ref (md 3), .ref (md 4), .ref (md 5), .ref (md 6), .ref (md 7), .ref (md 8), .ref (md 9), .ref (md 10), .ref (md 11), .ref (md 12), .ref (md 13), .ref (md 14), .ref (md 15), .int (nI (m_cached μ)), .int (nI (m_ocached μ)), .int (m_circ μ), .int (m_ocirc μ), .int (nI (m_thr μ)), .int (nI (m_wkr μ)), .int (nI (m_ran μ).toNat), .ref (md 23), .ref (md 24), .ref (md 25), .ref (md 26), .ref (md 27), .ref (md 28), .ref (md 29), .ref (md 30), .ref (md 31), .ref (md 32), .ref (md 33), .ref (md 34), .int (nI (m_hgt μ))])) := by rw [ew26, va_up_ne _ _ (hj.ne (i := 36) (j := 34) (by decide) (by decide) (by decide))]; exact r36
                refine va_get (D := (dC, dI)) (ci := 5) (v := .ref (md 32)) (C := R_D) (T := F_D) (N := 36) hx hb hg in_D hown hK (hP.one r36) 0 rfl rfl 32 (by decide) (hg _ k_623) (fun _ h9 => h9) rfl d_D_take_127 ?_
                refine lv_iload_n hx hb d_D_take_130 rfl (lv_at hl 2 rfl) ?_
                refine lv_dup2_11 hx hb d_D_take_131 rfl rfl ?_
                have r32 : w25 (md 32) = some (.inl (dA 0, 13, .inl (nf (m_asked μ)))) := by rw [ew26, va_up_ne _ _ (hj.ne (i := 32) (j := 34) (by decide) (by decide) (by decide))]; exact r32
                refine fw_iald (tys := tyl dA) hx hb hK hP r32 0 rfl (j := f) (by omega) (by decide) d_D_take_132 ?_
                refine lv_iconst (v := (nI 1)) hx hb d_D_take_133 (by decide) ?_
                refine nu_iadd (r := (m_asked μ) f + 1) hx hb d_D_take_134 (by omega) ?_
                refine fw_iast (tys := tyl dA) hx hb hK hP hS r32 0 rfl (j := f) (x := (nI ((m_asked μ) f + 1))) (by omega) (by decide) d_D_take_135 (fun w28 H locs ew29 hP hS => ?_)
                rw [nf_up] at ew29
                have r32 : w28 (md 32) = some (.inl (dA 0, 13, .inl (nf (va_up (m_asked μ) f ((m_asked μ) f + 1))))) := by rw [ew29]; exact va_up_self _ _ _
                have ho30 : OutD md w w28 := OutD.up ho27 ew29 (by decide)
                have hk31 : ∀ i, U37 i → i ∉ [32] → w28 (md i) = w25 (md i) := fun i hi hn => by rw [ew29, va_up_ne _ _ (hj.ne hi (j := 32) (by decide) (fun e9 => hn (by rw [e9]; decide)))]
                have hk32 : ∀ i, U37 i → i ∉ [32, 34] → w28 (md i) = w (md i) := fun i hi hn => by rw [ew29, va_up_ne _ _ (hj.ne hi (j := 32) (by decide) (fun e9 => hn (by rw [e9]; decide))), ew26, va_up_ne _ _ (hj.ne hi (j := 34) (by decide) (fun e9 => hn (by rw [e9]; decide)))]
                exact W.vret hx hb hr (fun tS ht hW => ⟨⟨w28, rfl, (by rw [show dTake f v μ = (((m_sort μ), (m_rule μ), m_parts μ, m_inp μ), ((m_size μ), (m_keys μ), (m_own μ), m_got μ, m_came μ), (m_trc μ, (m_cch μ), m_cached μ, m_cnt μ, (m_circ μ)), (m_otrc μ, (m_occh μ), m_ocached μ, m_ocnt μ, (m_ocirc μ)), (m_thr μ, m_wkr μ, (m_ran μ), (m_st μ), m_val μ), ((m_key μ), (m_ph μ), m_chk μ, (m_at μ), (m_cand μ), (m_cc μ), (m_mk μ), (va_up (m_asked μ) f ((m_asked μ) f + 1)), m_first μ, vp_updL (m_sum μ) f ((m_sum μ) f), m_hgt μ)) from (by unfold dTake; rw [show dFst (m_asked μ f) f v (m_first μ) = m_first μ from if_neg c1, show dAcc (m_rule μ (m_key μ f)) (m_asked μ f) (m_sum μ f) v = _ from ((((if_neg (fun h9 => h9.elim c2 c3)).trans (if_neg c4)).trans (if_pos c5)).trans (if_neg (fun h9 => h9.elim c6 (fun h8 => absurd ((lg_cmp_le _ _).mp c7) (Int64.not_le.mpr h8)))))] <;> rfl)]; exact ⟨⟨(hk31 36 (by decide) (by decide)).trans r36, (hk32 0 (by decide) (by decide)).trans r0, (hk32 1 (by decide) (by decide)).trans r1, (hk32 2 (by decide) (by decide)).trans r2, (hk32 3 (by decide) (by decide)).trans r3, (hk32 4 (by decide) (by decide)).trans r4, (hk32 5 (by decide) (by decide)).trans r5, (hk32 6 (by decide) (by decide)).trans r6, (hk32 7 (by decide) (by decide)).trans r7, (hk32 8 (by decide) (by decide)).trans r8, ⟨_, (hk32 9 (by decide) (by decide)).trans r9⟩, (hk32 10 (by decide) (by decide)).trans r10, (hk32 11 (by decide) (by decide)).trans r11, (hk32 12 (by decide) (by decide)).trans r12, (hk32 13 (by decide) (by decide)).trans r13, (hk32 14 (by decide) (by decide)).trans r14, (hk32 15 (by decide) (by decide)).trans r15, (hk32 23 (by decide) (by decide)).trans r23, (hk32 24 (by decide) (by decide)).trans r24, (hk32 25 (by decide) (by decide)).trans r25, (hk32 26 (by decide) (by decide)).trans r26, (hk32 27 (by decide) (by decide)).trans r27, (hk32 28 (by decide) (by decide)).trans r28, (hk32 29 (by decide) (by decide)).trans r29, (hk32 30 (by decide) (by decide)).trans r30, (hk32 31 (by decide) (by decide)).trans r31, r32, (hk32 33 (by decide) (by decide)).trans r33, (hk31 34 (by decide) (by decide)).trans r34⟩, ho30⟩), mB_of ht hP⟩, hS.F ht⟩) hS.2.2 d_D_take_136
              · refine lv_lload_n hx hb d_D_take_105 rfl (lv_at hl 3 rfl) ?_
                refine lv_goto (tgt := 115) hx hb d_D_take_106 (by decide) ?_
                refine fw_last (tys := tyl dA) hx hb hK hP hS r34 1 rfl (j := f) (by omega) (by decide) d_D_take_115 (fun w33 H locs ew34 hP hS => ?_)
                have r34 : w33 (md 34) = some (.inl (dA 1, 13, .inr (.inl (vp_updL (m_sum μ) f v)))) := by rw [ew34]; exact va_up_self _ _ _
                have ho35 : OutD md w w33 := OutD.up OutD.rf ew34 (by decide)
                refine lv_goto (tgt := 126) hx hb d_D_take_116 (by decide) ?_
                refine lv_aload_n hx hb d_D_take_126 rfl (lv_at hl 1 rfl) ?_
                have r36 : w33 (md 36) = some (.inr (5, [.ref (md 0), .ref (md 1), .ref (md 2), .ref (md 3), .ref (md 4), .ref (md 5), .ref (md 6), .ref (md 7), .ref (md 8), .ref (md 9), .ref (md 10), .ref (md 11), .ref (md 12), .ref (md 13), .ref (md 14), .ref (md 15), .int (nI (m_cached μ)), .int (nI (m_ocached μ)), .int (m_circ μ), .int (m_ocirc μ), .int (nI (m_thr μ)), .int (nI (m_wkr μ)), .int (nI (m_ran μ).toNat), .ref (md 23), .ref (md 24), .ref (md 25), .ref (md 26), .ref (md 27), .ref (md 28), .ref (md 29), .ref (md 30), .ref (md 31), .ref (md 32), .ref (md 33), .ref (md 34), .int (nI (m_hgt μ))])) := by rw [ew34, va_up_ne _ _ (hj.ne (i := 36) (j := 34) (by decide) (by decide) (by decide))]; exact r36
                refine va_get (D := (dC, dI)) (ci := 5) (v := .ref (md 32)) (C := R_D) (T := F_D) (N := 36) hx hb hg in_D hown hK (hP.one r36) 0 rfl rfl 32 (by decide) (hg _ k_623) (fun _ h9 => h9) rfl d_D_take_127 ?_
                refine lv_iload_n hx hb d_D_take_130 rfl (lv_at hl 2 rfl) ?_
                refine lv_dup2_11 hx hb d_D_take_131 rfl rfl ?_
                have r32 : w33 (md 32) = some (.inl (dA 0, 13, .inl (nf (m_asked μ)))) := by rw [ew34, va_up_ne _ _ (hj.ne (i := 32) (j := 34) (by decide) (by decide) (by decide))]; exact r32
                refine fw_iald (tys := tyl dA) hx hb hK hP r32 0 rfl (j := f) (by omega) (by decide) d_D_take_132 ?_
                refine lv_iconst (v := (nI 1)) hx hb d_D_take_133 (by decide) ?_
                refine nu_iadd (r := (m_asked μ) f + 1) hx hb d_D_take_134 (by omega) ?_
                refine fw_iast (tys := tyl dA) hx hb hK hP hS r32 0 rfl (j := f) (x := (nI ((m_asked μ) f + 1))) (by omega) (by decide) d_D_take_135 (fun w36 H locs ew37 hP hS => ?_)
                rw [nf_up] at ew37
                have r32 : w36 (md 32) = some (.inl (dA 0, 13, .inl (nf (va_up (m_asked μ) f ((m_asked μ) f + 1))))) := by rw [ew37]; exact va_up_self _ _ _
                have ho38 : OutD md w w36 := OutD.up ho35 ew37 (by decide)
                have hk39 : ∀ i, U37 i → i ∉ [32] → w36 (md i) = w33 (md i) := fun i hi hn => by rw [ew37, va_up_ne _ _ (hj.ne hi (j := 32) (by decide) (fun e9 => hn (by rw [e9]; decide)))]
                have hk40 : ∀ i, U37 i → i ∉ [32, 34] → w36 (md i) = w (md i) := fun i hi hn => by rw [ew37, va_up_ne _ _ (hj.ne hi (j := 32) (by decide) (fun e9 => hn (by rw [e9]; decide))), ew34, va_up_ne _ _ (hj.ne hi (j := 34) (by decide) (fun e9 => hn (by rw [e9]; decide)))]
                exact W.vret hx hb hr (fun tS ht hW => ⟨⟨w36, rfl, (by rw [show dTake f v μ = (((m_sort μ), (m_rule μ), m_parts μ, m_inp μ), ((m_size μ), (m_keys μ), (m_own μ), m_got μ, m_came μ), (m_trc μ, (m_cch μ), m_cached μ, m_cnt μ, (m_circ μ)), (m_otrc μ, (m_occh μ), m_ocached μ, m_ocnt μ, (m_ocirc μ)), (m_thr μ, m_wkr μ, (m_ran μ), (m_st μ), m_val μ), ((m_key μ), (m_ph μ), m_chk μ, (m_at μ), (m_cand μ), (m_cc μ), (m_mk μ), (va_up (m_asked μ) f ((m_asked μ) f + 1)), m_first μ, vp_updL (m_sum μ) f v, m_hgt μ)) from (by unfold dTake; rw [show dFst (m_asked μ f) f v (m_first μ) = m_first μ from if_neg c1, show dAcc (m_rule μ (m_key μ f)) (m_asked μ f) (m_sum μ f) v = _ from ((((if_neg (fun h9 => h9.elim c2 c3)).trans (if_neg c4)).trans (if_pos c5)).trans (if_pos (Or.inr (Int64.not_le.mp (fun h8 => c7 ((lg_cmp_le _ _).mpr h8))))))] <;> rfl)]; exact ⟨⟨(hk39 36 (by decide) (by decide)).trans r36, (hk40 0 (by decide) (by decide)).trans r0, (hk40 1 (by decide) (by decide)).trans r1, (hk40 2 (by decide) (by decide)).trans r2, (hk40 3 (by decide) (by decide)).trans r3, (hk40 4 (by decide) (by decide)).trans r4, (hk40 5 (by decide) (by decide)).trans r5, (hk40 6 (by decide) (by decide)).trans r6, (hk40 7 (by decide) (by decide)).trans r7, (hk40 8 (by decide) (by decide)).trans r8, ⟨_, (hk40 9 (by decide) (by decide)).trans r9⟩, (hk40 10 (by decide) (by decide)).trans r10, (hk40 11 (by decide) (by decide)).trans r11, (hk40 12 (by decide) (by decide)).trans r12, (hk40 13 (by decide) (by decide)).trans r13, (hk40 14 (by decide) (by decide)).trans r14, (hk40 15 (by decide) (by decide)).trans r15, (hk40 23 (by decide) (by decide)).trans r23, (hk40 24 (by decide) (by decide)).trans r24, (hk40 25 (by decide) (by decide)).trans r25, (hk40 26 (by decide) (by decide)).trans r26, (hk40 27 (by decide) (by decide)).trans r27, (hk40 28 (by decide) (by decide)).trans r28, (hk40 29 (by decide) (by decide)).trans r29, (hk40 30 (by decide) (by decide)).trans r30, (hk40 31 (by decide) (by decide)).trans r31, r32, (hk40 33 (by decide) (by decide)).trans r33, (hk39 34 (by decide) (by decide)).trans r34⟩, ho38⟩), mB_of ht hP⟩, hS.F ht⟩) hS.2.2 d_D_take_136
        · refine lv_aload_n hx hb d_D_take_60 rfl (lv_at hl 1 rfl) ?_
          refine va_get (D := (dC, dI)) (ci := 5) (v := .ref (md 34)) (C := R_D) (T := F_D) (N := 36) hx hb hg in_D hown hK (hP.one r36) 0 rfl rfl 34 (by decide) (hg _ k_625) (fun _ h9 => h9) rfl d_D_take_61 ?_
          refine lv_iload_n hx hb d_D_take_64 rfl (lv_at hl 2 rfl) ?_
          refine lv_dup2_11 hx hb d_D_take_65 rfl rfl ?_
          refine fw_lald (tys := tyl dA) hx hb hK hP r34 1 rfl (j := f) (by omega) (by decide) d_D_take_66 ?_
          refine lv_lload_n hx hb d_D_take_67 rfl (lv_at hl 3 rfl) ?_
          refine lv_lmul hx hb d_D_take_68 ?_
          refine fw_last (tys := tyl dA) hx hb hK hP hS r34 1 rfl (j := f) (by omega) (by decide) d_D_take_69 (fun w41 H locs ew42 hP hS => ?_)
          have r34 : w41 (md 34) = some (.inl (dA 1, 13, .inr (.inl (vp_updL (m_sum μ) f (((m_sum μ) f) * v))))) := by rw [ew42]; exact va_up_self _ _ _
          have ho43 : OutD md w w41 := OutD.up OutD.rf ew42 (by decide)
          refine lv_goto (tgt := 126) hx hb d_D_take_70 (by decide) ?_
          refine lv_aload_n hx hb d_D_take_126 rfl (lv_at hl 1 rfl) ?_
          have r36 : w41 (md 36) = some (.inr (5, [.ref (md 0), .ref (md 1), .ref (md 2), .ref (md 3), .ref (md 4), .ref (md 5), .ref (md 6), .ref (md 7), .ref (md 8), .ref (md 9), .ref (md 10), .ref (md 11), .ref (md 12), .ref (md 13), .ref (md 14), .ref (md 15), .int (nI (m_cached μ)), .int (nI (m_ocached μ)), .int (m_circ μ), .int (m_ocirc μ), .int (nI (m_thr μ)), .int (nI (m_wkr μ)), .int (nI (m_ran μ).toNat), .ref (md 23), .ref (md 24), .ref (md 25), .ref (md 26), .ref (md 27), .ref (md 28), .ref (md 29), .ref (md 30), .ref (md 31), .ref (md 32), .ref (md 33), .ref (md 34), .int (nI (m_hgt μ))])) := by rw [ew42, va_up_ne _ _ (hj.ne (i := 36) (j := 34) (by decide) (by decide) (by decide))]; exact r36
          refine va_get (D := (dC, dI)) (ci := 5) (v := .ref (md 32)) (C := R_D) (T := F_D) (N := 36) hx hb hg in_D hown hK (hP.one r36) 0 rfl rfl 32 (by decide) (hg _ k_623) (fun _ h9 => h9) rfl d_D_take_127 ?_
          refine lv_iload_n hx hb d_D_take_130 rfl (lv_at hl 2 rfl) ?_
          refine lv_dup2_11 hx hb d_D_take_131 rfl rfl ?_
          have r32 : w41 (md 32) = some (.inl (dA 0, 13, .inl (nf (m_asked μ)))) := by rw [ew42, va_up_ne _ _ (hj.ne (i := 32) (j := 34) (by decide) (by decide) (by decide))]; exact r32
          refine fw_iald (tys := tyl dA) hx hb hK hP r32 0 rfl (j := f) (by omega) (by decide) d_D_take_132 ?_
          refine lv_iconst (v := (nI 1)) hx hb d_D_take_133 (by decide) ?_
          refine nu_iadd (r := (m_asked μ) f + 1) hx hb d_D_take_134 (by omega) ?_
          refine fw_iast (tys := tyl dA) hx hb hK hP hS r32 0 rfl (j := f) (x := (nI ((m_asked μ) f + 1))) (by omega) (by decide) d_D_take_135 (fun w44 H locs ew45 hP hS => ?_)
          rw [nf_up] at ew45
          have r32 : w44 (md 32) = some (.inl (dA 0, 13, .inl (nf (va_up (m_asked μ) f ((m_asked μ) f + 1))))) := by rw [ew45]; exact va_up_self _ _ _
          have ho46 : OutD md w w44 := OutD.up ho43 ew45 (by decide)
          have hk47 : ∀ i, U37 i → i ∉ [32] → w44 (md i) = w41 (md i) := fun i hi hn => by rw [ew45, va_up_ne _ _ (hj.ne hi (j := 32) (by decide) (fun e9 => hn (by rw [e9]; decide)))]
          have hk48 : ∀ i, U37 i → i ∉ [32, 34] → w44 (md i) = w (md i) := fun i hi hn => by rw [ew45, va_up_ne _ _ (hj.ne hi (j := 32) (by decide) (fun e9 => hn (by rw [e9]; decide))), ew42, va_up_ne _ _ (hj.ne hi (j := 34) (by decide) (fun e9 => hn (by rw [e9]; decide)))]
          exact W.vret hx hb hr (fun tS ht hW => ⟨⟨w44, rfl, (by rw [show dTake f v μ = (((m_sort μ), (m_rule μ), m_parts μ, m_inp μ), ((m_size μ), (m_keys μ), (m_own μ), m_got μ, m_came μ), (m_trc μ, (m_cch μ), m_cached μ, m_cnt μ, (m_circ μ)), (m_otrc μ, (m_occh μ), m_ocached μ, m_ocnt μ, (m_ocirc μ)), (m_thr μ, m_wkr μ, (m_ran μ), (m_st μ), m_val μ), ((m_key μ), (m_ph μ), m_chk μ, (m_at μ), (m_cand μ), (m_cc μ), (m_mk μ), (va_up (m_asked μ) f ((m_asked μ) f + 1)), m_first μ, vp_updL (m_sum μ) f (((m_sum μ) f) * v), m_hgt μ)) from (by unfold dTake; rw [show dFst (m_asked μ f) f v (m_first μ) = m_first μ from if_neg c1, show dAcc (m_rule μ (m_key μ f)) (m_asked μ f) (m_sum μ f) v = _ from ((if_neg (fun h9 => h9.elim c2 c3)).trans (if_pos c4))] <;> rfl)]; exact ⟨⟨(hk47 36 (by decide) (by decide)).trans r36, (hk48 0 (by decide) (by decide)).trans r0, (hk48 1 (by decide) (by decide)).trans r1, (hk48 2 (by decide) (by decide)).trans r2, (hk48 3 (by decide) (by decide)).trans r3, (hk48 4 (by decide) (by decide)).trans r4, (hk48 5 (by decide) (by decide)).trans r5, (hk48 6 (by decide) (by decide)).trans r6, (hk48 7 (by decide) (by decide)).trans r7, (hk48 8 (by decide) (by decide)).trans r8, ⟨_, (hk48 9 (by decide) (by decide)).trans r9⟩, (hk48 10 (by decide) (by decide)).trans r10, (hk48 11 (by decide) (by decide)).trans r11, (hk48 12 (by decide) (by decide)).trans r12, (hk48 13 (by decide) (by decide)).trans r13, (hk48 14 (by decide) (by decide)).trans r14, (hk48 15 (by decide) (by decide)).trans r15, (hk48 23 (by decide) (by decide)).trans r23, (hk48 24 (by decide) (by decide)).trans r24, (hk48 25 (by decide) (by decide)).trans r25, (hk48 26 (by decide) (by decide)).trans r26, (hk48 27 (by decide) (by decide)).trans r27, (hk48 28 (by decide) (by decide)).trans r28, (hk48 29 (by decide) (by decide)).trans r29, (hk48 30 (by decide) (by decide)).trans r30, (hk48 31 (by decide) (by decide)).trans r31, r32, (hk48 33 (by decide) (by decide)).trans r33, (hk47 34 (by decide) (by decide)).trans r34⟩, ho46⟩), mB_of ht hP⟩, hS.F ht⟩) hS.2.2 d_D_take_136
      · refine lv_aload_n hx hb d_D_take_41 rfl (lv_at hl 1 rfl) ?_
        refine va_get (D := (dC, dI)) (ci := 5) (v := .ref (md 34)) (C := R_D) (T := F_D) (N := 36) hx hb hg in_D hown hK (hP.one r36) 0 rfl rfl 34 (by decide) (hg _ k_625) (fun _ h9 => h9) rfl d_D_take_42 ?_
        refine lv_iload_n hx hb d_D_take_45 rfl (lv_at hl 2 rfl) ?_
        refine lv_dup2_11 hx hb d_D_take_46 rfl rfl ?_
        refine fw_lald (tys := tyl dA) hx hb hK hP r34 1 rfl (j := f) (by omega) (by decide) d_D_take_47 ?_
        refine lv_lload_n hx hb d_D_take_48 rfl (lv_at hl 3 rfl) ?_
        refine lv_ladd hx hb d_D_take_49 ?_
        refine fw_last (tys := tyl dA) hx hb hK hP hS r34 1 rfl (j := f) (by omega) (by decide) d_D_take_50 (fun w49 H locs ew50 hP hS => ?_)
        have r34 : w49 (md 34) = some (.inl (dA 1, 13, .inr (.inl (vp_updL (m_sum μ) f (((m_sum μ) f) + v))))) := by rw [ew50]; exact va_up_self _ _ _
        have ho51 : OutD md w w49 := OutD.up OutD.rf ew50 (by decide)
        refine lv_goto (tgt := 126) hx hb d_D_take_51 (by decide) ?_
        refine lv_aload_n hx hb d_D_take_126 rfl (lv_at hl 1 rfl) ?_
        have r36 : w49 (md 36) = some (.inr (5, [.ref (md 0), .ref (md 1), .ref (md 2), .ref (md 3), .ref (md 4), .ref (md 5), .ref (md 6), .ref (md 7), .ref (md 8), .ref (md 9), .ref (md 10), .ref (md 11), .ref (md 12), .ref (md 13), .ref (md 14), .ref (md 15), .int (nI (m_cached μ)), .int (nI (m_ocached μ)), .int (m_circ μ), .int (m_ocirc μ), .int (nI (m_thr μ)), .int (nI (m_wkr μ)), .int (nI (m_ran μ).toNat), .ref (md 23), .ref (md 24), .ref (md 25), .ref (md 26), .ref (md 27), .ref (md 28), .ref (md 29), .ref (md 30), .ref (md 31), .ref (md 32), .ref (md 33), .ref (md 34), .int (nI (m_hgt μ))])) := by rw [ew50, va_up_ne _ _ (hj.ne (i := 36) (j := 34) (by decide) (by decide) (by decide))]; exact r36
        refine va_get (D := (dC, dI)) (ci := 5) (v := .ref (md 32)) (C := R_D) (T := F_D) (N := 36) hx hb hg in_D hown hK (hP.one r36) 0 rfl rfl 32 (by decide) (hg _ k_623) (fun _ h9 => h9) rfl d_D_take_127 ?_
        refine lv_iload_n hx hb d_D_take_130 rfl (lv_at hl 2 rfl) ?_
        refine lv_dup2_11 hx hb d_D_take_131 rfl rfl ?_
        have r32 : w49 (md 32) = some (.inl (dA 0, 13, .inl (nf (m_asked μ)))) := by rw [ew50, va_up_ne _ _ (hj.ne (i := 32) (j := 34) (by decide) (by decide) (by decide))]; exact r32
        refine fw_iald (tys := tyl dA) hx hb hK hP r32 0 rfl (j := f) (by omega) (by decide) d_D_take_132 ?_
        refine lv_iconst (v := (nI 1)) hx hb d_D_take_133 (by decide) ?_
        refine nu_iadd (r := (m_asked μ) f + 1) hx hb d_D_take_134 (by omega) ?_
        refine fw_iast (tys := tyl dA) hx hb hK hP hS r32 0 rfl (j := f) (x := (nI ((m_asked μ) f + 1))) (by omega) (by decide) d_D_take_135 (fun w52 H locs ew53 hP hS => ?_)
        rw [nf_up] at ew53
        have r32 : w52 (md 32) = some (.inl (dA 0, 13, .inl (nf (va_up (m_asked μ) f ((m_asked μ) f + 1))))) := by rw [ew53]; exact va_up_self _ _ _
        have ho54 : OutD md w w52 := OutD.up ho51 ew53 (by decide)
        have hk55 : ∀ i, U37 i → i ∉ [32] → w52 (md i) = w49 (md i) := fun i hi hn => by rw [ew53, va_up_ne _ _ (hj.ne hi (j := 32) (by decide) (fun e9 => hn (by rw [e9]; decide)))]
        have hk56 : ∀ i, U37 i → i ∉ [32, 34] → w52 (md i) = w (md i) := fun i hi hn => by rw [ew53, va_up_ne _ _ (hj.ne hi (j := 32) (by decide) (fun e9 => hn (by rw [e9]; decide))), ew50, va_up_ne _ _ (hj.ne hi (j := 34) (by decide) (fun e9 => hn (by rw [e9]; decide)))]
        exact W.vret hx hb hr (fun tS ht hW => ⟨⟨w52, rfl, (by rw [show dTake f v μ = (((m_sort μ), (m_rule μ), m_parts μ, m_inp μ), ((m_size μ), (m_keys μ), (m_own μ), m_got μ, m_came μ), (m_trc μ, (m_cch μ), m_cached μ, m_cnt μ, (m_circ μ)), (m_otrc μ, (m_occh μ), m_ocached μ, m_ocnt μ, (m_ocirc μ)), (m_thr μ, m_wkr μ, (m_ran μ), (m_st μ), m_val μ), ((m_key μ), (m_ph μ), m_chk μ, (m_at μ), (m_cand μ), (m_cc μ), (m_mk μ), (va_up (m_asked μ) f ((m_asked μ) f + 1)), m_first μ, vp_updL (m_sum μ) f (((m_sum μ) f) + v), m_hgt μ)) from (by unfold dTake; rw [show dFst (m_asked μ f) f v (m_first μ) = m_first μ from if_neg c1, show dAcc (m_rule μ (m_key μ f)) (m_asked μ f) (m_sum μ f) v = _ from (if_pos (Or.inr c3))] <;> rfl)]; exact ⟨⟨(hk55 36 (by decide) (by decide)).trans r36, (hk56 0 (by decide) (by decide)).trans r0, (hk56 1 (by decide) (by decide)).trans r1, (hk56 2 (by decide) (by decide)).trans r2, (hk56 3 (by decide) (by decide)).trans r3, (hk56 4 (by decide) (by decide)).trans r4, (hk56 5 (by decide) (by decide)).trans r5, (hk56 6 (by decide) (by decide)).trans r6, (hk56 7 (by decide) (by decide)).trans r7, (hk56 8 (by decide) (by decide)).trans r8, ⟨_, (hk56 9 (by decide) (by decide)).trans r9⟩, (hk56 10 (by decide) (by decide)).trans r10, (hk56 11 (by decide) (by decide)).trans r11, (hk56 12 (by decide) (by decide)).trans r12, (hk56 13 (by decide) (by decide)).trans r13, (hk56 14 (by decide) (by decide)).trans r14, (hk56 15 (by decide) (by decide)).trans r15, (hk56 23 (by decide) (by decide)).trans r23, (hk56 24 (by decide) (by decide)).trans r24, (hk56 25 (by decide) (by decide)).trans r25, (hk56 26 (by decide) (by decide)).trans r26, (hk56 27 (by decide) (by decide)).trans r27, (hk56 28 (by decide) (by decide)).trans r28, (hk56 29 (by decide) (by decide)).trans r29, (hk56 30 (by decide) (by decide)).trans r30, (hk56 31 (by decide) (by decide)).trans r31, r32, (hk56 33 (by decide) (by decide)).trans r33, (hk55 34 (by decide) (by decide)).trans r34⟩, ho54⟩), mB_of ht hP⟩, hS.F ht⟩) hS.2.2 d_D_take_136
  · refine lv_aload_n hx hb d_D_take_22 rfl (lv_at hl 1 rfl) ?_
    refine va_get (D := (dC, dI)) (ci := 5) (v := .ref (md 33)) (C := R_D) (T := F_D) (N := 36) hx hb hg in_D hown hK (hP.one r36) 0 rfl rfl 33 (by decide) (hg _ k_624) (fun _ h9 => h9) rfl d_D_take_23 ?_
    refine lv_iload_n hx hb d_D_take_26 rfl (lv_at hl 2 rfl) ?_
    refine lv_lload_n hx hb d_D_take_27 rfl (lv_at hl 3 rfl) ?_
    refine fw_last (tys := tyl dA) hx hb hK hP hS r33 1 rfl (j := f) (by omega) (by decide) d_D_take_28 (fun w57 H locs ew58 hP hS => ?_)
    have r33 : w57 (md 33) = some (.inl (dA 1, 13, .inr (.inl (vp_updL (m_first μ) f v)))) := by rw [ew58]; exact va_up_self _ _ _
    have ho59 : OutD md w w57 := OutD.up OutD.rf ew58 (by decide)
    refine lv_iload hx hb d_D_take_29 (lv_at hl 0 rfl) ?_
    refine nu_zeq (tgt := 41) hx hb (by omega) d_D_take_31 (by decide) (fun c2 => ?_) (fun c2 => ?_)
    · refine lv_aload_n hx hb d_D_take_41 rfl (lv_at hl 1 rfl) ?_
      have r36 : w57 (md 36) = some (.inr (5, [.ref (md 0), .ref (md 1), .ref (md 2), .ref (md 3), .ref (md 4), .ref (md 5), .ref (md 6), .ref (md 7), .ref (md 8), .ref (md 9), .ref (md 10), .ref (md 11), .ref (md 12), .ref (md 13), .ref (md 14), .ref (md 15), .int (nI (m_cached μ)), .int (nI (m_ocached μ)), .int (m_circ μ), .int (m_ocirc μ), .int (nI (m_thr μ)), .int (nI (m_wkr μ)), .int (nI (m_ran μ).toNat), .ref (md 23), .ref (md 24), .ref (md 25), .ref (md 26), .ref (md 27), .ref (md 28), .ref (md 29), .ref (md 30), .ref (md 31), .ref (md 32), .ref (md 33), .ref (md 34), .int (nI (m_hgt μ))])) := by rw [ew58, va_up_ne _ _ (hj.ne (i := 36) (j := 33) (by decide) (by decide) (by decide))]; exact r36
      refine va_get (D := (dC, dI)) (ci := 5) (v := .ref (md 34)) (C := R_D) (T := F_D) (N := 36) hx hb hg in_D hown hK (hP.one r36) 0 rfl rfl 34 (by decide) (hg _ k_625) (fun _ h9 => h9) rfl d_D_take_42 ?_
      refine lv_iload_n hx hb d_D_take_45 rfl (lv_at hl 2 rfl) ?_
      refine lv_dup2_11 hx hb d_D_take_46 rfl rfl ?_
      have r34 : w57 (md 34) = some (.inl (dA 1, 13, .inr (.inl (m_sum μ)))) := by rw [ew58, va_up_ne _ _ (hj.ne (i := 34) (j := 33) (by decide) (by decide) (by decide))]; exact r34
      refine fw_lald (tys := tyl dA) hx hb hK hP r34 1 rfl (j := f) (by omega) (by decide) d_D_take_47 ?_
      refine lv_lload_n hx hb d_D_take_48 rfl (lv_at hl 3 rfl) ?_
      refine lv_ladd hx hb d_D_take_49 ?_
      refine fw_last (tys := tyl dA) hx hb hK hP hS r34 1 rfl (j := f) (by omega) (by decide) d_D_take_50 (fun w60 H locs ew61 hP hS => ?_)
      have r34 : w60 (md 34) = some (.inl (dA 1, 13, .inr (.inl (vp_updL (m_sum μ) f (((m_sum μ) f) + v))))) := by rw [ew61]; exact va_up_self _ _ _
      have ho62 : OutD md w w60 := OutD.up ho59 ew61 (by decide)
      refine lv_goto (tgt := 126) hx hb d_D_take_51 (by decide) ?_
      refine lv_aload_n hx hb d_D_take_126 rfl (lv_at hl 1 rfl) ?_
      have r36 : w60 (md 36) = some (.inr (5, [.ref (md 0), .ref (md 1), .ref (md 2), .ref (md 3), .ref (md 4), .ref (md 5), .ref (md 6), .ref (md 7), .ref (md 8), .ref (md 9), .ref (md 10), .ref (md 11), .ref (md 12), .ref (md 13), .ref (md 14), .ref (md 15), .int (nI (m_cached μ)), .int (nI (m_ocached μ)), .int (m_circ μ), .int (m_ocirc μ), .int (nI (m_thr μ)), .int (nI (m_wkr μ)), .int (nI (m_ran μ).toNat), .ref (md 23), .ref (md 24), .ref (md 25), .ref (md 26), .ref (md 27), .ref (md 28), .ref (md 29), .ref (md 30), .ref (md 31), .ref (md 32), .ref (md 33), .ref (md 34), .int (nI (m_hgt μ))])) := by rw [ew61, va_up_ne _ _ (hj.ne (i := 36) (j := 34) (by decide) (by decide) (by decide))]; exact r36
      refine va_get (D := (dC, dI)) (ci := 5) (v := .ref (md 32)) (C := R_D) (T := F_D) (N := 36) hx hb hg in_D hown hK (hP.one r36) 0 rfl rfl 32 (by decide) (hg _ k_623) (fun _ h9 => h9) rfl d_D_take_127 ?_
      refine lv_iload_n hx hb d_D_take_130 rfl (lv_at hl 2 rfl) ?_
      refine lv_dup2_11 hx hb d_D_take_131 rfl rfl ?_
      have r32 : w60 (md 32) = some (.inl (dA 0, 13, .inl (nf (m_asked μ)))) := by rw [ew61, va_up_ne _ _ (hj.ne (i := 32) (j := 34) (by decide) (by decide) (by decide)), ew58, va_up_ne _ _ (hj.ne (i := 32) (j := 33) (by decide) (by decide) (by decide))]; exact r32
      refine fw_iald (tys := tyl dA) hx hb hK hP r32 0 rfl (j := f) (by omega) (by decide) d_D_take_132 ?_
      refine lv_iconst (v := (nI 1)) hx hb d_D_take_133 (by decide) ?_
      refine nu_iadd (r := (m_asked μ) f + 1) hx hb d_D_take_134 (by omega) ?_
      refine fw_iast (tys := tyl dA) hx hb hK hP hS r32 0 rfl (j := f) (x := (nI ((m_asked μ) f + 1))) (by omega) (by decide) d_D_take_135 (fun w63 H locs ew64 hP hS => ?_)
      rw [nf_up] at ew64
      have r32 : w63 (md 32) = some (.inl (dA 0, 13, .inl (nf (va_up (m_asked μ) f ((m_asked μ) f + 1))))) := by rw [ew64]; exact va_up_self _ _ _
      have ho65 : OutD md w w63 := OutD.up ho62 ew64 (by decide)
      have hk66 : ∀ i, U37 i → i ∉ [32] → w63 (md i) = w60 (md i) := fun i hi hn => by rw [ew64, va_up_ne _ _ (hj.ne hi (j := 32) (by decide) (fun e9 => hn (by rw [e9]; decide)))]
      have hk67 : ∀ i, U37 i → i ∉ [32, 33, 34] → w63 (md i) = w (md i) := fun i hi hn => by rw [ew64, va_up_ne _ _ (hj.ne hi (j := 32) (by decide) (fun e9 => hn (by rw [e9]; decide))), ew61, va_up_ne _ _ (hj.ne hi (j := 34) (by decide) (fun e9 => hn (by rw [e9]; decide))), ew58, va_up_ne _ _ (hj.ne hi (j := 33) (by decide) (fun e9 => hn (by rw [e9]; decide)))]
      have hk68 : ∀ i, U37 i → i ∉ [32, 34] → w63 (md i) = w57 (md i) := fun i hi hn => by rw [ew64, va_up_ne _ _ (hj.ne hi (j := 32) (by decide) (fun e9 => hn (by rw [e9]; decide))), ew61, va_up_ne _ _ (hj.ne hi (j := 34) (by decide) (fun e9 => hn (by rw [e9]; decide)))]
      exact W.vret hx hb hr (fun tS ht hW => ⟨⟨w63, rfl, (by rw [show dTake f v μ = (((m_sort μ), (m_rule μ), m_parts μ, m_inp μ), ((m_size μ), (m_keys μ), (m_own μ), m_got μ, m_came μ), (m_trc μ, (m_cch μ), m_cached μ, m_cnt μ, (m_circ μ)), (m_otrc μ, (m_occh μ), m_ocached μ, m_ocnt μ, (m_ocirc μ)), (m_thr μ, m_wkr μ, (m_ran μ), (m_st μ), m_val μ), ((m_key μ), (m_ph μ), m_chk μ, (m_at μ), (m_cand μ), (m_cc μ), (m_mk μ), (va_up (m_asked μ) f ((m_asked μ) f + 1)), vp_updL (m_first μ) f v, vp_updL (m_sum μ) f (((m_sum μ) f) + v), m_hgt μ)) from (by unfold dTake; rw [show dFst (m_asked μ f) f v (m_first μ) = vp_updL (m_first μ) f v from if_pos c1, show dAcc (m_rule μ (m_key μ f)) (m_asked μ f) (m_sum μ f) v = _ from (if_pos (Or.inl c2))] <;> rfl)]; exact ⟨⟨(hk66 36 (by decide) (by decide)).trans r36, (hk67 0 (by decide) (by decide)).trans r0, (hk67 1 (by decide) (by decide)).trans r1, (hk67 2 (by decide) (by decide)).trans r2, (hk67 3 (by decide) (by decide)).trans r3, (hk67 4 (by decide) (by decide)).trans r4, (hk67 5 (by decide) (by decide)).trans r5, (hk67 6 (by decide) (by decide)).trans r6, (hk67 7 (by decide) (by decide)).trans r7, (hk67 8 (by decide) (by decide)).trans r8, ⟨_, (hk67 9 (by decide) (by decide)).trans r9⟩, (hk67 10 (by decide) (by decide)).trans r10, (hk67 11 (by decide) (by decide)).trans r11, (hk67 12 (by decide) (by decide)).trans r12, (hk67 13 (by decide) (by decide)).trans r13, (hk67 14 (by decide) (by decide)).trans r14, (hk67 15 (by decide) (by decide)).trans r15, (hk67 23 (by decide) (by decide)).trans r23, (hk67 24 (by decide) (by decide)).trans r24, (hk67 25 (by decide) (by decide)).trans r25, (hk67 26 (by decide) (by decide)).trans r26, (hk67 27 (by decide) (by decide)).trans r27, (hk67 28 (by decide) (by decide)).trans r28, (hk67 29 (by decide) (by decide)).trans r29, (hk67 30 (by decide) (by decide)).trans r30, (hk67 31 (by decide) (by decide)).trans r31, r32, (hk68 33 (by decide) (by decide)).trans r33, (hk66 34 (by decide) (by decide)).trans r34⟩, ho65⟩), mB_of ht hP⟩, hS.F ht⟩) hS.2.2 d_D_take_136
    · refine lv_iload hx hb d_D_take_34 (lv_at hl 0 rfl) ?_
      refine lv_bipush (v := (nI 7)) hx hb d_D_take_36 (by decide) ?_
      refine nu_ne (tgt := 54) hx hb (by omega) (by omega) d_D_take_38 (by decide) (fun c3 => ?_) (fun c3 => ?_)
      · refine lv_iload hx hb d_D_take_54 (lv_at hl 0 rfl) ?_
        refine lv_iconst (v := (nI 1)) hx hb d_D_take_56 (by decide) ?_
        refine nu_ne (tgt := 73) hx hb (by omega) (by omega) d_D_take_57 (by decide) (fun c4 => ?_) (fun c4 => ?_)
        · refine lv_iload hx hb d_D_take_73 (lv_at hl 0 rfl) ?_
          refine lv_bipush (v := (nI 6)) hx hb d_D_take_75 (by decide) ?_
          refine nu_ne (tgt := 119) hx hb (by omega) (by omega) d_D_take_77 (by decide) (fun c5 => ?_) (fun c5 => ?_)
          · refine lv_aload_n hx hb d_D_take_119 rfl (lv_at hl 1 rfl) ?_
            have r36 : w57 (md 36) = some (.inr (5, [.ref (md 0), .ref (md 1), .ref (md 2), .ref (md 3), .ref (md 4), .ref (md 5), .ref (md 6), .ref (md 7), .ref (md 8), .ref (md 9), .ref (md 10), .ref (md 11), .ref (md 12), .ref (md 13), .ref (md 14), .ref (md 15), .int (nI (m_cached μ)), .int (nI (m_ocached μ)), .int (m_circ μ), .int (m_ocirc μ), .int (nI (m_thr μ)), .int (nI (m_wkr μ)), .int (nI (m_ran μ).toNat), .ref (md 23), .ref (md 24), .ref (md 25), .ref (md 26), .ref (md 27), .ref (md 28), .ref (md 29), .ref (md 30), .ref (md 31), .ref (md 32), .ref (md 33), .ref (md 34), .int (nI (m_hgt μ))])) := by rw [ew58, va_up_ne _ _ (hj.ne (i := 36) (j := 33) (by decide) (by decide) (by decide))]; exact r36
            refine va_get (D := (dC, dI)) (ci := 5) (v := .ref (md 34)) (C := R_D) (T := F_D) (N := 36) hx hb hg in_D hown hK (hP.one r36) 0 rfl rfl 34 (by decide) (hg _ k_625) (fun _ h9 => h9) rfl d_D_take_120 ?_
            refine lv_iload_n hx hb d_D_take_123 rfl (lv_at hl 2 rfl) ?_
            refine lv_lload_n hx hb d_D_take_124 rfl (lv_at hl 3 rfl) ?_
            have r34 : w57 (md 34) = some (.inl (dA 1, 13, .inr (.inl (m_sum μ)))) := by rw [ew58, va_up_ne _ _ (hj.ne (i := 34) (j := 33) (by decide) (by decide) (by decide))]; exact r34
            refine fw_last (tys := tyl dA) hx hb hK hP hS r34 1 rfl (j := f) (by omega) (by decide) d_D_take_125 (fun w69 H locs ew70 hP hS => ?_)
            have r34 : w69 (md 34) = some (.inl (dA 1, 13, .inr (.inl (vp_updL (m_sum μ) f v)))) := by rw [ew70]; exact va_up_self _ _ _
            have ho71 : OutD md w w69 := OutD.up ho59 ew70 (by decide)
            refine lv_aload_n hx hb d_D_take_126 rfl (lv_at hl 1 rfl) ?_
            have r36 : w69 (md 36) = some (.inr (5, [.ref (md 0), .ref (md 1), .ref (md 2), .ref (md 3), .ref (md 4), .ref (md 5), .ref (md 6), .ref (md 7), .ref (md 8), .ref (md 9), .ref (md 10), .ref (md 11), .ref (md 12), .ref (md 13), .ref (md 14), .ref (md 15), .int (nI (m_cached μ)), .int (nI (m_ocached μ)), .int (m_circ μ), .int (m_ocirc μ), .int (nI (m_thr μ)), .int (nI (m_wkr μ)), .int (nI (m_ran μ).toNat), .ref (md 23), .ref (md 24), .ref (md 25), .ref (md 26), .ref (md 27), .ref (md 28), .ref (md 29), .ref (md 30), .ref (md 31), .ref (md 32), .ref (md 33), .ref (md 34), .int (nI (m_hgt μ))])) := by rw [ew70, va_up_ne _ _ (hj.ne (i := 36) (j := 34) (by decide) (by decide) (by decide))]; exact r36
            refine va_get (D := (dC, dI)) (ci := 5) (v := .ref (md 32)) (C := R_D) (T := F_D) (N := 36) hx hb hg in_D hown hK (hP.one r36) 0 rfl rfl 32 (by decide) (hg _ k_623) (fun _ h9 => h9) rfl d_D_take_127 ?_
            refine lv_iload_n hx hb d_D_take_130 rfl (lv_at hl 2 rfl) ?_
            refine lv_dup2_11 hx hb d_D_take_131 rfl rfl ?_
            have r32 : w69 (md 32) = some (.inl (dA 0, 13, .inl (nf (m_asked μ)))) := by rw [ew70, va_up_ne _ _ (hj.ne (i := 32) (j := 34) (by decide) (by decide) (by decide)), ew58, va_up_ne _ _ (hj.ne (i := 32) (j := 33) (by decide) (by decide) (by decide))]; exact r32
            refine fw_iald (tys := tyl dA) hx hb hK hP r32 0 rfl (j := f) (by omega) (by decide) d_D_take_132 ?_
            refine lv_iconst (v := (nI 1)) hx hb d_D_take_133 (by decide) ?_
            refine nu_iadd (r := (m_asked μ) f + 1) hx hb d_D_take_134 (by omega) ?_
            refine fw_iast (tys := tyl dA) hx hb hK hP hS r32 0 rfl (j := f) (x := (nI ((m_asked μ) f + 1))) (by omega) (by decide) d_D_take_135 (fun w72 H locs ew73 hP hS => ?_)
            rw [nf_up] at ew73
            have r32 : w72 (md 32) = some (.inl (dA 0, 13, .inl (nf (va_up (m_asked μ) f ((m_asked μ) f + 1))))) := by rw [ew73]; exact va_up_self _ _ _
            have ho74 : OutD md w w72 := OutD.up ho71 ew73 (by decide)
            have hk75 : ∀ i, U37 i → i ∉ [32] → w72 (md i) = w69 (md i) := fun i hi hn => by rw [ew73, va_up_ne _ _ (hj.ne hi (j := 32) (by decide) (fun e9 => hn (by rw [e9]; decide)))]
            have hk76 : ∀ i, U37 i → i ∉ [32, 33, 34] → w72 (md i) = w (md i) := fun i hi hn => by rw [ew73, va_up_ne _ _ (hj.ne hi (j := 32) (by decide) (fun e9 => hn (by rw [e9]; decide))), ew70, va_up_ne _ _ (hj.ne hi (j := 34) (by decide) (fun e9 => hn (by rw [e9]; decide))), ew58, va_up_ne _ _ (hj.ne hi (j := 33) (by decide) (fun e9 => hn (by rw [e9]; decide)))]
            have hk77 : ∀ i, U37 i → i ∉ [32, 34] → w72 (md i) = w57 (md i) := fun i hi hn => by rw [ew73, va_up_ne _ _ (hj.ne hi (j := 32) (by decide) (fun e9 => hn (by rw [e9]; decide))), ew70, va_up_ne _ _ (hj.ne hi (j := 34) (by decide) (fun e9 => hn (by rw [e9]; decide)))]
            exact W.vret hx hb hr (fun tS ht hW => ⟨⟨w72, rfl, (by rw [show dTake f v μ = (((m_sort μ), (m_rule μ), m_parts μ, m_inp μ), ((m_size μ), (m_keys μ), (m_own μ), m_got μ, m_came μ), (m_trc μ, (m_cch μ), m_cached μ, m_cnt μ, (m_circ μ)), (m_otrc μ, (m_occh μ), m_ocached μ, m_ocnt μ, (m_ocirc μ)), (m_thr μ, m_wkr μ, (m_ran μ), (m_st μ), m_val μ), ((m_key μ), (m_ph μ), m_chk μ, (m_at μ), (m_cand μ), (m_cc μ), (m_mk μ), (va_up (m_asked μ) f ((m_asked μ) f + 1)), vp_updL (m_first μ) f v, vp_updL (m_sum μ) f v, m_hgt μ)) from (by unfold dTake; rw [show dFst (m_asked μ f) f v (m_first μ) = vp_updL (m_first μ) f v from if_pos c1, show dAcc (m_rule μ (m_key μ f)) (m_asked μ f) (m_sum μ f) v = _ from (((if_neg (fun h9 => h9.elim c2 c3)).trans (if_neg c4)).trans (if_neg c5))] <;> rfl)]; exact ⟨⟨(hk75 36 (by decide) (by decide)).trans r36, (hk76 0 (by decide) (by decide)).trans r0, (hk76 1 (by decide) (by decide)).trans r1, (hk76 2 (by decide) (by decide)).trans r2, (hk76 3 (by decide) (by decide)).trans r3, (hk76 4 (by decide) (by decide)).trans r4, (hk76 5 (by decide) (by decide)).trans r5, (hk76 6 (by decide) (by decide)).trans r6, (hk76 7 (by decide) (by decide)).trans r7, (hk76 8 (by decide) (by decide)).trans r8, ⟨_, (hk76 9 (by decide) (by decide)).trans r9⟩, (hk76 10 (by decide) (by decide)).trans r10, (hk76 11 (by decide) (by decide)).trans r11, (hk76 12 (by decide) (by decide)).trans r12, (hk76 13 (by decide) (by decide)).trans r13, (hk76 14 (by decide) (by decide)).trans r14, (hk76 15 (by decide) (by decide)).trans r15, (hk76 23 (by decide) (by decide)).trans r23, (hk76 24 (by decide) (by decide)).trans r24, (hk76 25 (by decide) (by decide)).trans r25, (hk76 26 (by decide) (by decide)).trans r26, (hk76 27 (by decide) (by decide)).trans r27, (hk76 28 (by decide) (by decide)).trans r28, (hk76 29 (by decide) (by decide)).trans r29, (hk76 30 (by decide) (by decide)).trans r30, (hk76 31 (by decide) (by decide)).trans r31, r32, (hk77 33 (by decide) (by decide)).trans r33, (hk75 34 (by decide) (by decide)).trans r34⟩, ho74⟩), mB_of ht hP⟩, hS.F ht⟩) hS.2.2 d_D_take_136
          · refine lv_aload_n hx hb d_D_take_80 rfl (lv_at hl 1 rfl) ?_
            have r36 : w57 (md 36) = some (.inr (5, [.ref (md 0), .ref (md 1), .ref (md 2), .ref (md 3), .ref (md 4), .ref (md 5), .ref (md 6), .ref (md 7), .ref (md 8), .ref (md 9), .ref (md 10), .ref (md 11), .ref (md 12), .ref (md 13), .ref (md 14), .ref (md 15), .int (nI (m_cached μ)), .int (nI (m_ocached μ)), .int (m_circ μ), .int (m_ocirc μ), .int (nI (m_thr μ)), .int (nI (m_wkr μ)), .int (nI (m_ran μ).toNat), .ref (md 23), .ref (md 24), .ref (md 25), .ref (md 26), .ref (md 27), .ref (md 28), .ref (md 29), .ref (md 30), .ref (md 31), .ref (md 32), .ref (md 33), .ref (md 34), .int (nI (m_hgt μ))])) := by rw [ew58, va_up_ne _ _ (hj.ne (i := 36) (j := 33) (by decide) (by decide) (by decide))]; exact r36
            refine va_get (D := (dC, dI)) (ci := 5) (v := .ref (md 34)) (C := R_D) (T := F_D) (N := 36) hx hb hg in_D hown hK (hP.one r36) 0 rfl rfl 34 (by decide) (hg _ k_625) (fun _ h9 => h9) rfl d_D_take_81 ?_
            refine lv_iload_n hx hb d_D_take_84 rfl (lv_at hl 2 rfl) ?_
            refine lv_aload_n hx hb d_D_take_85 rfl (lv_at hl 1 rfl) ?_
            refine va_get (D := (dC, dI)) (ci := 5) (v := .ref (md 32)) (C := R_D) (T := F_D) (N := 36) hx hb hg in_D hown hK (hP.one r36) 0 rfl rfl 32 (by decide) (hg _ k_623) (fun _ h9 => h9) rfl d_D_take_86 ?_
            refine lv_iload_n hx hb d_D_take_89 rfl (lv_at hl 2 rfl) ?_
            have r32 : w57 (md 32) = some (.inl (dA 0, 13, .inl (nf (m_asked μ)))) := by rw [ew58, va_up_ne _ _ (hj.ne (i := 32) (j := 33) (by decide) (by decide) (by decide))]; exact r32
            refine fw_iald (tys := tyl dA) hx hb hK hP r32 0 rfl (j := f) (by omega) (by decide) d_D_take_90 ?_
            refine nu_zeq (tgt := 105) hx hb (by omega) d_D_take_91 (by decide) (fun c6 => ?_) (fun c6 => ?_)
            · refine lv_lload_n hx hb d_D_take_105 rfl (lv_at hl 3 rfl) ?_
              refine lv_goto (tgt := 115) hx hb d_D_take_106 (by decide) ?_
              have r34 : w57 (md 34) = some (.inl (dA 1, 13, .inr (.inl (m_sum μ)))) := by rw [ew58, va_up_ne _ _ (hj.ne (i := 34) (j := 33) (by decide) (by decide) (by decide))]; exact r34
              refine fw_last (tys := tyl dA) hx hb hK hP hS r34 1 rfl (j := f) (by omega) (by decide) d_D_take_115 (fun w78 H locs ew79 hP hS => ?_)
              have r34 : w78 (md 34) = some (.inl (dA 1, 13, .inr (.inl (vp_updL (m_sum μ) f v)))) := by rw [ew79]; exact va_up_self _ _ _
              have ho80 : OutD md w w78 := OutD.up ho59 ew79 (by decide)
              refine lv_goto (tgt := 126) hx hb d_D_take_116 (by decide) ?_
              refine lv_aload_n hx hb d_D_take_126 rfl (lv_at hl 1 rfl) ?_
              have r36 : w78 (md 36) = some (.inr (5, [.ref (md 0), .ref (md 1), .ref (md 2), .ref (md 3), .ref (md 4), .ref (md 5), .ref (md 6), .ref (md 7), .ref (md 8), .ref (md 9), .ref (md 10), .ref (md 11), .ref (md 12), .ref (md 13), .ref (md 14), .ref (md 15), .int (nI (m_cached μ)), .int (nI (m_ocached μ)), .int (m_circ μ), .int (m_ocirc μ), .int (nI (m_thr μ)), .int (nI (m_wkr μ)), .int (nI (m_ran μ).toNat), .ref (md 23), .ref (md 24), .ref (md 25), .ref (md 26), .ref (md 27), .ref (md 28), .ref (md 29), .ref (md 30), .ref (md 31), .ref (md 32), .ref (md 33), .ref (md 34), .int (nI (m_hgt μ))])) := by rw [ew79, va_up_ne _ _ (hj.ne (i := 36) (j := 34) (by decide) (by decide) (by decide))]; exact r36
              refine va_get (D := (dC, dI)) (ci := 5) (v := .ref (md 32)) (C := R_D) (T := F_D) (N := 36) hx hb hg in_D hown hK (hP.one r36) 0 rfl rfl 32 (by decide) (hg _ k_623) (fun _ h9 => h9) rfl d_D_take_127 ?_
              refine lv_iload_n hx hb d_D_take_130 rfl (lv_at hl 2 rfl) ?_
              refine lv_dup2_11 hx hb d_D_take_131 rfl rfl ?_
              have r32 : w78 (md 32) = some (.inl (dA 0, 13, .inl (nf (m_asked μ)))) := by rw [ew79, va_up_ne _ _ (hj.ne (i := 32) (j := 34) (by decide) (by decide) (by decide))]; exact r32
              refine fw_iald (tys := tyl dA) hx hb hK hP r32 0 rfl (j := f) (by omega) (by decide) d_D_take_132 ?_
              refine lv_iconst (v := (nI 1)) hx hb d_D_take_133 (by decide) ?_
              refine nu_iadd (r := (m_asked μ) f + 1) hx hb d_D_take_134 (by omega) ?_
              refine fw_iast (tys := tyl dA) hx hb hK hP hS r32 0 rfl (j := f) (x := (nI ((m_asked μ) f + 1))) (by omega) (by decide) d_D_take_135 (fun w81 H locs ew82 hP hS => ?_)
              rw [nf_up] at ew82
              have r32 : w81 (md 32) = some (.inl (dA 0, 13, .inl (nf (va_up (m_asked μ) f ((m_asked μ) f + 1))))) := by rw [ew82]; exact va_up_self _ _ _
              have ho83 : OutD md w w81 := OutD.up ho80 ew82 (by decide)
              have hk84 : ∀ i, U37 i → i ∉ [32] → w81 (md i) = w78 (md i) := fun i hi hn => by rw [ew82, va_up_ne _ _ (hj.ne hi (j := 32) (by decide) (fun e9 => hn (by rw [e9]; decide)))]
              have hk85 : ∀ i, U37 i → i ∉ [32, 33, 34] → w81 (md i) = w (md i) := fun i hi hn => by rw [ew82, va_up_ne _ _ (hj.ne hi (j := 32) (by decide) (fun e9 => hn (by rw [e9]; decide))), ew79, va_up_ne _ _ (hj.ne hi (j := 34) (by decide) (fun e9 => hn (by rw [e9]; decide))), ew58, va_up_ne _ _ (hj.ne hi (j := 33) (by decide) (fun e9 => hn (by rw [e9]; decide)))]
              have hk86 : ∀ i, U37 i → i ∉ [32, 34] → w81 (md i) = w57 (md i) := fun i hi hn => by rw [ew82, va_up_ne _ _ (hj.ne hi (j := 32) (by decide) (fun e9 => hn (by rw [e9]; decide))), ew79, va_up_ne _ _ (hj.ne hi (j := 34) (by decide) (fun e9 => hn (by rw [e9]; decide)))]
              exact W.vret hx hb hr (fun tS ht hW => ⟨⟨w81, rfl, (by rw [show dTake f v μ = (((m_sort μ), (m_rule μ), m_parts μ, m_inp μ), ((m_size μ), (m_keys μ), (m_own μ), m_got μ, m_came μ), (m_trc μ, (m_cch μ), m_cached μ, m_cnt μ, (m_circ μ)), (m_otrc μ, (m_occh μ), m_ocached μ, m_ocnt μ, (m_ocirc μ)), (m_thr μ, m_wkr μ, (m_ran μ), (m_st μ), m_val μ), ((m_key μ), (m_ph μ), m_chk μ, (m_at μ), (m_cand μ), (m_cc μ), (m_mk μ), (va_up (m_asked μ) f ((m_asked μ) f + 1)), vp_updL (m_first μ) f v, vp_updL (m_sum μ) f v, m_hgt μ)) from (by unfold dTake; rw [show dFst (m_asked μ f) f v (m_first μ) = vp_updL (m_first μ) f v from if_pos c1, show dAcc (m_rule μ (m_key μ f)) (m_asked μ f) (m_sum μ f) v = _ from ((((if_neg (fun h9 => h9.elim c2 c3)).trans (if_neg c4)).trans (if_pos c5)).trans (if_pos (Or.inl c6)))] <;> rfl)]; exact ⟨⟨(hk84 36 (by decide) (by decide)).trans r36, (hk85 0 (by decide) (by decide)).trans r0, (hk85 1 (by decide) (by decide)).trans r1, (hk85 2 (by decide) (by decide)).trans r2, (hk85 3 (by decide) (by decide)).trans r3, (hk85 4 (by decide) (by decide)).trans r4, (hk85 5 (by decide) (by decide)).trans r5, (hk85 6 (by decide) (by decide)).trans r6, (hk85 7 (by decide) (by decide)).trans r7, (hk85 8 (by decide) (by decide)).trans r8, ⟨_, (hk85 9 (by decide) (by decide)).trans r9⟩, (hk85 10 (by decide) (by decide)).trans r10, (hk85 11 (by decide) (by decide)).trans r11, (hk85 12 (by decide) (by decide)).trans r12, (hk85 13 (by decide) (by decide)).trans r13, (hk85 14 (by decide) (by decide)).trans r14, (hk85 15 (by decide) (by decide)).trans r15, (hk85 23 (by decide) (by decide)).trans r23, (hk85 24 (by decide) (by decide)).trans r24, (hk85 25 (by decide) (by decide)).trans r25, (hk85 26 (by decide) (by decide)).trans r26, (hk85 27 (by decide) (by decide)).trans r27, (hk85 28 (by decide) (by decide)).trans r28, (hk85 29 (by decide) (by decide)).trans r29, (hk85 30 (by decide) (by decide)).trans r30, (hk85 31 (by decide) (by decide)).trans r31, r32, (hk86 33 (by decide) (by decide)).trans r33, (hk84 34 (by decide) (by decide)).trans r34⟩, ho83⟩), mB_of ht hP⟩, hS.F ht⟩) hS.2.2 d_D_take_136
            · refine lv_lload_n hx hb d_D_take_94 rfl (lv_at hl 3 rfl) ?_
              refine lv_aload_n hx hb d_D_take_95 rfl (lv_at hl 1 rfl) ?_
              refine va_get (D := (dC, dI)) (ci := 5) (v := .ref (md 34)) (C := R_D) (T := F_D) (N := 36) hx hb hg in_D hown hK (hP.one r36) 0 rfl rfl 34 (by decide) (hg _ k_625) (fun _ h9 => h9) rfl d_D_take_96 ?_
              refine lv_iload_n hx hb d_D_take_99 rfl (lv_at hl 2 rfl) ?_
              have r34 : w57 (md 34) = some (.inl (dA 1, 13, .inr (.inl (m_sum μ)))) := by rw [ew58, va_up_ne _ _ (hj.ne (i := 34) (j := 33) (by decide) (by decide) (by decide))]; exact r34
              refine fw_lald (tys := tyl dA) hx hb hK hP r34 1 rfl (j := f) (by omega) (by decide) d_D_take_100 ?_
              refine W.lcmp hx hb d_D_take_101 ?_
              refine lv_if_le (tgt := 109) hx hb d_D_take_102 (by decide) (fun c7 => ?_) (fun c7 => ?_)
              · refine lv_aload_n hx hb d_D_take_109 rfl (lv_at hl 1 rfl) ?_
                refine va_get (D := (dC, dI)) (ci := 5) (v := .ref (md 34)) (C := R_D) (T := F_D) (N := 36) hx hb hg in_D hown hK (hP.one r36) 0 rfl rfl 34 (by decide) (hg _ k_625) (fun _ h9 => h9) rfl d_D_take_110 ?_
                refine lv_iload_n hx hb d_D_take_113 rfl (lv_at hl 2 rfl) ?_
                refine fw_lald (tys := tyl dA) hx hb hK hP r34 1 rfl (j := f) (by omega) (by decide) d_D_take_114 ?_
                refine fw_last (tys := tyl dA) hx hb hK hP hS r34 1 rfl (j := f) (by omega) (by decide) d_D_take_115 (fun w87 H locs ew88 hP hS => ?_)
                have r34 : w87 (md 34) = some (.inl (dA 1, 13, .inr (.inl (vp_updL (m_sum μ) f ((m_sum μ) f))))) := by rw [ew88]; exact va_up_self _ _ _
                have ho89 : OutD md w w87 := OutD.up ho59 ew88 (by decide)
                refine lv_goto (tgt := 126) hx hb d_D_take_116 (by decide) ?_
                refine lv_aload_n hx hb d_D_take_126 rfl (lv_at hl 1 rfl) ?_
                have r36 : w87 (md 36) = some (.inr (5, [.ref (md 0), .ref (md 1), .ref (md 2), .ref (md 3), .ref (md 4), .ref (md 5), .ref (md 6), .ref (md 7), .ref (md 8), .ref (md 9), .ref (md 10), .ref (md 11), .ref (md 12), .ref (md 13), .ref (md 14), .ref (md 15), .int (nI (m_cached μ)), .int (nI (m_ocached μ)), .int (m_circ μ), .int (m_ocirc μ), .int (nI (m_thr μ)), .int (nI (m_wkr μ)), .int (nI (m_ran μ).toNat), .ref (md 23), .ref (md 24), .ref (md 25), .ref (md 26), .ref (md 27), .ref (md 28), .ref (md 29), .ref (md 30), .ref (md 31), .ref (md 32), .ref (md 33), .ref (md 34), .int (nI (m_hgt μ))])) := by rw [ew88, va_up_ne _ _ (hj.ne (i := 36) (j := 34) (by decide) (by decide) (by decide))]; exact r36
                refine va_get (D := (dC, dI)) (ci := 5) (v := .ref (md 32)) (C := R_D) (T := F_D) (N := 36) hx hb hg in_D hown hK (hP.one r36) 0 rfl rfl 32 (by decide) (hg _ k_623) (fun _ h9 => h9) rfl d_D_take_127 ?_
                refine lv_iload_n hx hb d_D_take_130 rfl (lv_at hl 2 rfl) ?_
                refine lv_dup2_11 hx hb d_D_take_131 rfl rfl ?_
                have r32 : w87 (md 32) = some (.inl (dA 0, 13, .inl (nf (m_asked μ)))) := by rw [ew88, va_up_ne _ _ (hj.ne (i := 32) (j := 34) (by decide) (by decide) (by decide))]; exact r32
                refine fw_iald (tys := tyl dA) hx hb hK hP r32 0 rfl (j := f) (by omega) (by decide) d_D_take_132 ?_
                refine lv_iconst (v := (nI 1)) hx hb d_D_take_133 (by decide) ?_
                refine nu_iadd (r := (m_asked μ) f + 1) hx hb d_D_take_134 (by omega) ?_
                refine fw_iast (tys := tyl dA) hx hb hK hP hS r32 0 rfl (j := f) (x := (nI ((m_asked μ) f + 1))) (by omega) (by decide) d_D_take_135 (fun w90 H locs ew91 hP hS => ?_)
                rw [nf_up] at ew91
                have r32 : w90 (md 32) = some (.inl (dA 0, 13, .inl (nf (va_up (m_asked μ) f ((m_asked μ) f + 1))))) := by rw [ew91]; exact va_up_self _ _ _
                have ho92 : OutD md w w90 := OutD.up ho89 ew91 (by decide)
                have hk93 : ∀ i, U37 i → i ∉ [32] → w90 (md i) = w87 (md i) := fun i hi hn => by rw [ew91, va_up_ne _ _ (hj.ne hi (j := 32) (by decide) (fun e9 => hn (by rw [e9]; decide)))]
                have hk94 : ∀ i, U37 i → i ∉ [32, 33, 34] → w90 (md i) = w (md i) := fun i hi hn => by rw [ew91, va_up_ne _ _ (hj.ne hi (j := 32) (by decide) (fun e9 => hn (by rw [e9]; decide))), ew88, va_up_ne _ _ (hj.ne hi (j := 34) (by decide) (fun e9 => hn (by rw [e9]; decide))), ew58, va_up_ne _ _ (hj.ne hi (j := 33) (by decide) (fun e9 => hn (by rw [e9]; decide)))]
                have hk95 : ∀ i, U37 i → i ∉ [32, 34] → w90 (md i) = w57 (md i) := fun i hi hn => by rw [ew91, va_up_ne _ _ (hj.ne hi (j := 32) (by decide) (fun e9 => hn (by rw [e9]; decide))), ew88, va_up_ne _ _ (hj.ne hi (j := 34) (by decide) (fun e9 => hn (by rw [e9]; decide)))]
                exact W.vret hx hb hr (fun tS ht hW => ⟨⟨w90, rfl, (by rw [show dTake f v μ = (((m_sort μ), (m_rule μ), m_parts μ, m_inp μ), ((m_size μ), (m_keys μ), (m_own μ), m_got μ, m_came μ), (m_trc μ, (m_cch μ), m_cached μ, m_cnt μ, (m_circ μ)), (m_otrc μ, (m_occh μ), m_ocached μ, m_ocnt μ, (m_ocirc μ)), (m_thr μ, m_wkr μ, (m_ran μ), (m_st μ), m_val μ), ((m_key μ), (m_ph μ), m_chk μ, (m_at μ), (m_cand μ), (m_cc μ), (m_mk μ), (va_up (m_asked μ) f ((m_asked μ) f + 1)), vp_updL (m_first μ) f v, vp_updL (m_sum μ) f ((m_sum μ) f), m_hgt μ)) from (by unfold dTake; rw [show dFst (m_asked μ f) f v (m_first μ) = vp_updL (m_first μ) f v from if_pos c1, show dAcc (m_rule μ (m_key μ f)) (m_asked μ f) (m_sum μ f) v = _ from ((((if_neg (fun h9 => h9.elim c2 c3)).trans (if_neg c4)).trans (if_pos c5)).trans (if_neg (fun h9 => h9.elim c6 (fun h8 => absurd ((lg_cmp_le _ _).mp c7) (Int64.not_le.mpr h8)))))] <;> rfl)]; exact ⟨⟨(hk93 36 (by decide) (by decide)).trans r36, (hk94 0 (by decide) (by decide)).trans r0, (hk94 1 (by decide) (by decide)).trans r1, (hk94 2 (by decide) (by decide)).trans r2, (hk94 3 (by decide) (by decide)).trans r3, (hk94 4 (by decide) (by decide)).trans r4, (hk94 5 (by decide) (by decide)).trans r5, (hk94 6 (by decide) (by decide)).trans r6, (hk94 7 (by decide) (by decide)).trans r7, (hk94 8 (by decide) (by decide)).trans r8, ⟨_, (hk94 9 (by decide) (by decide)).trans r9⟩, (hk94 10 (by decide) (by decide)).trans r10, (hk94 11 (by decide) (by decide)).trans r11, (hk94 12 (by decide) (by decide)).trans r12, (hk94 13 (by decide) (by decide)).trans r13, (hk94 14 (by decide) (by decide)).trans r14, (hk94 15 (by decide) (by decide)).trans r15, (hk94 23 (by decide) (by decide)).trans r23, (hk94 24 (by decide) (by decide)).trans r24, (hk94 25 (by decide) (by decide)).trans r25, (hk94 26 (by decide) (by decide)).trans r26, (hk94 27 (by decide) (by decide)).trans r27, (hk94 28 (by decide) (by decide)).trans r28, (hk94 29 (by decide) (by decide)).trans r29, (hk94 30 (by decide) (by decide)).trans r30, (hk94 31 (by decide) (by decide)).trans r31, r32, (hk95 33 (by decide) (by decide)).trans r33, (hk93 34 (by decide) (by decide)).trans r34⟩, ho92⟩), mB_of ht hP⟩, hS.F ht⟩) hS.2.2 d_D_take_136
              · refine lv_lload_n hx hb d_D_take_105 rfl (lv_at hl 3 rfl) ?_
                refine lv_goto (tgt := 115) hx hb d_D_take_106 (by decide) ?_
                refine fw_last (tys := tyl dA) hx hb hK hP hS r34 1 rfl (j := f) (by omega) (by decide) d_D_take_115 (fun w96 H locs ew97 hP hS => ?_)
                have r34 : w96 (md 34) = some (.inl (dA 1, 13, .inr (.inl (vp_updL (m_sum μ) f v)))) := by rw [ew97]; exact va_up_self _ _ _
                have ho98 : OutD md w w96 := OutD.up ho59 ew97 (by decide)
                refine lv_goto (tgt := 126) hx hb d_D_take_116 (by decide) ?_
                refine lv_aload_n hx hb d_D_take_126 rfl (lv_at hl 1 rfl) ?_
                have r36 : w96 (md 36) = some (.inr (5, [.ref (md 0), .ref (md 1), .ref (md 2), .ref (md 3), .ref (md 4), .ref (md 5), .ref (md 6), .ref (md 7), .ref (md 8), .ref (md 9), .ref (md 10), .ref (md 11), .ref (md 12), .ref (md 13), .ref (md 14), .ref (md 15), .int (nI (m_cached μ)), .int (nI (m_ocached μ)), .int (m_circ μ), .int (m_ocirc μ), .int (nI (m_thr μ)), .int (nI (m_wkr μ)), .int (nI (m_ran μ).toNat), .ref (md 23), .ref (md 24), .ref (md 25), .ref (md 26), .ref (md 27), .ref (md 28), .ref (md 29), .ref (md 30), .ref (md 31), .ref (md 32), .ref (md 33), .ref (md 34), .int (nI (m_hgt μ))])) := by rw [ew97, va_up_ne _ _ (hj.ne (i := 36) (j := 34) (by decide) (by decide) (by decide))]; exact r36
                refine va_get (D := (dC, dI)) (ci := 5) (v := .ref (md 32)) (C := R_D) (T := F_D) (N := 36) hx hb hg in_D hown hK (hP.one r36) 0 rfl rfl 32 (by decide) (hg _ k_623) (fun _ h9 => h9) rfl d_D_take_127 ?_
                refine lv_iload_n hx hb d_D_take_130 rfl (lv_at hl 2 rfl) ?_
                refine lv_dup2_11 hx hb d_D_take_131 rfl rfl ?_
                have r32 : w96 (md 32) = some (.inl (dA 0, 13, .inl (nf (m_asked μ)))) := by rw [ew97, va_up_ne _ _ (hj.ne (i := 32) (j := 34) (by decide) (by decide) (by decide))]; exact r32
                refine fw_iald (tys := tyl dA) hx hb hK hP r32 0 rfl (j := f) (by omega) (by decide) d_D_take_132 ?_
                refine lv_iconst (v := (nI 1)) hx hb d_D_take_133 (by decide) ?_
                refine nu_iadd (r := (m_asked μ) f + 1) hx hb d_D_take_134 (by omega) ?_
                refine fw_iast (tys := tyl dA) hx hb hK hP hS r32 0 rfl (j := f) (x := (nI ((m_asked μ) f + 1))) (by omega) (by decide) d_D_take_135 (fun w99 H locs ew100 hP hS => ?_)
                rw [nf_up] at ew100
                have r32 : w99 (md 32) = some (.inl (dA 0, 13, .inl (nf (va_up (m_asked μ) f ((m_asked μ) f + 1))))) := by rw [ew100]; exact va_up_self _ _ _
                have ho101 : OutD md w w99 := OutD.up ho98 ew100 (by decide)
                have hk102 : ∀ i, U37 i → i ∉ [32] → w99 (md i) = w96 (md i) := fun i hi hn => by rw [ew100, va_up_ne _ _ (hj.ne hi (j := 32) (by decide) (fun e9 => hn (by rw [e9]; decide)))]
                have hk103 : ∀ i, U37 i → i ∉ [32, 33, 34] → w99 (md i) = w (md i) := fun i hi hn => by rw [ew100, va_up_ne _ _ (hj.ne hi (j := 32) (by decide) (fun e9 => hn (by rw [e9]; decide))), ew97, va_up_ne _ _ (hj.ne hi (j := 34) (by decide) (fun e9 => hn (by rw [e9]; decide))), ew58, va_up_ne _ _ (hj.ne hi (j := 33) (by decide) (fun e9 => hn (by rw [e9]; decide)))]
                have hk104 : ∀ i, U37 i → i ∉ [32, 34] → w99 (md i) = w57 (md i) := fun i hi hn => by rw [ew100, va_up_ne _ _ (hj.ne hi (j := 32) (by decide) (fun e9 => hn (by rw [e9]; decide))), ew97, va_up_ne _ _ (hj.ne hi (j := 34) (by decide) (fun e9 => hn (by rw [e9]; decide)))]
                exact W.vret hx hb hr (fun tS ht hW => ⟨⟨w99, rfl, (by rw [show dTake f v μ = (((m_sort μ), (m_rule μ), m_parts μ, m_inp μ), ((m_size μ), (m_keys μ), (m_own μ), m_got μ, m_came μ), (m_trc μ, (m_cch μ), m_cached μ, m_cnt μ, (m_circ μ)), (m_otrc μ, (m_occh μ), m_ocached μ, m_ocnt μ, (m_ocirc μ)), (m_thr μ, m_wkr μ, (m_ran μ), (m_st μ), m_val μ), ((m_key μ), (m_ph μ), m_chk μ, (m_at μ), (m_cand μ), (m_cc μ), (m_mk μ), (va_up (m_asked μ) f ((m_asked μ) f + 1)), vp_updL (m_first μ) f v, vp_updL (m_sum μ) f v, m_hgt μ)) from (by unfold dTake; rw [show dFst (m_asked μ f) f v (m_first μ) = vp_updL (m_first μ) f v from if_pos c1, show dAcc (m_rule μ (m_key μ f)) (m_asked μ f) (m_sum μ f) v = _ from ((((if_neg (fun h9 => h9.elim c2 c3)).trans (if_neg c4)).trans (if_pos c5)).trans (if_pos (Or.inr (Int64.not_le.mp (fun h8 => c7 ((lg_cmp_le _ _).mpr h8))))))] <;> rfl)]; exact ⟨⟨(hk102 36 (by decide) (by decide)).trans r36, (hk103 0 (by decide) (by decide)).trans r0, (hk103 1 (by decide) (by decide)).trans r1, (hk103 2 (by decide) (by decide)).trans r2, (hk103 3 (by decide) (by decide)).trans r3, (hk103 4 (by decide) (by decide)).trans r4, (hk103 5 (by decide) (by decide)).trans r5, (hk103 6 (by decide) (by decide)).trans r6, (hk103 7 (by decide) (by decide)).trans r7, (hk103 8 (by decide) (by decide)).trans r8, ⟨_, (hk103 9 (by decide) (by decide)).trans r9⟩, (hk103 10 (by decide) (by decide)).trans r10, (hk103 11 (by decide) (by decide)).trans r11, (hk103 12 (by decide) (by decide)).trans r12, (hk103 13 (by decide) (by decide)).trans r13, (hk103 14 (by decide) (by decide)).trans r14, (hk103 15 (by decide) (by decide)).trans r15, (hk103 23 (by decide) (by decide)).trans r23, (hk103 24 (by decide) (by decide)).trans r24, (hk103 25 (by decide) (by decide)).trans r25, (hk103 26 (by decide) (by decide)).trans r26, (hk103 27 (by decide) (by decide)).trans r27, (hk103 28 (by decide) (by decide)).trans r28, (hk103 29 (by decide) (by decide)).trans r29, (hk103 30 (by decide) (by decide)).trans r30, (hk103 31 (by decide) (by decide)).trans r31, r32, (hk104 33 (by decide) (by decide)).trans r33, (hk102 34 (by decide) (by decide)).trans r34⟩, ho101⟩), mB_of ht hP⟩, hS.F ht⟩) hS.2.2 d_D_take_136
        · refine lv_aload_n hx hb d_D_take_60 rfl (lv_at hl 1 rfl) ?_
          have r36 : w57 (md 36) = some (.inr (5, [.ref (md 0), .ref (md 1), .ref (md 2), .ref (md 3), .ref (md 4), .ref (md 5), .ref (md 6), .ref (md 7), .ref (md 8), .ref (md 9), .ref (md 10), .ref (md 11), .ref (md 12), .ref (md 13), .ref (md 14), .ref (md 15), .int (nI (m_cached μ)), .int (nI (m_ocached μ)), .int (m_circ μ), .int (m_ocirc μ), .int (nI (m_thr μ)), .int (nI (m_wkr μ)), .int (nI (m_ran μ).toNat), .ref (md 23), .ref (md 24), .ref (md 25), .ref (md 26), .ref (md 27), .ref (md 28), .ref (md 29), .ref (md 30), .ref (md 31), .ref (md 32), .ref (md 33), .ref (md 34), .int (nI (m_hgt μ))])) := by rw [ew58, va_up_ne _ _ (hj.ne (i := 36) (j := 33) (by decide) (by decide) (by decide))]; exact r36
          refine va_get (D := (dC, dI)) (ci := 5) (v := .ref (md 34)) (C := R_D) (T := F_D) (N := 36) hx hb hg in_D hown hK (hP.one r36) 0 rfl rfl 34 (by decide) (hg _ k_625) (fun _ h9 => h9) rfl d_D_take_61 ?_
          refine lv_iload_n hx hb d_D_take_64 rfl (lv_at hl 2 rfl) ?_
          refine lv_dup2_11 hx hb d_D_take_65 rfl rfl ?_
          have r34 : w57 (md 34) = some (.inl (dA 1, 13, .inr (.inl (m_sum μ)))) := by rw [ew58, va_up_ne _ _ (hj.ne (i := 34) (j := 33) (by decide) (by decide) (by decide))]; exact r34
          refine fw_lald (tys := tyl dA) hx hb hK hP r34 1 rfl (j := f) (by omega) (by decide) d_D_take_66 ?_
          refine lv_lload_n hx hb d_D_take_67 rfl (lv_at hl 3 rfl) ?_
          refine lv_lmul hx hb d_D_take_68 ?_
          refine fw_last (tys := tyl dA) hx hb hK hP hS r34 1 rfl (j := f) (by omega) (by decide) d_D_take_69 (fun w105 H locs ew106 hP hS => ?_)
          have r34 : w105 (md 34) = some (.inl (dA 1, 13, .inr (.inl (vp_updL (m_sum μ) f (((m_sum μ) f) * v))))) := by rw [ew106]; exact va_up_self _ _ _
          have ho107 : OutD md w w105 := OutD.up ho59 ew106 (by decide)
          refine lv_goto (tgt := 126) hx hb d_D_take_70 (by decide) ?_
          refine lv_aload_n hx hb d_D_take_126 rfl (lv_at hl 1 rfl) ?_
          have r36 : w105 (md 36) = some (.inr (5, [.ref (md 0), .ref (md 1), .ref (md 2), .ref (md 3), .ref (md 4), .ref (md 5), .ref (md 6), .ref (md 7), .ref (md 8), .ref (md 9), .ref (md 10), .ref (md 11), .ref (md 12), .ref (md 13), .ref (md 14), .ref (md 15), .int (nI (m_cached μ)), .int (nI (m_ocached μ)), .int (m_circ μ), .int (m_ocirc μ), .int (nI (m_thr μ)), .int (nI (m_wkr μ)), .int (nI (m_ran μ).toNat), .ref (md 23), .ref (md 24), .ref (md 25), .ref (md 26), .ref (md 27), .ref (md 28), .ref (md 29), .ref (md 30), .ref (md 31), .ref (md 32), .ref (md 33), .ref (md 34), .int (nI (m_hgt μ))])) := by rw [ew106, va_up_ne _ _ (hj.ne (i := 36) (j := 34) (by decide) (by decide) (by decide))]; exact r36
          refine va_get (D := (dC, dI)) (ci := 5) (v := .ref (md 32)) (C := R_D) (T := F_D) (N := 36) hx hb hg in_D hown hK (hP.one r36) 0 rfl rfl 32 (by decide) (hg _ k_623) (fun _ h9 => h9) rfl d_D_take_127 ?_
          refine lv_iload_n hx hb d_D_take_130 rfl (lv_at hl 2 rfl) ?_
          refine lv_dup2_11 hx hb d_D_take_131 rfl rfl ?_
          have r32 : w105 (md 32) = some (.inl (dA 0, 13, .inl (nf (m_asked μ)))) := by rw [ew106, va_up_ne _ _ (hj.ne (i := 32) (j := 34) (by decide) (by decide) (by decide)), ew58, va_up_ne _ _ (hj.ne (i := 32) (j := 33) (by decide) (by decide) (by decide))]; exact r32
          refine fw_iald (tys := tyl dA) hx hb hK hP r32 0 rfl (j := f) (by omega) (by decide) d_D_take_132 ?_
          refine lv_iconst (v := (nI 1)) hx hb d_D_take_133 (by decide) ?_
          refine nu_iadd (r := (m_asked μ) f + 1) hx hb d_D_take_134 (by omega) ?_
          refine fw_iast (tys := tyl dA) hx hb hK hP hS r32 0 rfl (j := f) (x := (nI ((m_asked μ) f + 1))) (by omega) (by decide) d_D_take_135 (fun w108 H locs ew109 hP hS => ?_)
          rw [nf_up] at ew109
          have r32 : w108 (md 32) = some (.inl (dA 0, 13, .inl (nf (va_up (m_asked μ) f ((m_asked μ) f + 1))))) := by rw [ew109]; exact va_up_self _ _ _
          have ho110 : OutD md w w108 := OutD.up ho107 ew109 (by decide)
          have hk111 : ∀ i, U37 i → i ∉ [32] → w108 (md i) = w105 (md i) := fun i hi hn => by rw [ew109, va_up_ne _ _ (hj.ne hi (j := 32) (by decide) (fun e9 => hn (by rw [e9]; decide)))]
          have hk112 : ∀ i, U37 i → i ∉ [32, 33, 34] → w108 (md i) = w (md i) := fun i hi hn => by rw [ew109, va_up_ne _ _ (hj.ne hi (j := 32) (by decide) (fun e9 => hn (by rw [e9]; decide))), ew106, va_up_ne _ _ (hj.ne hi (j := 34) (by decide) (fun e9 => hn (by rw [e9]; decide))), ew58, va_up_ne _ _ (hj.ne hi (j := 33) (by decide) (fun e9 => hn (by rw [e9]; decide)))]
          have hk113 : ∀ i, U37 i → i ∉ [32, 34] → w108 (md i) = w57 (md i) := fun i hi hn => by rw [ew109, va_up_ne _ _ (hj.ne hi (j := 32) (by decide) (fun e9 => hn (by rw [e9]; decide))), ew106, va_up_ne _ _ (hj.ne hi (j := 34) (by decide) (fun e9 => hn (by rw [e9]; decide)))]
          exact W.vret hx hb hr (fun tS ht hW => ⟨⟨w108, rfl, (by rw [show dTake f v μ = (((m_sort μ), (m_rule μ), m_parts μ, m_inp μ), ((m_size μ), (m_keys μ), (m_own μ), m_got μ, m_came μ), (m_trc μ, (m_cch μ), m_cached μ, m_cnt μ, (m_circ μ)), (m_otrc μ, (m_occh μ), m_ocached μ, m_ocnt μ, (m_ocirc μ)), (m_thr μ, m_wkr μ, (m_ran μ), (m_st μ), m_val μ), ((m_key μ), (m_ph μ), m_chk μ, (m_at μ), (m_cand μ), (m_cc μ), (m_mk μ), (va_up (m_asked μ) f ((m_asked μ) f + 1)), vp_updL (m_first μ) f v, vp_updL (m_sum μ) f (((m_sum μ) f) * v), m_hgt μ)) from (by unfold dTake; rw [show dFst (m_asked μ f) f v (m_first μ) = vp_updL (m_first μ) f v from if_pos c1, show dAcc (m_rule μ (m_key μ f)) (m_asked μ f) (m_sum μ f) v = _ from ((if_neg (fun h9 => h9.elim c2 c3)).trans (if_pos c4))] <;> rfl)]; exact ⟨⟨(hk111 36 (by decide) (by decide)).trans r36, (hk112 0 (by decide) (by decide)).trans r0, (hk112 1 (by decide) (by decide)).trans r1, (hk112 2 (by decide) (by decide)).trans r2, (hk112 3 (by decide) (by decide)).trans r3, (hk112 4 (by decide) (by decide)).trans r4, (hk112 5 (by decide) (by decide)).trans r5, (hk112 6 (by decide) (by decide)).trans r6, (hk112 7 (by decide) (by decide)).trans r7, (hk112 8 (by decide) (by decide)).trans r8, ⟨_, (hk112 9 (by decide) (by decide)).trans r9⟩, (hk112 10 (by decide) (by decide)).trans r10, (hk112 11 (by decide) (by decide)).trans r11, (hk112 12 (by decide) (by decide)).trans r12, (hk112 13 (by decide) (by decide)).trans r13, (hk112 14 (by decide) (by decide)).trans r14, (hk112 15 (by decide) (by decide)).trans r15, (hk112 23 (by decide) (by decide)).trans r23, (hk112 24 (by decide) (by decide)).trans r24, (hk112 25 (by decide) (by decide)).trans r25, (hk112 26 (by decide) (by decide)).trans r26, (hk112 27 (by decide) (by decide)).trans r27, (hk112 28 (by decide) (by decide)).trans r28, (hk112 29 (by decide) (by decide)).trans r29, (hk112 30 (by decide) (by decide)).trans r30, (hk112 31 (by decide) (by decide)).trans r31, r32, (hk113 33 (by decide) (by decide)).trans r33, (hk111 34 (by decide) (by decide)).trans r34⟩, ho110⟩), mB_of ht hP⟩, hS.F ht⟩) hS.2.2 d_D_take_136
      · refine lv_aload_n hx hb d_D_take_41 rfl (lv_at hl 1 rfl) ?_
        have r36 : w57 (md 36) = some (.inr (5, [.ref (md 0), .ref (md 1), .ref (md 2), .ref (md 3), .ref (md 4), .ref (md 5), .ref (md 6), .ref (md 7), .ref (md 8), .ref (md 9), .ref (md 10), .ref (md 11), .ref (md 12), .ref (md 13), .ref (md 14), .ref (md 15), .int (nI (m_cached μ)), .int (nI (m_ocached μ)), .int (m_circ μ), .int (m_ocirc μ), .int (nI (m_thr μ)), .int (nI (m_wkr μ)), .int (nI (m_ran μ).toNat), .ref (md 23), .ref (md 24), .ref (md 25), .ref (md 26), .ref (md 27), .ref (md 28), .ref (md 29), .ref (md 30), .ref (md 31), .ref (md 32), .ref (md 33), .ref (md 34), .int (nI (m_hgt μ))])) := by rw [ew58, va_up_ne _ _ (hj.ne (i := 36) (j := 33) (by decide) (by decide) (by decide))]; exact r36
        refine va_get (D := (dC, dI)) (ci := 5) (v := .ref (md 34)) (C := R_D) (T := F_D) (N := 36) hx hb hg in_D hown hK (hP.one r36) 0 rfl rfl 34 (by decide) (hg _ k_625) (fun _ h9 => h9) rfl d_D_take_42 ?_
        refine lv_iload_n hx hb d_D_take_45 rfl (lv_at hl 2 rfl) ?_
        refine lv_dup2_11 hx hb d_D_take_46 rfl rfl ?_
        have r34 : w57 (md 34) = some (.inl (dA 1, 13, .inr (.inl (m_sum μ)))) := by rw [ew58, va_up_ne _ _ (hj.ne (i := 34) (j := 33) (by decide) (by decide) (by decide))]; exact r34
        refine fw_lald (tys := tyl dA) hx hb hK hP r34 1 rfl (j := f) (by omega) (by decide) d_D_take_47 ?_
        refine lv_lload_n hx hb d_D_take_48 rfl (lv_at hl 3 rfl) ?_
        refine lv_ladd hx hb d_D_take_49 ?_
        refine fw_last (tys := tyl dA) hx hb hK hP hS r34 1 rfl (j := f) (by omega) (by decide) d_D_take_50 (fun w114 H locs ew115 hP hS => ?_)
        have r34 : w114 (md 34) = some (.inl (dA 1, 13, .inr (.inl (vp_updL (m_sum μ) f (((m_sum μ) f) + v))))) := by rw [ew115]; exact va_up_self _ _ _
        have ho116 : OutD md w w114 := OutD.up ho59 ew115 (by decide)
        refine lv_goto (tgt := 126) hx hb d_D_take_51 (by decide) ?_
        refine lv_aload_n hx hb d_D_take_126 rfl (lv_at hl 1 rfl) ?_
        have r36 : w114 (md 36) = some (.inr (5, [.ref (md 0), .ref (md 1), .ref (md 2), .ref (md 3), .ref (md 4), .ref (md 5), .ref (md 6), .ref (md 7), .ref (md 8), .ref (md 9), .ref (md 10), .ref (md 11), .ref (md 12), .ref (md 13), .ref (md 14), .ref (md 15), .int (nI (m_cached μ)), .int (nI (m_ocached μ)), .int (m_circ μ), .int (m_ocirc μ), .int (nI (m_thr μ)), .int (nI (m_wkr μ)), .int (nI (m_ran μ).toNat), .ref (md 23), .ref (md 24), .ref (md 25), .ref (md 26), .ref (md 27), .ref (md 28), .ref (md 29), .ref (md 30), .ref (md 31), .ref (md 32), .ref (md 33), .ref (md 34), .int (nI (m_hgt μ))])) := by rw [ew115, va_up_ne _ _ (hj.ne (i := 36) (j := 34) (by decide) (by decide) (by decide))]; exact r36
        refine va_get (D := (dC, dI)) (ci := 5) (v := .ref (md 32)) (C := R_D) (T := F_D) (N := 36) hx hb hg in_D hown hK (hP.one r36) 0 rfl rfl 32 (by decide) (hg _ k_623) (fun _ h9 => h9) rfl d_D_take_127 ?_
        refine lv_iload_n hx hb d_D_take_130 rfl (lv_at hl 2 rfl) ?_
        refine lv_dup2_11 hx hb d_D_take_131 rfl rfl ?_
        have r32 : w114 (md 32) = some (.inl (dA 0, 13, .inl (nf (m_asked μ)))) := by rw [ew115, va_up_ne _ _ (hj.ne (i := 32) (j := 34) (by decide) (by decide) (by decide)), ew58, va_up_ne _ _ (hj.ne (i := 32) (j := 33) (by decide) (by decide) (by decide))]; exact r32
        refine fw_iald (tys := tyl dA) hx hb hK hP r32 0 rfl (j := f) (by omega) (by decide) d_D_take_132 ?_
        refine lv_iconst (v := (nI 1)) hx hb d_D_take_133 (by decide) ?_
        refine nu_iadd (r := (m_asked μ) f + 1) hx hb d_D_take_134 (by omega) ?_
        refine fw_iast (tys := tyl dA) hx hb hK hP hS r32 0 rfl (j := f) (x := (nI ((m_asked μ) f + 1))) (by omega) (by decide) d_D_take_135 (fun w117 H locs ew118 hP hS => ?_)
        rw [nf_up] at ew118
        have r32 : w117 (md 32) = some (.inl (dA 0, 13, .inl (nf (va_up (m_asked μ) f ((m_asked μ) f + 1))))) := by rw [ew118]; exact va_up_self _ _ _
        have ho119 : OutD md w w117 := OutD.up ho116 ew118 (by decide)
        have hk120 : ∀ i, U37 i → i ∉ [32] → w117 (md i) = w114 (md i) := fun i hi hn => by rw [ew118, va_up_ne _ _ (hj.ne hi (j := 32) (by decide) (fun e9 => hn (by rw [e9]; decide)))]
        have hk121 : ∀ i, U37 i → i ∉ [32, 33, 34] → w117 (md i) = w (md i) := fun i hi hn => by rw [ew118, va_up_ne _ _ (hj.ne hi (j := 32) (by decide) (fun e9 => hn (by rw [e9]; decide))), ew115, va_up_ne _ _ (hj.ne hi (j := 34) (by decide) (fun e9 => hn (by rw [e9]; decide))), ew58, va_up_ne _ _ (hj.ne hi (j := 33) (by decide) (fun e9 => hn (by rw [e9]; decide)))]
        have hk122 : ∀ i, U37 i → i ∉ [32, 34] → w117 (md i) = w57 (md i) := fun i hi hn => by rw [ew118, va_up_ne _ _ (hj.ne hi (j := 32) (by decide) (fun e9 => hn (by rw [e9]; decide))), ew115, va_up_ne _ _ (hj.ne hi (j := 34) (by decide) (fun e9 => hn (by rw [e9]; decide)))]
        exact W.vret hx hb hr (fun tS ht hW => ⟨⟨w117, rfl, (by rw [show dTake f v μ = (((m_sort μ), (m_rule μ), m_parts μ, m_inp μ), ((m_size μ), (m_keys μ), (m_own μ), m_got μ, m_came μ), (m_trc μ, (m_cch μ), m_cached μ, m_cnt μ, (m_circ μ)), (m_otrc μ, (m_occh μ), m_ocached μ, m_ocnt μ, (m_ocirc μ)), (m_thr μ, m_wkr μ, (m_ran μ), (m_st μ), m_val μ), ((m_key μ), (m_ph μ), m_chk μ, (m_at μ), (m_cand μ), (m_cc μ), (m_mk μ), (va_up (m_asked μ) f ((m_asked μ) f + 1)), vp_updL (m_first μ) f v, vp_updL (m_sum μ) f (((m_sum μ) f) + v), m_hgt μ)) from (by unfold dTake; rw [show dFst (m_asked μ f) f v (m_first μ) = vp_updL (m_first μ) f v from if_pos c1, show dAcc (m_rule μ (m_key μ f)) (m_asked μ f) (m_sum μ f) v = _ from (if_pos (Or.inr c3))] <;> rfl)]; exact ⟨⟨(hk120 36 (by decide) (by decide)).trans r36, (hk121 0 (by decide) (by decide)).trans r0, (hk121 1 (by decide) (by decide)).trans r1, (hk121 2 (by decide) (by decide)).trans r2, (hk121 3 (by decide) (by decide)).trans r3, (hk121 4 (by decide) (by decide)).trans r4, (hk121 5 (by decide) (by decide)).trans r5, (hk121 6 (by decide) (by decide)).trans r6, (hk121 7 (by decide) (by decide)).trans r7, (hk121 8 (by decide) (by decide)).trans r8, ⟨_, (hk121 9 (by decide) (by decide)).trans r9⟩, (hk121 10 (by decide) (by decide)).trans r10, (hk121 11 (by decide) (by decide)).trans r11, (hk121 12 (by decide) (by decide)).trans r12, (hk121 13 (by decide) (by decide)).trans r13, (hk121 14 (by decide) (by decide)).trans r14, (hk121 15 (by decide) (by decide)).trans r15, (hk121 23 (by decide) (by decide)).trans r23, (hk121 24 (by decide) (by decide)).trans r24, (hk121 25 (by decide) (by decide)).trans r25, (hk121 26 (by decide) (by decide)).trans r26, (hk121 27 (by decide) (by decide)).trans r27, (hk121 28 (by decide) (by decide)).trans r28, (hk121 29 (by decide) (by decide)).trans r29, (hk121 30 (by decide) (by decide)).trans r30, (hk121 31 (by decide) (by decide)).trans r31, r32, (hk122 33 (by decide) (by decide)).trans r33, (hk120 34 (by decide) (by decide)).trans r34⟩, ho119⟩), mB_of ht hP⟩, hS.F ht⟩) hS.2.2 d_D_take_136
