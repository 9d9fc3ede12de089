def dEndC (r n : Nat) (fi v : Int64) : Nat := if r = 6 ∧ n = 0 then 2 else if (r = 3 ∨ r = 5) ∧ v = 0 then 3 else if r = 9 ∧ v < fi then 4 else 0
def dEndV (r : Nat) (fi v : Int64) : Int64 := if r = 3 then fi / v else if r = 5 then fi - fi / v * v else if r = 8 then 7 else if r = 9 then fi else v
def dEnd1 (f : Nat) (x : Nat → Nat) (c : Nat) (v : Int64) (μ : MS) : MS := u_mm (u_sl μ (m_size μ, m_keys μ, m_own μ, m_got μ, vp_updL (m_came μ) (m_mk μ f) v)) (upd (m_trc μ) (12 * m_wkr μ + m_key μ f) (nI (m_mk μ f)), x, c, upd (m_cnt μ) 3 (m_cnt μ 3 + nI 1), m_circ μ)
def dEnd0 (f : Nat) (v : Int64) (μ : MS) : MS := u_mm (u_sl μ (m_size μ, m_keys μ, m_own μ, m_got μ, vp_updL (m_came μ) (m_mk μ f) v)) (upd (m_trc μ) (12 * m_wkr μ + m_key μ f) (nI (m_mk μ f)), va_up (m_cch μ) (m_cached μ) (m_mk μ f), m_cached μ + 1, m_cnt μ, m_circ μ)
def dEnd (f : Nat) (x : Nat → Nat) (c : Nat) (v : Int64) (μ : MS) : MS := dFin f v (dEnd1 f x c v μ)
theorem lst_cut {x y : Nat → Nat} {m g : Nat} (h : ∀ i, i + g < m → x i = y (i + g)) : lstN x (m - g) = (lstN y m).drop g := by
  apply List.ext_getElem?
  intro i
  rw [List.getElem?_drop]
  by_cases hi : i < m - g
  · rw [lstN_at hi, h i (by omega), Nat.add_comm i g, lstN_at (by omega)]
  · rw [List.getElem?_eq_none (by rw [lstN_len]; omega), List.getElem?_eq_none (by rw [lstN_len]; omega)]
/-- what a frame that ends wants -/
def eOK (μ : MS) (f : Nat) : Prop := f < 12 ∧ m_key μ f < 12 ∧ m_rule μ (m_key μ f) < 10 ∧ m_mk μ f < 320 ∧ m_asked μ f < 100 ∧ m_thr μ = 0 ∧ m_wkr μ < 2 ∧ m_cached μ ≤ 16 ∧ 0 < m_hgt μ
set_option maxHeartbeats 4000000 in
set_option maxRecDepth 100000 in
theorem c_D_endG {l : Launch} {s0 : State} {dC : Nat → ClassId} {dI : Nat → Nat → Nat} {dA : Nat → ClassId} (B0 : BB s0 dC dI dA) (w : fw_W) (md : Nat → Nat) (μ : MS) (f : Nat) (hj : Inj37 md) (hD : RD dA md w μ) (hok : eOK μ f) (hC : dEndC (m_rule μ (m_key μ f)) (m_asked μ f) (m_first μ f) (m_sum μ f) = 0) : Met l y_D_end [.code y_D_end b_D_end 7 none] ({ frames := 1, cells := 0, slots := 0, locals := 40 }) (mP s0 dC dI w [.ref (md 36), .int (nI f)]) (mQv s0 dC dI (fun w' => (∃ (x : Nat → Nat) (c : Nat), RD dA md w' (dEnd f x c (dEndV (m_rule μ (m_key μ f)) (m_first μ f) (m_sum μ f)) μ) ∧ lstN x c = (lstN (m_cch μ) (m_cached μ) ++ [m_mk μ f]).drop (m_cached μ + 1 - 16)) ∧ OutD md w w')) 0 0 (AA s0) := by
  obtain ⟨e1, e2, e3, e4, e5, e6, e7, e8, e10⟩ := (id hok)
  have hr10 := e3
  refine mt_ofW B0 (by decide) (Nat.le_of_ble_eq_true rfl) (fun p e s m args below meth c ls hargs X hin hl hP => ?_)
  have X9 := X
  obtain ⟨hx, hb, hr, hml, hown, hg, hK, hn, hE, hlocks, hA⟩ := X9
  have hS : va_S (AA s0) s.heap s.heap [] := va_S.rf
  have hl : lv_has ls 7 [(0, .ref (md 36)), (1, .int (nI f))] := hl
  obtain ⟨r36, r0, r1, r2, r3, r4, r5, r6, r7, r8, ⟨u, r9⟩, r10, r11, r12, r13, r14, r15, r23, r24, r25, r26, r27, r28, r29, r30, r31, r32, r33, r34⟩ := (id hD)
  have tail : ∀ (v9 : Int64) (ls : Array Slot), lv_has ls 7 [(0, .ref (md 36)), (1, .int (nI f)), (2, .int (nI (m_key μ f))), (3, .int (nI (m_rule μ (m_key μ f)))), (4, .int (nI (m_mk μ f))), (5, .long v9)] → v9 = dEndV (m_rule μ (m_key μ f)) (m_first μ f) (m_sum μ f) → W p l e ({ frames := 1, cells := 0, slots := 0, locals := 40 }) s m args below meth c s.heap [] 0 0 (MQ below (mQv s0 dC dI (fun w' => (∃ (x : Nat → Nat) (c : Nat), RD dA md w' (dEnd f x c (dEndV (m_rule μ (m_key μ f)) (m_first μ f) (m_sum μ f)) μ) ∧ lstN x c = (lstN (m_cch μ) (m_cached μ) ++ [m_mk μ f]).drop (m_cached μ + 1 - 16)) ∧ OutD md w w')) args s 0 0 (AA s0)) (F0 m 160 ls []) := by
    intro v9 ls hl hv9
    refine lv_aload_n hx hb d_D_end_160 rfl (lv_at hl 0 rfl) ?_
    refine va_get (D := (dC, dI)) (ci := 5) (v := .ref (md 8)) (C := R_D) (T := F_D) (N := 36) hx hb hg in_D hown hK (hP.one r36) 0 rfl rfl 8 (by decide) (hg _ k_599) (fun _ h9 => h9) rfl d_D_end_161 ?_
    refine lv_iload hx hb d_D_end_164 (lv_at hl 4 rfl) ?_
    refine lv_lload hx hb d_D_end_166 (lv_at hl 5 rfl) ?_
    refine fw_last (tys := tyl dA) hx hb hK hP hS r8 1 rfl (j := m_mk μ f) (by omega) (by decide) d_D_end_168 (fun w1 H locs ew2 hP hS => ?_)
    have r8 : w1 (md 8) = some (.inl (dA 1, 320, .inr (.inl (vp_updL (m_came μ) (m_mk μ f) v9)))) := by rw [ew2]; exact va_up_self _ _ _
    have ho3 : OutD md w w1 := OutD.up OutD.rf ew2 (by decide)
    refine lv_aload_n hx hb d_D_end_169 rfl (lv_at hl 0 rfl) ?_
    have r36 : w1 (md 36) = some (.inr (5, [.ref (md 0), .ref (md 1), .ref (md 2), .ref (md 3), .ref (md 4), .ref (md 5), .ref (md 6), .ref (md 7), .ref (md 8), .ref (md 9), .ref (md 10), .ref (md 11), .ref (md 12), .ref (md 13), .ref (md 14), .ref (md 15), .int (nI (m_cached μ)), .int (nI (m_ocached μ)), .int (m_circ μ), .int (m_ocirc μ), .int (nI (m_thr μ)), .int (nI (m_wkr μ)), .int (nI (m_ran μ).toNat), .ref (md 23), .ref (md 24), .ref (md 25), .ref (md 26), .ref (md 27), .ref (md 28), .ref (md 29), .ref (md 30), .ref (md 31), .ref (md 32), .ref (md 33), .ref (md 34), .int (nI (m_hgt μ))])) := by rw [ew2, va_up_ne _ _ (hj.ne (i := 36) (j := 8) (by decide) (by decide) (by decide))]; exact r36
    refine va_get (D := (dC, dI)) (ci := 5) (v := .ref (md 10)) (C := R_D) (T := F_D) (N := 36) hx hb hg in_D hown hK (hP.one r36) 0 rfl rfl 10 (by decide) (hg _ k_601) (fun _ h9 => h9) rfl d_D_end_170 ?_
    refine lv_aload_n hx hb d_D_end_173 rfl (lv_at hl 0 rfl) ?_
    refine va_get (D := (dC, dI)) (ci := 5) (v := .int (nI (m_wkr μ))) (C := R_D) (T := F_D) (N := 36) hx hb hg in_D hown hK (hP.one r36) 0 rfl rfl 21 (by decide) (hg _ k_612) (fun _ h9 => h9) rfl d_D_end_174 ?_
    refine lv_bipush (v := (nI 12)) hx hb d_D_end_177 (by decide) ?_
    refine nu_imul (r := 12 * (m_wkr μ)) hx hb d_D_end_179 (by omega) ?_
    refine lv_iload_n hx hb d_D_end_180 rfl (lv_at hl 2 rfl) ?_
    refine nu_iadd (r := 12 * (m_wkr μ) + (m_key μ f)) hx hb d_D_end_181 (by omega) ?_
    refine lv_iload hx hb d_D_end_182 (lv_at hl 4 rfl) ?_
    have r10 : w1 (md 10) = some (.inl (dA 0, 24, .inl (m_trc μ))) := by rw [ew2, va_up_ne _ _ (hj.ne (i := 10) (j := 8) (by decide) (by decide) (by decide))]; exact r10
    refine fw_iast (tys := tyl dA) hx hb hK hP hS r10 0 rfl (j := 12 * (m_wkr μ) + (m_key μ f)) (x := (nI (m_mk μ f))) (by omega) (by decide) d_D_end_184 (fun w4 H locs ew5 hP hS => ?_)
    have r10 : w4 (md 10) = some (.inl (dA 0, 24, .inl (upd (m_trc μ) (12 * (m_wkr μ) + (m_key μ f)) (nI (m_mk μ f))))) := by rw [ew5]; exact va_up_self _ _ _
    have ho6 : OutD md w w4 := OutD.up ho3 ew5 (by decide)
    refine lv_aload_n hx hb d_D_end_185 rfl (lv_at hl 0 rfl) ?_
    have r36 : w4 (md 36) = some (.inr (5, [.ref (md 0), .ref (md 1), .ref (md 2), .ref (md 3), .ref (md 4), .ref (md 5), .ref (md 6), .ref (md 7), .ref (md 8), .ref (md 9), .ref (md 10), .ref (md 11), .ref (md 12), .ref (md 13), .ref (md 14), .ref (md 15), .int (nI (m_cached μ)), .int (nI (m_ocached μ)), .int (m_circ μ), .int (m_ocirc μ), .int (nI (m_thr μ)), .int (nI (m_wkr μ)), .int (nI (m_ran μ).toNat), .ref (md 23), .ref (md 24), .ref (md 25), .ref (md 26), .ref (md 27), .ref (md 28), .ref (md 29), .ref (md 30), .ref (md 31), .ref (md 32), .ref (md 33), .ref (md 34), .int (nI (m_hgt μ))])) := by rw [ew5, va_up_ne _ _ (hj.ne (i := 36) (j := 10) (by decide) (by decide) (by decide))]; exact r36
    refine va_get (D := (dC, dI)) (ci := 5) (v := .ref (md 12)) (C := R_D) (T := F_D) (N := 36) hx hb hg in_D hown hK (hP.one r36) 0 rfl rfl 12 (by decide) (hg _ k_603) (fun _ h9 => h9) rfl d_D_end_186 ?_
    refine lv_aload_n hx hb d_D_end_189 rfl (lv_at hl 0 rfl) ?_
    refine va_get (D := (dC, dI)) (ci := 5) (v := .int (nI (m_cached μ))) (C := R_D) (T := F_D) (N := 36) hx hb hg in_D hown hK (hP.one r36) 0 rfl rfl 16 (by decide) (hg _ k_607) (fun _ h9 => h9) rfl d_D_end_190 ?_
    refine lv_iload hx hb d_D_end_193 (lv_at hl 4 rfl) ?_
    have r12 : w4 (md 12) = some (.inl (dA 0, 17, .inl (nf (m_cch μ)))) := by rw [ew5, va_up_ne _ _ (hj.ne (i := 12) (j := 10) (by decide) (by decide) (by decide)), ew2, va_up_ne _ _ (hj.ne (i := 12) (j := 8) (by decide) (by decide) (by decide))]; exact r12
    refine fw_iast (tys := tyl dA) hx hb hK hP hS r12 0 rfl (j := m_cached μ) (x := (nI (m_mk μ f))) (by omega) (by decide) d_D_end_195 (fun w7 H locs ew8 hP hS => ?_)
    rw [nf_up] at ew8
    have r12 : w7 (md 12) = some (.inl (dA 0, 17, .inl (nf (va_up (m_cch μ) (m_cached μ) (m_mk μ f))))) := by rw [ew8]; exact va_up_self _ _ _
    have ho9 : OutD md w w7 := OutD.up ho6 ew8 (by decide)
    refine lv_aload_n hx hb d_D_end_196 rfl (lv_at hl 0 rfl) ?_
    refine lv_dup hx hb d_D_end_197 rfl ?_
    have r36 : w7 (md 36) = some (.inr (5, [.ref (md 0), .ref (md 1), .ref (md 2), .ref (md 3), .ref (md 4), .ref (md 5), .ref (md 6), .ref (md 7), .ref (md 8), .ref (md 9), .ref (md 10), .ref (md 11), .ref (md 12), .ref (md 13), .ref (md 14), .ref (md 15), .int (nI (m_cached μ)), .int (nI (m_ocached μ)), .int (m_circ μ), .int (m_ocirc μ), .int (nI (m_thr μ)), .int (nI (m_wkr μ)), .int (nI (m_ran μ).toNat), .ref (md 23), .ref (md 24), .ref (md 25), .ref (md 26), .ref (md 27), .ref (md 28), .ref (md 29), .ref (md 30), .ref (md 31), .ref (md 32), .ref (md 33), .ref (md 34), .int (nI (m_hgt μ))])) := by rw [ew8, va_up_ne _ _ (hj.ne (i := 36) (j := 12) (by decide) (by decide) (by decide))]; exact r36
    refine va_get (D := (dC, dI)) (ci := 5) (v := .int (nI (m_cached μ))) (C := R_D) (T := F_D) (N := 36) hx hb hg in_D hown hK (hP.one r36) 0 rfl rfl 16 (by decide) (hg _ k_607) (fun _ h9 => h9) rfl d_D_end_198 ?_
    refine lv_iconst (v := (nI 1)) hx hb d_D_end_201 (by decide) ?_
    refine nu_iadd (r := m_cached μ + 1) hx hb d_D_end_202 (by omega) ?_
    refine fw_put (D := (dC, dI)) (ci := 5) (v := .int (nI (m_cached μ + 1))) (ty := .int) (C := R_D) (T := F_D) (N := 36) hx hb hg in_D ft_D ft_D_ok n_D hown hK hP hS r36 rfl 16 (by decide) (hg _ k_607) (fun _ h9 => h9) rfl (by decide +kernel) rfl rfl (Nat.le_of_ble_eq_true rfl) d_D_end_203 (fun w10 H locs ew11 hP hS => ?_)
    have r36 : w10 (md 36) = some (.inr (5, [.ref (md 0), .ref (md 1), .ref (md 2), .ref (md 3), .ref (md 4), .ref (md 5), .ref (md 6), .ref (md 7), .ref (md 8), .ref (md 9), .ref (md 10), .ref (md 11), .ref (md 12), .ref (md 13), .ref (md 14), .ref (md 15), .int (nI (m_cached μ + 1)), .int (nI (m_ocached μ)), .int (m_circ μ), .int (m_ocirc μ), .int (nI (m_thr μ)), .int (nI (m_wkr μ)), .int (nI (m_ran μ).toNat), .ref (md 23), .ref (md 24), .ref (md 25), .ref (md 26), .ref (md 27), .ref (md 28), .ref (md 29), .ref (md 30), .ref (md 31), .ref (md 32), .ref (md 33), .ref (md 34), .int (nI (m_hgt μ))])) := by rw [ew11]; exact va_up_self _ _ _
    have ho12 : OutD md w w10 := OutD.up ho9 ew11 (by decide)
    refine lv_aload_n hx hb d_D_end_206 rfl (lv_at hl 0 rfl) ?_
    refine va_get (D := (dC, dI)) (ci := 5) (v := .int (nI (m_cached μ + 1))) (C := R_D) (T := F_D) (N := 36) hx hb hg in_D hown hK (hP.one r36) 0 rfl rfl 16 (by decide) (hg _ k_607) (fun _ h9 => h9) rfl d_D_end_207 ?_
    refine lv_bipush (v := (nI 16)) hx hb d_D_end_210 (by decide) ?_
    refine nu_le (tgt := 222) hx hb (by omega) (by omega) d_D_end_212 (by decide) (fun c1 => ?_) (fun c1 => ?_)
    · refine lv_aload_n hx hb d_D_end_222 rfl (lv_at hl 0 rfl) ?_
      refine va_get (D := (dC, dI)) (ci := 5) (v := .ref (md 14)) (C := R_D) (T := F_D) (N := 36) hx hb hg in_D hown hK (hP.one r36) 0 rfl rfl 14 (by decide) (hg _ k_605) (fun _ h9 => h9) rfl d_D_end_223 ?_
      refine lv_iconst (v := (nI 3)) hx hb d_D_end_226 (by decide) ?_
      refine lv_dup2_11 hx hb d_D_end_227 rfl rfl ?_
      have r14 : w10 (md 14) = some (.inl (dA 0, 7, .inl (m_cnt μ))) := by rw [ew11, va_up_ne _ _ (hj.ne (i := 14) (j := 36) (by decide) (by decide) (by decide)), ew8, va_up_ne _ _ (hj.ne (i := 14) (j := 12) (by decide) (by decide) (by decide)), ew5, va_up_ne _ _ (hj.ne (i := 14) (j := 10) (by decide) (by decide) (by decide)), ew2, va_up_ne _ _ (hj.ne (i := 14) (j := 8) (by decide) (by decide) (by decide))]; exact r14
      refine fw_iald (tys := tyl dA) hx hb hK hP r14 0 rfl (j := 3) (by omega) (by decide) d_D_end_228 ?_
      refine lv_iconst (v := (nI 1)) hx hb d_D_end_229 (by decide) ?_
      refine lv_iadd hx hb d_D_end_230 ?_
      refine fw_iast (tys := tyl dA) hx hb hK hP hS r14 0 rfl (j := 3) (x := (((m_cnt μ) 3) + (nI 1))) (by omega) (by decide) d_D_end_231 (fun w13 H locs ew14 hP hS => ?_)
      have r14 : w13 (md 14) = some (.inl (dA 0, 7, .inl (upd (m_cnt μ) 3 (((m_cnt μ) 3) + (nI 1))))) := by rw [ew14]; exact va_up_self _ _ _
      have ho15 : OutD md w w13 := OutD.up ho12 ew14 (by decide)
      refine lv_aload_n hx hb d_D_end_232 rfl (lv_at hl 0 rfl) ?_
      refine lv_iload_n hx hb d_D_end_233 rfl (lv_at hl 1 rfl) ?_
      refine lv_lload hx hb d_D_end_234 (lv_at hl 5 rfl) ?_
      have hk16 : ∀ i, U37 i → i ∉ [14] → w13 (md i) = w10 (md i) := fun i hi hn => by rw [ew14, va_up_ne _ _ (hj.ne hi (j := 14) (by decide) (fun e9 => hn (by rw [e9]; decide)))]
      have hk17 : ∀ i, U37 i → i ∉ [8, 10, 12, 14, 36] → w13 (md i) = w (md i) := fun i hi hn => by rw [ew14, va_up_ne _ _ (hj.ne hi (j := 14) (by decide) (fun e9 => hn (by rw [e9]; decide))), ew11, va_up_ne _ _ (hj.ne hi (j := 36) (by decide) (fun e9 => hn (by rw [e9]; decide))), ew8, va_up_ne _ _ (hj.ne hi (j := 12) (by decide) (fun e9 => hn (by rw [e9]; decide))), ew5, va_up_ne _ _ (hj.ne hi (j := 10) (by decide) (fun e9 => hn (by rw [e9]; decide))), ew2, va_up_ne _ _ (hj.ne hi (j := 8) (by decide) (fun e9 => hn (by rw [e9]; decide)))]
      have hk18 : ∀ i, U37 i → i ∉ [10, 12, 14, 36] → w13 (md i) = w1 (md i) := fun i hi hn => by rw [ew14, va_up_ne _ _ (hj.ne hi (j := 14) (by decide) (fun e9 => hn (by rw [e9]; decide))), ew11, va_up_ne _ _ (hj.ne hi (j := 36) (by decide) (fun e9 => hn (by rw [e9]; decide))), ew8, va_up_ne _ _ (hj.ne hi (j := 12) (by decide) (fun e9 => hn (by rw [e9]; decide))), ew5, va_up_ne _ _ (hj.ne hi (j := 10) (by decide) (fun e9 => hn (by rw [e9]; decide)))]
      have hk19 : ∀ i, U37 i → i ∉ [12, 14, 36] → w13 (md i) = w4 (md i) := fun i hi hn => by rw [ew14, va_up_ne _ _ (hj.ne hi (j := 14) (by decide) (fun e9 => hn (by rw [e9]; decide))), ew11, va_up_ne _ _ (hj.ne hi (j := 36) (by decide) (fun e9 => hn (by rw [e9]; decide))), ew8, va_up_ne _ _ (hj.ne hi (j := 12) (by decide) (fun e9 => hn (by rw [e9]; decide)))]
      have hk20 : ∀ i, U37 i → i ∉ [14, 36] → w13 (md i) = w7 (md i) := fun i hi hn => by rw [ew14, va_up_ne _ _ (hj.ne hi (j := 14) (by decide) (fun e9 => hn (by rw [e9]; decide))), ew11, va_up_ne _ _ (hj.ne hi (j := 36) (by decide) (fun e9 => hn (by rw [e9]; decide)))]
      have hRq : RD dA md w13 (dEnd1 f (va_up (m_cch μ) (m_cached μ) (m_mk μ f)) (m_cached μ + 1) v9 μ) := ⟨(hk16 36 (by decide) (by decide)).trans r36, (hk17 0 (by decide) (by decide)).trans r0, (hk17 1 (by decide) (by decide)).trans r1, (hk17 2 (by decide) (by decide)).trans r2, (hk17 3 (by decide) (by decide)).trans r3, (hk17 4 (by decide) (by decide)).trans r4, (hk17 5 (by decide) (by decide)).trans r5, (hk17 6 (by decide) (by decide)).trans r6, (hk17 7 (by decide) (by decide)).trans r7, (hk18 8 (by decide) (by decide)).trans r8, ⟨_, (hk17 9 (by decide) (by decide)).trans r9⟩, (hk19 10 (by decide) (by decide)).trans r10, (hk17 11 (by decide) (by decide)).trans r11, (hk20 12 (by decide) (by decide)).trans r12, (hk17 13 (by decide) (by decide)).trans r13, r14, (hk17 15 (by decide) (by decide)).trans r15, (hk17 23 (by decide) (by decide)).trans r23, (hk17 24 (by decide) (by decide)).trans r24, (hk17 25 (by decide) (by decide)).trans r25, (hk17 26 (by decide) (by decide)).trans r26, (hk17 27 (by decide) (by decide)).trans r27, (hk17 28 (by decide) (by decide)).trans r28, (hk17 29 (by decide) (by decide)).trans r29, (hk17 30 (by decide) (by decide)).trans r30, (hk17 31 (by decide) (by decide)).trans r31, (hk17 32 (by decide) (by decide)).trans r32, (hk17 33 (by decide) (by decide)).trans r33, (hk17 34 (by decide) (by decide)).trans r34⟩
      have r36 : w13 (md 36) = some (.inr (5, [.ref (md 0), .ref (md 1), .ref (md 2), .ref (md 3), .ref (md 4), .ref (md 5), .ref (md 6), .ref (md 7), .ref (md 8), .ref (md 9), .ref (md 10), .ref (md 11), .ref (md 12), .ref (md 13), .ref (md 14), .ref (md 15), .int (nI (m_cached μ + 1)), .int (nI (m_ocached μ)), .int (m_circ μ), .int (m_ocirc μ), .int (nI (m_thr μ)), .int (nI (m_wkr μ)), .int (nI (m_ran μ).toNat), .ref (md 23), .ref (md 24), .ref (md 25), .ref (md 26), .ref (md 27), .ref (md 28), .ref (md 29), .ref (md 30), .ref (md 31), .ref (md 32), .ref (md 33), .ref (md 34), .int (nI (m_hgt μ))])) := by rw [ew14, va_up_ne _ _ (hj.ne (i := 36) (j := 14) (by decide) (by decide) (by decide))]; exact r36
      refine va_callv (rn_V (n := 2) (As := [.int (nI f), .long v9]) (rest := []) (C := R_D) (T := F_D) (N := 36) (ci := 5) X hP hS (c_D_finish B0 w13 md (dEnd1 f (va_up (m_cch μ) (m_cached μ) (m_mk μ f)) (m_cached μ + 1) v9 μ) f v9 hj hRq (by omega) e2 e10) k_759 k_761 k_46 k_58 k_762 (by decide +kernel) rfl rfl ⟨Nat.le_of_ble_eq_true rfl, Nat.le_of_ble_eq_true rfl⟩ r36 rfl rfl hl.1 rfl (Nat.le_of_ble_eq_true rfl) d_D_end_236 ⟨Nat.le_of_ble_eq_true rfl, Nat.le_of_ble_eq_true rfl⟩) hS (fun q _ h => h) (fun q h => h) (fun w21 tS H locs ht hvm hw hB hz1 hk1 hS => ?_)
      have hP : fw_P (dC, dI) cls_ (AA s0) w21 H := by rw [← ht]; exact hB
      obtain ⟨hR8, ho8⟩ := hw
      have ho22 : OutD md w w21 := OutD.tr ho15 ho8
      exact W.vret hx hb hr (fun tS ht hW => ⟨⟨w21, rfl, ⟨⟨va_up (m_cch μ) (m_cached μ) (m_mk μ f), m_cached μ + 1, by rw [← hv9]; exact hR8, by rw [lstN_up, show m_cached μ + 1 - 16 = 0 by omega, List.drop_zero]⟩, ho22⟩, mB_of ht hP⟩, hS.F ht⟩) hS.2.2 d_D_end_239
    · refine lv_aload_n hx hb d_D_end_215 rfl (lv_at hl 0 rfl) ?_
      refine lv_bipush (v := (nI 16)) hx hb d_D_end_216 (by decide) ?_
      have hk23 : ∀ i, U37 i → i ∉ [8, 10, 12, 36] → w10 (md i) = w (md i) := fun i hi hn => by rw [ew11, va_up_ne _ _ (hj.ne hi (j := 36) (by decide) (fun e9 => hn (by rw [e9]; decide))), ew8, va_up_ne _ _ (hj.ne hi (j := 12) (by decide) (fun e9 => hn (by rw [e9]; decide))), ew5, va_up_ne _ _ (hj.ne hi (j := 10) (by decide) (fun e9 => hn (by rw [e9]; decide))), ew2, va_up_ne _ _ (hj.ne hi (j := 8) (by decide) (fun e9 => hn (by rw [e9]; decide)))]
      have hk24 : ∀ i, U37 i → i ∉ [10, 12, 36] → w10 (md i) = w1 (md i) := fun i hi hn => by rw [ew11, va_up_ne _ _ (hj.ne hi (j := 36) (by decide) (fun e9 => hn (by rw [e9]; decide))), ew8, va_up_ne _ _ (hj.ne hi (j := 12) (by decide) (fun e9 => hn (by rw [e9]; decide))), ew5, va_up_ne _ _ (hj.ne hi (j := 10) (by decide) (fun e9 => hn (by rw [e9]; decide)))]
      have hk25 : ∀ i, U37 i → i ∉ [12, 36] → w10 (md i) = w4 (md i) := fun i hi hn => by rw [ew11, va_up_ne _ _ (hj.ne hi (j := 36) (by decide) (fun e9 => hn (by rw [e9]; decide))), ew8, va_up_ne _ _ (hj.ne hi (j := 12) (by decide) (fun e9 => hn (by rw [e9]; decide)))]
      have hk26 : ∀ i, U37 i → i ∉ [36] → w10 (md i) = w7 (md i) := fun i hi hn => by rw [ew11, va_up_ne _ _ (hj.ne hi (j := 36) (by decide) (fun e9 => hn (by rw [e9]; decide)))]
      have hRq : RD dA md w10 (dEnd0 f v9 μ) := ⟨r36, (hk23 0 (by decide) (by decide)).trans r0, (hk23 1 (by decide) (by decide)).trans r1, (hk23 2 (by decide) (by decide)).trans r2, (hk23 3 (by decide) (by decide)).trans r3, (hk23 4 (by decide) (by decide)).trans r4, (hk23 5 (by decide) (by decide)).trans r5, (hk23 6 (by decide) (by decide)).trans r6, (hk23 7 (by decide) (by decide)).trans r7, (hk24 8 (by decide) (by decide)).trans r8, ⟨_, (hk23 9 (by decide) (by decide)).trans r9⟩, (hk25 10 (by decide) (by decide)).trans r10, (hk23 11 (by decide) (by decide)).trans r11, (hk26 12 (by decide) (by decide)).trans r12, (hk23 13 (by decide) (by decide)).trans r13, (hk23 14 (by decide) (by decide)).trans r14, (hk23 15 (by decide) (by decide)).trans r15, (hk23 23 (by decide) (by decide)).trans r23, (hk23 24 (by decide) (by decide)).trans r24, (hk23 25 (by decide) (by decide)).trans r25, (hk23 26 (by decide) (by decide)).trans r26, (hk23 27 (by decide) (by decide)).trans r27, (hk23 28 (by decide) (by decide)).trans r28, (hk23 29 (by decide) (by decide)).trans r29, (hk23 30 (by decide) (by decide)).trans r30, (hk23 31 (by decide) (by decide)).trans r31, (hk23 32 (by decide) (by decide)).trans r32, (hk23 33 (by decide) (by decide)).trans r33, (hk23 34 (by decide) (by decide)).trans r34⟩
      have hc16 : m_cached μ = 16 := by omega
      refine va_calli (rn_V (n := 1) (As := [.int (nI 16)]) (rest := []) (C := R_D) (T := F_D) (N := 36) (ci := 5) X hP hS (c_D_cut B0 w10 md (dEnd0 f v9 μ) 16 hj hRq (by omega) (show m_cached μ + 1 ≤ 17 by omega)) k_755 k_757 k_45 k_58 k_758 (by decide +kernel) rfl rfl ⟨Nat.le_of_ble_eq_true rfl, Nat.le_of_ble_eq_true rfl⟩ r36 rfl rfl hl.1 rfl (Nat.le_of_ble_eq_true rfl) d_D_end_218 ⟨Nat.le_of_ble_eq_true rfl, Nat.le_of_ble_eq_true rfl⟩) hS (fun q _ h => h) (fun q h => h) (fun r w27 tS H locs ht hvm hw hB hz1 hk1 hS => ?_)
      have hP : fw_P (dC, dI) cls_ (AA s0) w27 H := by rw [← ht]; exact hB
      obtain ⟨hr8, x, hR8, hx8, ho8⟩ := hw
      have hx9 : ∀ i, i + (m_cached μ + 1 - 16) < m_cached μ + 1 → x i = va_up (m_cch μ) (m_cached μ) (m_mk μ f) (i + (m_cached μ + 1 - 16)) := hx8
      have ho28 : OutD md w w27 := OutD.tr ho12 ho8
      obtain ⟨r36, r0, r1, r2, r3, r4, r5, r6, r7, r8, ⟨u2, r9⟩, r10, r11, r12, r13, r14, r15, r23, r24, r25, r26, r27, r28, r29, r30, r31, r32, r33, r34⟩ := (id hR8)
      refine lv_pop hx hb d_D_end_221 rfl ?_
      refine lv_aload_n hx hb d_D_end_222 rfl (lv_at hl 0 rfl) ?_
      have r36 : w27 (md 36) = some (.inr (5, [.ref (md 0), .ref (md 1), .ref (md 2), .ref (md 3), .ref (md 4), .ref (md 5), .ref (md 6), .ref (md 7), .ref (md 8), .ref (md 9), .ref (md 10), .ref (md 11), .ref (md 12), .ref (md 13), .ref (md 14), .ref (md 15), .int (nI (m_cached μ + 1 - (m_cached μ + 1 - 16))), .int (nI (m_ocached μ)), .int (m_circ μ), .int (m_ocirc μ), .int (nI (m_thr μ)), .int (nI (m_wkr μ)), .int (nI (m_ran μ).toNat), .ref (md 23), .ref (md 24), .ref (md 25), .ref (md 26), .ref (md 27), .ref (md 28), .ref (md 29), .ref (md 30), .ref (md 31), .ref (md 32), .ref (md 33), .ref (md 34), .int (nI (m_hgt μ))])) := r36
      refine va_get (D := (dC, dI)) (ci := 5) (v := .ref (md 14)) (C := R_D) (T := F_D) (N := 36) hx hb hg in_D hown hK (hP.one r36) 0 rfl rfl 14 (by decide) (hg _ k_605) (fun _ h9 => h9) rfl d_D_end_223 ?_
      refine lv_iconst (v := (nI 3)) hx hb d_D_end_226 (by decide) ?_
      refine lv_dup2_11 hx hb d_D_end_227 rfl rfl ?_
      have r14 : w27 (md 14) = some (.inl (dA 0, 7, .inl (m_cnt μ))) := r14
      refine fw_iald (tys := tyl dA) hx hb hK hP r14 0 rfl (j := 3) (by omega) (by decide) d_D_end_228 ?_
      refine lv_iconst (v := (nI 1)) hx hb d_D_end_229 (by decide) ?_
      refine lv_iadd hx hb d_D_end_230 ?_
      refine fw_iast (tys := tyl dA) hx hb hK hP hS r14 0 rfl (j := 3) (x := (((m_cnt μ) 3) + (nI 1))) (by omega) (by decide) d_D_end_231 (fun w29 H locs ew30 hP hS => ?_)
      have r14 : w29 (md 14) = some (.inl (dA 0, 7, .inl (upd (m_cnt μ) 3 (((m_cnt μ) 3) + (nI 1))))) := by rw [ew30]; exact va_up_self _ _ _
      have ho31 : OutD md w w29 := OutD.up ho28 ew30 (by decide)
      refine lv_aload_n hx hb d_D_end_232 rfl (lv_at hl 0 rfl) ?_
      refine lv_iload_n hx hb d_D_end_233 rfl (lv_at hl 1 rfl) ?_
      refine lv_lload hx hb d_D_end_234 (lv_at hl 5 rfl) ?_
      have hk32 : ∀ i, U37 i → i ∉ [14] → w29 (md i) = w27 (md i) := fun i hi hn => by rw [ew30, va_up_ne _ _ (hj.ne hi (j := 14) (by decide) (fun e9 => hn (by rw [e9]; decide)))]
      have hRq : RD dA md w29 (dEnd1 f x (m_cached μ + 1 - (m_cached μ + 1 - 16)) v9 μ) := ⟨(hk32 36 (by decide) (by decide)).trans r36, (hk32 0 (by decide) (by decide)).trans r0, (hk32 1 (by decide) (by decide)).trans r1, (hk32 2 (by decide) (by decide)).trans r2, (hk32 3 (by decide) (by decide)).trans r3, (hk32 4 (by decide) (by decide)).trans r4, (hk32 5 (by decide) (by decide)).trans r5, (hk32 6 (by decide) (by decide)).trans r6, (hk32 7 (by decide) (by decide)).trans r7, (hk32 8 (by decide) (by decide)).trans r8, ⟨_, (hk32 9 (by decide) (by decide)).trans r9⟩, (hk32 10 (by decide) (by decide)).trans r10, (hk32 11 (by decide) (by decide)).trans r11, (hk32 12 (by decide) (by decide)).trans r12, (hk32 13 (by decide) (by decide)).trans r13, r14, (hk32 15 (by decide) (by decide)).trans r15, (hk32 23 (by decide) (by decide)).trans r23, (hk32 24 (by decide) (by decide)).trans r24, (hk32 25 (by decide) (by decide)).trans r25, (hk32 26 (by decide) (by decide)).trans r26, (hk32 27 (by decide) (by decide)).trans r27, (hk32 28 (by decide) (by decide)).trans r28, (hk32 29 (by decide) (by decide)).trans r29, (hk32 30 (by decide) (by decide)).trans r30, (hk32 31 (by decide) (by decide)).trans r31, (hk32 32 (by decide) (by decide)).trans r32, (hk32 33 (by decide) (by decide)).trans r33, (hk32 34 (by decide) (by decide)).trans r34⟩
      have r36 : w29 (md 36) = some (.inr (5, [.ref (md 0), .ref (md 1), .ref (md 2), .ref (md 3), .ref (md 4), .ref (md 5), .ref (md 6), .ref (md 7), .ref (md 8), .ref (md 9), .ref (md 10), .ref (md 11), .ref (md 12), .ref (md 13), .ref (md 14), .ref (md 15), .int (nI (m_cached μ + 1 - (m_cached μ + 1 - 16))), .int (nI (m_ocached μ)), .int (m_circ μ), .int (m_ocirc μ), .int (nI (m_thr μ)), .int (nI (m_wkr μ)), .int (nI (m_ran μ).toNat), .ref (md 23), .ref (md 24), .ref (md 25), .ref (md 26), .ref (md 27), .ref (md 28), .ref (md 29), .ref (md 30), .ref (md 31), .ref (md 32), .ref (md 33), .ref (md 34), .int (nI (m_hgt μ))])) := by rw [ew30, va_up_ne _ _ (hj.ne (i := 36) (j := 14) (by decide) (by decide) (by decide))]; exact r36
      refine va_callv (rn_V (n := 2) (As := [.int (nI f), .long v9]) (rest := []) (C := R_D) (T := F_D) (N := 36) (ci := 5) X hP hS (c_D_finish B0 w29 md (dEnd1 f x (m_cached μ + 1 - (m_cached μ + 1 - 16)) v9 μ) f v9 hj hRq (by omega) e2 e10) k_759 k_761 k_46 k_58 k_762 (by decide +kernel) rfl rfl ⟨Nat.le_of_ble_eq_true rfl, Nat.le_of_ble_eq_true rfl⟩ r36 rfl rfl hl.1 rfl (Nat.le_of_ble_eq_true rfl) d_D_end_236 ⟨Nat.le_of_ble_eq_true rfl, Nat.le_of_ble_eq_true rfl⟩) hS (fun q _ h => h) (fun q h => h) (fun w33 tS H locs ht hvm hw hB hz1 hk1 hS => ?_)
      have hP : fw_P (dC, dI) cls_ (AA s0) w33 H := by rw [← ht]; exact hB
      obtain ⟨hR8, ho8⟩ := hw
      have ho34 : OutD md w w33 := OutD.tr ho31 ho8
      exact W.vret hx hb hr (fun tS ht hW => ⟨⟨w33, rfl, ⟨⟨x, m_cached μ + 1 - (m_cached μ + 1 - 16), by rw [← hv9]; exact hR8, by rw [lst_cut hx9, lstN_up]⟩, ho34⟩, mB_of ht hP⟩, hS.F ht⟩) hS.2.2 d_D_end_239
  refine lv_aload_n hx hb d_D_end_0 rfl (lv_at hl 0 rfl) ?_
  refine va_get (D := (dC, dI)) (ci := 5) (v := .ref (md 25)) (C := R_D) (T := F_D) (N := 36) hx hb hg in_D hown hK (hP.one r36) 0 rfl rfl 25 (by decide) (hg _ k_616) (fun _ h9 => h9) rfl d_D_end_1 ?_
  refine lv_iload_n hx hb d_D_end_4 rfl (lv_at hl 1 rfl) ?_
  refine fw_iald (tys := tyl dA) hx hb hK hP r25 0 rfl (j := f) (by omega) (by decide) d_D_end_5 ?_
  refine lv_istore_n (lv' := [(2, .int (nI ((m_key μ) f))), (0, .ref (md 36)), (1, .int (nI f))]) hx hb d_D_end_6 rfl hl (by decide) rfl (fun ls hl => ?_)
  refine lv_aload_n hx hb d_D_end_7 rfl (lv_at hl 1 rfl) ?_
  refine va_get (D := (dC, dI)) (ci := 5) (v := .ref (md 1)) (C := R_D) (T := F_D) (N := 36) hx hb hg in_D hown hK (hP.one r36) 0 rfl rfl 1 (by decide) (hg _ k_592) (fun _ h9 => h9) rfl d_D_end_8 ?_
  refine lv_iload_n hx hb d_D_end_11 rfl (lv_at hl 0 rfl) ?_
  refine fw_iald (tys := tyl dA) hx hb hK hP r1 0 rfl (j := (m_key μ) f) (by omega) (by decide) d_D_end_12 ?_
  refine lv_istore_n (lv' := [(3, .int (nI ((m_rule μ) ((m_key μ) f)))), (2, .int (nI ((m_key μ) f))), (0, .ref (md 36)), (1, .int (nI f))]) hx hb d_D_end_13 rfl hl (by decide) rfl (fun ls hl => ?_)
  refine lv_aload_n hx hb d_D_end_14 rfl (lv_at hl 2 rfl) ?_
  refine va_get (D := (dC, dI)) (ci := 5) (v := .ref (md 31)) (C := R_D) (T := F_D) (N := 36) hx hb hg in_D hown hK (hP.one r36) 0 rfl rfl 31 (by decide) (hg _ k_622) (fun _ h9 => h9) rfl d_D_end_15 ?_
  refine lv_iload_n hx hb d_D_end_18 rfl (lv_at hl 3 rfl) ?_
  refine fw_iald (tys := tyl dA) hx hb hK hP r31 0 rfl (j := f) (by omega) (by decide) d_D_end_19 ?_
  refine lv_istore (lv' := [(4, .int (nI ((m_mk μ) f))), (3, .int (nI ((m_rule μ) ((m_key μ) f)))), (2, .int (nI ((m_key μ) f))), (0, .ref (md 36)), (1, .int (nI f))]) hx hb d_D_end_20 hl (by decide) rfl (fun ls hl => ?_)
  refine lv_aload_n hx hb d_D_end_22 rfl (lv_at hl 3 rfl) ?_
  refine va_get (D := (dC, dI)) (ci := 5) (v := .ref (md 34)) (C := R_D) (T := F_D) (N := 36) hx hb hg in_D hown hK (hP.one r36) 0 rfl rfl 34 (by decide) (hg _ k_625) (fun _ h9 => h9) rfl d_D_end_23 ?_
  refine lv_iload_n hx hb d_D_end_26 rfl (lv_at hl 4 rfl) ?_
  refine fw_lald (tys := tyl dA) hx hb hK hP r34 1 rfl (j := f) (by omega) (by decide) d_D_end_27 ?_
  refine lv_lstore (lv' := [(5, .long ((m_sum μ) f)), (4, .int (nI ((m_mk μ) f))), (3, .int (nI ((m_rule μ) ((m_key μ) f)))), (2, .int (nI ((m_key μ) f))), (0, .ref (md 36)), (1, .int (nI f))]) hx hb d_D_end_28 hl (by decide) rfl (fun ls hl => ?_)
  rcases (show m_rule μ (m_key μ f) = 0 ∨ m_rule μ (m_key μ f) = 1 ∨ m_rule μ (m_key μ f) = 2 ∨ m_rule μ (m_key μ f) = 3 ∨ m_rule μ (m_key μ f) = 4 ∨ m_rule μ (m_key μ f) = 5 ∨ m_rule μ (m_key μ f) = 6 ∨ m_rule μ (m_key μ f) = 7 ∨ m_rule μ (m_key μ f) = 8 ∨ m_rule μ (m_key μ f) = 9 by omega) with hrr | hrr | hrr | hrr | hrr | hrr | hrr | hrr | hrr | hrr
  · refine lv_iload_n hx hb d_D_end_30 rfl (lv_at hl 2 rfl) ?_
    refine lv_bipush (v := (nI 6)) hx hb d_D_end_31 (by decide) ?_
    refine nu_ne (tgt := 50) hx hb (by omega) (by omega) d_D_end_33 (by decide) (fun c0 => ?_) (fun c0 => ?_)
    · refine lv_iload_n hx hb d_D_end_50 rfl (lv_at hl 2 rfl) ?_
      refine lv_iconst (v := (nI 3)) hx hb d_D_end_51 (by decide) ?_
      refine nu_eq (tgt := 60) hx hb (by omega) (by omega) d_D_end_52 (by decide) (fun c0 => ?_) (fun c0 => ?_)
      · exact absurd c0 (by omega)
      · refine lv_iload_n hx hb d_D_end_55 rfl (lv_at hl 2 rfl) ?_
        refine lv_iconst (v := (nI 5)) hx hb d_D_end_56 (by decide) ?_
        refine nu_ne (tgt := 72) hx hb (by omega) (by omega) d_D_end_57 (by decide) (fun c0 => ?_) (fun c0 => ?_)
        · refine lv_iload_n hx hb d_D_end_72 rfl (lv_at hl 2 rfl) ?_
          refine lv_bipush (v := (nI 9)) hx hb d_D_end_73 (by decide) ?_
          refine nu_ne (tgt := 95) hx hb (by omega) (by omega) d_D_end_75 (by decide) (fun c0 => ?_) (fun c0 => ?_)
          · refine lv_aload_n hx hb d_D_end_95 rfl (lv_at hl 4 rfl) ?_
            refine va_get (D := (dC, dI)) (ci := 5) (v := .int (nI (m_thr μ))) (C := R_D) (T := F_D) (N := 36) hx hb hg in_D hown hK (hP.one r36) 0 rfl rfl 20 (by decide) (hg _ k_611) (fun _ h9 => h9) rfl d_D_end_96 ?_
            refine nu_zle (tgt := 103) hx hb (by omega) d_D_end_99 (by decide) (fun c8 => ?_) (fun c8 => ?_)
            · refine lv_iload_n hx hb d_D_end_103 rfl (lv_at hl 2 rfl) ?_
              refine lv_iconst (v := (nI 3)) hx hb d_D_end_104 (by decide) ?_
              refine nu_ne (tgt := 119) hx hb (by omega) (by omega) d_D_end_105 (by decide) (fun c0 => ?_) (fun c0 => ?_)
              · refine lv_iload_n hx hb d_D_end_119 rfl (lv_at hl 2 rfl) ?_
                refine lv_iconst (v := (nI 5)) hx hb d_D_end_120 (by decide) ?_
                refine nu_ne (tgt := 135) hx hb (by omega) (by omega) d_D_end_121 (by decide) (fun c0 => ?_) (fun c0 => ?_)
                · refine lv_iload_n hx hb d_D_end_135 rfl (lv_at hl 2 rfl) ?_
                  refine lv_bipush (v := (nI 8)) hx hb d_D_end_136 (by decide) ?_
                  refine nu_ne (tgt := 146) hx hb (by omega) (by omega) d_D_end_138 (by decide) (fun c0 => ?_) (fun c0 => ?_)
                  · refine lv_iload_n hx hb d_D_end_146 rfl (lv_at hl 2 rfl) ?_
                    refine lv_bipush (v := (nI 9)) hx hb d_D_end_147 (by decide) ?_
                    refine nu_ne (tgt := 160) hx hb (by omega) (by omega) d_D_end_149 (by decide) (fun c0 => ?_) (fun c0 => ?_)
                    · exact tail _ ls (lv_sub hl [4, 5, 3, 2, 1, 0] rfl) (by unfold dEndV; rw [if_neg (by omega), if_neg (by omega), if_neg (by omega), if_neg (by omega)])
                    · exact absurd c0 (by omega)
                  · exact absurd c0 (by omega)
                · exact absurd c0 (by omega)
              · exact absurd c0 (by omega)
            · exact absurd c8 (by omega)
          · exact absurd c0 (by omega)
        · exact absurd c0 (by omega)
    · exact absurd c0 (by omega)
  · refine lv_iload_n hx hb d_D_end_30 rfl (lv_at hl 2 rfl) ?_
    refine lv_bipush (v := (nI 6)) hx hb d_D_end_31 (by decide) ?_
    refine nu_ne (tgt := 50) hx hb (by omega) (by omega) d_D_end_33 (by decide) (fun c0 => ?_) (fun c0 => ?_)
    · refine lv_iload_n hx hb d_D_end_50 rfl (lv_at hl 2 rfl) ?_
      refine lv_iconst (v := (nI 3)) hx hb d_D_end_51 (by decide) ?_
      refine nu_eq (tgt := 60) hx hb (by omega) (by omega) d_D_end_52 (by decide) (fun c0 => ?_) (fun c0 => ?_)
      · exact absurd c0 (by omega)
      · refine lv_iload_n hx hb d_D_end_55 rfl (lv_at hl 2 rfl) ?_
        refine lv_iconst (v := (nI 5)) hx hb d_D_end_56 (by decide) ?_
        refine nu_ne (tgt := 72) hx hb (by omega) (by omega) d_D_end_57 (by decide) (fun c0 => ?_) (fun c0 => ?_)
        · refine lv_iload_n hx hb d_D_end_72 rfl (lv_at hl 2 rfl) ?_
          refine lv_bipush (v := (nI 9)) hx hb d_D_end_73 (by decide) ?_
          refine nu_ne (tgt := 95) hx hb (by omega) (by omega) d_D_end_75 (by decide) (fun c0 => ?_) (fun c0 => ?_)
          · refine lv_aload_n hx hb d_D_end_95 rfl (lv_at hl 4 rfl) ?_
            refine va_get (D := (dC, dI)) (ci := 5) (v := .int (nI (m_thr μ))) (C := R_D) (T := F_D) (N := 36) hx hb hg in_D hown hK (hP.one r36) 0 rfl rfl 20 (by decide) (hg _ k_611) (fun _ h9 => h9) rfl d_D_end_96 ?_
            refine nu_zle (tgt := 103) hx hb (by omega) d_D_end_99 (by decide) (fun c8 => ?_) (fun c8 => ?_)
            · refine lv_iload_n hx hb d_D_end_103 rfl (lv_at hl 2 rfl) ?_
              refine lv_iconst (v := (nI 3)) hx hb d_D_end_104 (by decide) ?_
              refine nu_ne (tgt := 119) hx hb (by omega) (by omega) d_D_end_105 (by decide) (fun c0 => ?_) (fun c0 => ?_)
              · refine lv_iload_n hx hb d_D_end_119 rfl (lv_at hl 2 rfl) ?_
                refine lv_iconst (v := (nI 5)) hx hb d_D_end_120 (by decide) ?_
                refine nu_ne (tgt := 135) hx hb (by omega) (by omega) d_D_end_121 (by decide) (fun c0 => ?_) (fun c0 => ?_)
                · refine lv_iload_n hx hb d_D_end_135 rfl (lv_at hl 2 rfl) ?_
                  refine lv_bipush (v := (nI 8)) hx hb d_D_end_136 (by decide) ?_
                  refine nu_ne (tgt := 146) hx hb (by omega) (by omega) d_D_end_138 (by decide) (fun c0 => ?_) (fun c0 => ?_)
                  · refine lv_iload_n hx hb d_D_end_146 rfl (lv_at hl 2 rfl) ?_
                    refine lv_bipush (v := (nI 9)) hx hb d_D_end_147 (by decide) ?_
                    refine nu_ne (tgt := 160) hx hb (by omega) (by omega) d_D_end_149 (by decide) (fun c0 => ?_) (fun c0 => ?_)
                    · exact tail _ ls (lv_sub hl [4, 5, 3, 2, 1, 0] rfl) (by unfold dEndV; rw [if_neg (by omega), if_neg (by omega), if_neg (by omega), if_neg (by omega)])
                    · exact absurd c0 (by omega)
                  · exact absurd c0 (by omega)
                · exact absurd c0 (by omega)
              · exact absurd c0 (by omega)
            · exact absurd c8 (by omega)
          · exact absurd c0 (by omega)
        · exact absurd c0 (by omega)
    · exact absurd c0 (by omega)
  · refine lv_iload_n hx hb d_D_end_30 rfl (lv_at hl 2 rfl) ?_
    refine lv_bipush (v := (nI 6)) hx hb d_D_end_31 (by decide) ?_
    refine nu_ne (tgt := 50) hx hb (by omega) (by omega) d_D_end_33 (by decide) (fun c0 => ?_) (fun c0 => ?_)
    · refine lv_iload_n hx hb d_D_end_50 rfl (lv_at hl 2 rfl) ?_
      refine lv_iconst (v := (nI 3)) hx hb d_D_end_51 (by decide) ?_
      refine nu_eq (tgt := 60) hx hb (by omega) (by omega) d_D_end_52 (by decide) (fun c0 => ?_) (fun c0 => ?_)
      · exact absurd c0 (by omega)
      · refine lv_iload_n hx hb d_D_end_55 rfl (lv_at hl 2 rfl) ?_
        refine lv_iconst (v := (nI 5)) hx hb d_D_end_56 (by decide) ?_
        refine nu_ne (tgt := 72) hx hb (by omega) (by omega) d_D_end_57 (by decide) (fun c0 => ?_) (fun c0 => ?_)
        · refine lv_iload_n hx hb d_D_end_72 rfl (lv_at hl 2 rfl) ?_
          refine lv_bipush (v := (nI 9)) hx hb d_D_end_73 (by decide) ?_
          refine nu_ne (tgt := 95) hx hb (by omega) (by omega) d_D_end_75 (by decide) (fun c0 => ?_) (fun c0 => ?_)
          · refine lv_aload_n hx hb d_D_end_95 rfl (lv_at hl 4 rfl) ?_
            refine va_get (D := (dC, dI)) (ci := 5) (v := .int (nI (m_thr μ))) (C := R_D) (T := F_D) (N := 36) hx hb hg in_D hown hK (hP.one r36) 0 rfl rfl 20 (by decide) (hg _ k_611) (fun _ h9 => h9) rfl d_D_end_96 ?_
            refine nu_zle (tgt := 103) hx hb (by omega) d_D_end_99 (by decide) (fun c8 => ?_) (fun c8 => ?_)
            · refine lv_iload_n hx hb d_D_end_103 rfl (lv_at hl 2 rfl) ?_
              refine lv_iconst (v := (nI 3)) hx hb d_D_end_104 (by decide) ?_
              refine nu_ne (tgt := 119) hx hb (by omega) (by omega) d_D_end_105 (by decide) (fun c0 => ?_) (fun c0 => ?_)
              · refine lv_iload_n hx hb d_D_end_119 rfl (lv_at hl 2 rfl) ?_
                refine lv_iconst (v := (nI 5)) hx hb d_D_end_120 (by decide) ?_
                refine nu_ne (tgt := 135) hx hb (by omega) (by omega) d_D_end_121 (by decide) (fun c0 => ?_) (fun c0 => ?_)
                · refine lv_iload_n hx hb d_D_end_135 rfl (lv_at hl 2 rfl) ?_
                  refine lv_bipush (v := (nI 8)) hx hb d_D_end_136 (by decide) ?_
                  refine nu_ne (tgt := 146) hx hb (by omega) (by omega) d_D_end_138 (by decide) (fun c0 => ?_) (fun c0 => ?_)
                  · refine lv_iload_n hx hb d_D_end_146 rfl (lv_at hl 2 rfl) ?_
                    refine lv_bipush (v := (nI 9)) hx hb d_D_end_147 (by decide) ?_
                    refine nu_ne (tgt := 160) hx hb (by omega) (by omega) d_D_end_149 (by decide) (fun c0 => ?_) (fun c0 => ?_)
                    · exact tail _ ls (lv_sub hl [4, 5, 3, 2, 1, 0] rfl) (by unfold dEndV; rw [if_neg (by omega), if_neg (by omega), if_neg (by omega), if_neg (by omega)])
                    · exact absurd c0 (by omega)
                  · exact absurd c0 (by omega)
                · exact absurd c0 (by omega)
              · exact absurd c0 (by omega)
            · exact absurd c8 (by omega)
          · exact absurd c0 (by omega)
        · exact absurd c0 (by omega)
    · exact absurd c0 (by omega)
  · refine lv_iload_n hx hb d_D_end_30 rfl (lv_at hl 2 rfl) ?_
    refine lv_bipush (v := (nI 6)) hx hb d_D_end_31 (by decide) ?_
    refine nu_ne (tgt := 50) hx hb (by omega) (by omega) d_D_end_33 (by decide) (fun c0 => ?_) (fun c0 => ?_)
    · refine lv_iload_n hx hb d_D_end_50 rfl (lv_at hl 2 rfl) ?_
      refine lv_iconst (v := (nI 3)) hx hb d_D_end_51 (by decide) ?_
      refine nu_eq (tgt := 60) hx hb (by omega) (by omega) d_D_end_52 (by decide) (fun c0 => ?_) (fun c0 => ?_)
      · refine lv_lload hx hb d_D_end_60 (lv_at hl 0 rfl) ?_
        refine lv_lconst (v := 0) hx hb d_D_end_62 (by decide) ?_
        refine W.lcmp hx hb d_D_end_63 ?_
        refine lv_if_ne (tgt := 72) hx hb d_D_end_64 (by decide) (fun c6 => ?_) (fun c6 => ?_)
        · have hnz : m_sum μ f ≠ 0 := fun h9 => c6 ((lg_cmp_eq _ _).mpr h9)
          refine lv_iload_n hx hb d_D_end_72 rfl (lv_at hl 2 rfl) ?_
          refine lv_bipush (v := (nI 9)) hx hb d_D_end_73 (by decide) ?_
          refine nu_ne (tgt := 95) hx hb (by omega) (by omega) d_D_end_75 (by decide) (fun c0 => ?_) (fun c0 => ?_)
          · refine lv_aload_n hx hb d_D_end_95 rfl (lv_at hl 4 rfl) ?_
            refine va_get (D := (dC, dI)) (ci := 5) (v := .int (nI (m_thr μ))) (C := R_D) (T := F_D) (N := 36) hx hb hg in_D hown hK (hP.one r36) 0 rfl rfl 20 (by decide) (hg _ k_611) (fun _ h9 => h9) rfl d_D_end_96 ?_
            refine nu_zle (tgt := 103) hx hb (by omega) d_D_end_99 (by decide) (fun c8 => ?_) (fun c8 => ?_)
            · refine lv_iload_n hx hb d_D_end_103 rfl (lv_at hl 2 rfl) ?_
              refine lv_iconst (v := (nI 3)) hx hb d_D_end_104 (by decide) ?_
              refine nu_ne (tgt := 119) hx hb (by omega) (by omega) d_D_end_105 (by decide) (fun c0 => ?_) (fun c0 => ?_)
              · exact absurd c0 (by omega)
              · refine lv_aload_n hx hb d_D_end_108 rfl (lv_at hl 4 rfl) ?_
                refine va_get (D := (dC, dI)) (ci := 5) (v := .ref (md 33)) (C := R_D) (T := F_D) (N := 36) hx hb hg in_D hown hK (hP.one r36) 0 rfl rfl 33 (by decide) (hg _ k_624) (fun _ h9 => h9) rfl d_D_end_109 ?_
                refine lv_iload_n hx hb d_D_end_112 rfl (lv_at hl 5 rfl) ?_
                refine fw_lald (tys := tyl dA) hx hb hK hP r33 1 rfl (j := f) (by omega) (by decide) d_D_end_113 ?_
                refine lv_lload hx hb d_D_end_114 (lv_at hl 0 rfl) ?_
                refine lv_ldiv hx hb d_D_end_116 hnz ?_
                refine lv_lstore (lv' := [(5, .long (((m_first μ) f) / ((m_sum μ) f))), (4, .int (nI ((m_mk μ) f))), (3, .int (nI ((m_rule μ) ((m_key μ) f)))), (2, .int (nI ((m_key μ) f))), (0, .ref (md 36)), (1, .int (nI f))]) hx hb d_D_end_117 hl (by decide) rfl (fun ls hl => ?_)
                refine lv_iload_n hx hb d_D_end_119 rfl (lv_at hl 2 rfl) ?_
                refine lv_iconst (v := (nI 5)) hx hb d_D_end_120 (by decide) ?_
                refine nu_ne (tgt := 135) hx hb (by omega) (by omega) d_D_end_121 (by decide) (fun c0 => ?_) (fun c0 => ?_)
                · refine lv_iload_n hx hb d_D_end_135 rfl (lv_at hl 2 rfl) ?_
                  refine lv_bipush (v := (nI 8)) hx hb d_D_end_136 (by decide) ?_
                  refine nu_ne (tgt := 146) hx hb (by omega) (by omega) d_D_end_138 (by decide) (fun c0 => ?_) (fun c0 => ?_)
                  · refine lv_iload_n hx hb d_D_end_146 rfl (lv_at hl 2 rfl) ?_
                    refine lv_bipush (v := (nI 9)) hx hb d_D_end_147 (by decide) ?_
                    refine nu_ne (tgt := 160) hx hb (by omega) (by omega) d_D_end_149 (by decide) (fun c0 => ?_) (fun c0 => ?_)
                    · exact tail _ ls (lv_sub hl [4, 5, 3, 2, 1, 0] rfl) (by unfold dEndV; rw [if_pos hrr])
                    · exact absurd c0 (by omega)
                  · exact absurd c0 (by omega)
                · exact absurd c0 (by omega)
            · exact absurd c8 (by omega)
          · exact absurd c0 (by omega)
        · have hz : m_sum μ f = 0 := (lg_cmp_eq _ _).mp c6
          exact absurd hC (by unfold dEndC; rw [if_neg (fun h9 => by omega), if_pos ⟨by omega, hz⟩]; omega)
      · exact absurd c0 (by omega)
    · exact absurd c0 (by omega)
  · refine lv_iload_n hx hb d_D_end_30 rfl (lv_at hl 2 rfl) ?_
    refine lv_bipush (v := (nI 6)) hx hb d_D_end_31 (by decide) ?_
    refine nu_ne (tgt := 50) hx hb (by omega) (by omega) d_D_end_33 (by decide) (fun c0 => ?_) (fun c0 => ?_)
    · refine lv_iload_n hx hb d_D_end_50 rfl (lv_at hl 2 rfl) ?_
      refine lv_iconst (v := (nI 3)) hx hb d_D_end_51 (by decide) ?_
      refine nu_eq (tgt := 60) hx hb (by omega) (by omega) d_D_end_52 (by decide) (fun c0 => ?_) (fun c0 => ?_)
      · exact absurd c0 (by omega)
      · refine lv_iload_n hx hb d_D_end_55 rfl (lv_at hl 2 rfl) ?_
        refine lv_iconst (v := (nI 5)) hx hb d_D_end_56 (by decide) ?_
        refine nu_ne (tgt := 72) hx hb (by omega) (by omega) d_D_end_57 (by decide) (fun c0 => ?_) (fun c0 => ?_)
        · refine lv_iload_n hx hb d_D_end_72 rfl (lv_at hl 2 rfl) ?_
          refine lv_bipush (v := (nI 9)) hx hb d_D_end_73 (by decide) ?_
          refine nu_ne (tgt := 95) hx hb (by omega) (by omega) d_D_end_75 (by decide) (fun c0 => ?_) (fun c0 => ?_)
          · refine lv_aload_n hx hb d_D_end_95 rfl (lv_at hl 4 rfl) ?_
            refine va_get (D := (dC, dI)) (ci := 5) (v := .int (nI (m_thr μ))) (C := R_D) (T := F_D) (N := 36) hx hb hg in_D hown hK (hP.one r36) 0 rfl rfl 20 (by decide) (hg _ k_611) (fun _ h9 => h9) rfl d_D_end_96 ?_
            refine nu_zle (tgt := 103) hx hb (by omega) d_D_end_99 (by decide) (fun c8 => ?_) (fun c8 => ?_)
            · refine lv_iload_n hx hb d_D_end_103 rfl (lv_at hl 2 rfl) ?_
              refine lv_iconst (v := (nI 3)) hx hb d_D_end_104 (by decide) ?_
              refine nu_ne (tgt := 119) hx hb (by omega) (by omega) d_D_end_105 (by decide) (fun c0 => ?_) (fun c0 => ?_)
              · refine lv_iload_n hx hb d_D_end_119 rfl (lv_at hl 2 rfl) ?_
                refine lv_iconst (v := (nI 5)) hx hb d_D_end_120 (by decide) ?_
                refine nu_ne (tgt := 135) hx hb (by omega) (by omega) d_D_end_121 (by decide) (fun c0 => ?_) (fun c0 => ?_)
                · refine lv_iload_n hx hb d_D_end_135 rfl (lv_at hl 2 rfl) ?_
                  refine lv_bipush (v := (nI 8)) hx hb d_D_end_136 (by decide) ?_
                  refine nu_ne (tgt := 146) hx hb (by omega) (by omega) d_D_end_138 (by decide) (fun c0 => ?_) (fun c0 => ?_)
                  · refine lv_iload_n hx hb d_D_end_146 rfl (lv_at hl 2 rfl) ?_
                    refine lv_bipush (v := (nI 9)) hx hb d_D_end_147 (by decide) ?_
                    refine nu_ne (tgt := 160) hx hb (by omega) (by omega) d_D_end_149 (by decide) (fun c0 => ?_) (fun c0 => ?_)
                    · exact tail _ ls (lv_sub hl [4, 5, 3, 2, 1, 0] rfl) (by unfold dEndV; rw [if_neg (by omega), if_neg (by omega), if_neg (by omega), if_neg (by omega)])
                    · exact absurd c0 (by omega)
                  · exact absurd c0 (by omega)
                · exact absurd c0 (by omega)
              · exact absurd c0 (by omega)
            · exact absurd c8 (by omega)
          · exact absurd c0 (by omega)
        · exact absurd c0 (by omega)
    · exact absurd c0 (by omega)
  · refine lv_iload_n hx hb d_D_end_30 rfl (lv_at hl 2 rfl) ?_
    refine lv_bipush (v := (nI 6)) hx hb d_D_end_31 (by decide) ?_
    refine nu_ne (tgt := 50) hx hb (by omega) (by omega) d_D_end_33 (by decide) (fun c0 => ?_) (fun c0 => ?_)
    · refine lv_iload_n hx hb d_D_end_50 rfl (lv_at hl 2 rfl) ?_
      refine lv_iconst (v := (nI 3)) hx hb d_D_end_51 (by decide) ?_
      refine nu_eq (tgt := 60) hx hb (by omega) (by omega) d_D_end_52 (by decide) (fun c0 => ?_) (fun c0 => ?_)
      · exact absurd c0 (by omega)
      · refine lv_iload_n hx hb d_D_end_55 rfl (lv_at hl 2 rfl) ?_
        refine lv_iconst (v := (nI 5)) hx hb d_D_end_56 (by decide) ?_
        refine nu_ne (tgt := 72) hx hb (by omega) (by omega) d_D_end_57 (by decide) (fun c0 => ?_) (fun c0 => ?_)
        · exact absurd c0 (by omega)
        · refine lv_lload hx hb d_D_end_60 (lv_at hl 0 rfl) ?_
          refine lv_lconst (v := 0) hx hb d_D_end_62 (by decide) ?_
          refine W.lcmp hx hb d_D_end_63 ?_
          refine lv_if_ne (tgt := 72) hx hb d_D_end_64 (by decide) (fun c6 => ?_) (fun c6 => ?_)
          · have hnz : m_sum μ f ≠ 0 := fun h9 => c6 ((lg_cmp_eq _ _).mpr h9)
            refine lv_iload_n hx hb d_D_end_72 rfl (lv_at hl 2 rfl) ?_
            refine lv_bipush (v := (nI 9)) hx hb d_D_end_73 (by decide) ?_
            refine nu_ne (tgt := 95) hx hb (by omega) (by omega) d_D_end_75 (by decide) (fun c0 => ?_) (fun c0 => ?_)
            · refine lv_aload_n hx hb d_D_end_95 rfl (lv_at hl 4 rfl) ?_
              refine va_get (D := (dC, dI)) (ci := 5) (v := .int (nI (m_thr μ))) (C := R_D) (T := F_D) (N := 36) hx hb hg in_D hown hK (hP.one r36) 0 rfl rfl 20 (by decide) (hg _ k_611) (fun _ h9 => h9) rfl d_D_end_96 ?_
              refine nu_zle (tgt := 103) hx hb (by omega) d_D_end_99 (by decide) (fun c8 => ?_) (fun c8 => ?_)
              · refine lv_iload_n hx hb d_D_end_103 rfl (lv_at hl 2 rfl) ?_
                refine lv_iconst (v := (nI 3)) hx hb d_D_end_104 (by decide) ?_
                refine nu_ne (tgt := 119) hx hb (by omega) (by omega) d_D_end_105 (by decide) (fun c0 => ?_) (fun c0 => ?_)
                · refine lv_iload_n hx hb d_D_end_119 rfl (lv_at hl 2 rfl) ?_
                  refine lv_iconst (v := (nI 5)) hx hb d_D_end_120 (by decide) ?_
                  refine nu_ne (tgt := 135) hx hb (by omega) (by omega) d_D_end_121 (by decide) (fun c0 => ?_) (fun c0 => ?_)
                  · exact absurd c0 (by omega)
                  · refine lv_aload_n hx hb d_D_end_124 rfl (lv_at hl 4 rfl) ?_
                    refine va_get (D := (dC, dI)) (ci := 5) (v := .ref (md 33)) (C := R_D) (T := F_D) (N := 36) hx hb hg in_D hown hK (hP.one r36) 0 rfl rfl 33 (by decide) (hg _ k_624) (fun _ h9 => h9) rfl d_D_end_125 ?_
                    refine lv_iload_n hx hb d_D_end_128 rfl (lv_at hl 5 rfl) ?_
                    refine fw_lald (tys := tyl dA) hx hb hK hP r33 1 rfl (j := f) (by omega) (by decide) d_D_end_129 ?_
                    refine lv_lload hx hb d_D_end_130 (lv_at hl 0 rfl) ?_
                    refine lv_lrem hx hb d_D_end_132 hnz ?_
                    refine lv_lstore (lv' := [(5, .long (((m_first μ) f) - ((m_first μ) f) / ((m_sum μ) f) * ((m_sum μ) f))), (4, .int (nI ((m_mk μ) f))), (3, .int (nI ((m_rule μ) ((m_key μ) f)))), (2, .int (nI ((m_key μ) f))), (0, .ref (md 36)), (1, .int (nI f))]) hx hb d_D_end_133 hl (by decide) rfl (fun ls hl => ?_)
                    refine lv_iload_n hx hb d_D_end_135 rfl (lv_at hl 2 rfl) ?_
                    refine lv_bipush (v := (nI 8)) hx hb d_D_end_136 (by decide) ?_
                    refine nu_ne (tgt := 146) hx hb (by omega) (by omega) d_D_end_138 (by decide) (fun c0 => ?_) (fun c0 => ?_)
                    · refine lv_iload_n hx hb d_D_end_146 rfl (lv_at hl 2 rfl) ?_
                      refine lv_bipush (v := (nI 9)) hx hb d_D_end_147 (by decide) ?_
                      refine nu_ne (tgt := 160) hx hb (by omega) (by omega) d_D_end_149 (by decide) (fun c0 => ?_) (fun c0 => ?_)
                      · exact tail _ ls (lv_sub hl [4, 5, 3, 2, 1, 0] rfl) (by unfold dEndV; rw [if_neg (by omega), if_pos hrr])
                      · exact absurd c0 (by omega)
                    · exact absurd c0 (by omega)
                · exact absurd c0 (by omega)
              · exact absurd c8 (by omega)
            · exact absurd c0 (by omega)
          · have hz : m_sum μ f = 0 := (lg_cmp_eq _ _).mp c6
            exact absurd hC (by unfold dEndC; rw [if_neg (fun h9 => by omega), if_pos ⟨by omega, hz⟩]; omega)
    · exact absurd c0 (by omega)
  · refine lv_iload_n hx hb d_D_end_30 rfl (lv_at hl 2 rfl) ?_
    refine lv_bipush (v := (nI 6)) hx hb d_D_end_31 (by decide) ?_
    refine nu_ne (tgt := 50) hx hb (by omega) (by omega) d_D_end_33 (by decide) (fun c0 => ?_) (fun c0 => ?_)
    · exact absurd c0 (by omega)
    · refine lv_aload_n hx hb d_D_end_36 rfl (lv_at hl 4 rfl) ?_
      refine va_get (D := (dC, dI)) (ci := 5) (v := .ref (md 32)) (C := R_D) (T := F_D) (N := 36) hx hb hg in_D hown hK (hP.one r36) 0 rfl rfl 32 (by decide) (hg _ k_623) (fun _ h9 => h9) rfl d_D_end_37 ?_
      refine lv_iload_n hx hb d_D_end_40 rfl (lv_at hl 5 rfl) ?_
      refine fw_iald (tys := tyl dA) hx hb hK hP r32 0 rfl (j := f) (by omega) (by decide) d_D_end_41 ?_
      refine nu_zne (tgt := 50) hx hb (by omega) d_D_end_42 (by decide) (fun c5 => ?_) (fun c5 => ?_)
      · refine lv_iload_n hx hb d_D_end_50 rfl (lv_at hl 2 rfl) ?_
        refine lv_iconst (v := (nI 3)) hx hb d_D_end_51 (by decide) ?_
        refine nu_eq (tgt := 60) hx hb (by omega) (by omega) d_D_end_52 (by decide) (fun c0 => ?_) (fun c0 => ?_)
        · exact absurd c0 (by omega)
        · refine lv_iload_n hx hb d_D_end_55 rfl (lv_at hl 2 rfl) ?_
          refine lv_iconst (v := (nI 5)) hx hb d_D_end_56 (by decide) ?_
          refine nu_ne (tgt := 72) hx hb (by omega) (by omega) d_D_end_57 (by decide) (fun c0 => ?_) (fun c0 => ?_)
          · refine lv_iload_n hx hb d_D_end_72 rfl (lv_at hl 2 rfl) ?_
            refine lv_bipush (v := (nI 9)) hx hb d_D_end_73 (by decide) ?_
            refine nu_ne (tgt := 95) hx hb (by omega) (by omega) d_D_end_75 (by decide) (fun c0 => ?_) (fun c0 => ?_)
            · refine lv_aload_n hx hb d_D_end_95 rfl (lv_at hl 4 rfl) ?_
              refine va_get (D := (dC, dI)) (ci := 5) (v := .int (nI (m_thr μ))) (C := R_D) (T := F_D) (N := 36) hx hb hg in_D hown hK (hP.one r36) 0 rfl rfl 20 (by decide) (hg _ k_611) (fun _ h9 => h9) rfl d_D_end_96 ?_
              refine nu_zle (tgt := 103) hx hb (by omega) d_D_end_99 (by decide) (fun c8 => ?_) (fun c8 => ?_)
              · refine lv_iload_n hx hb d_D_end_103 rfl (lv_at hl 2 rfl) ?_
                refine lv_iconst (v := (nI 3)) hx hb d_D_end_104 (by decide) ?_
                refine nu_ne (tgt := 119) hx hb (by omega) (by omega) d_D_end_105 (by decide) (fun c0 => ?_) (fun c0 => ?_)
                · refine lv_iload_n hx hb d_D_end_119 rfl (lv_at hl 2 rfl) ?_
                  refine lv_iconst (v := (nI 5)) hx hb d_D_end_120 (by decide) ?_
                  refine nu_ne (tgt := 135) hx hb (by omega) (by omega) d_D_end_121 (by decide) (fun c0 => ?_) (fun c0 => ?_)
                  · refine lv_iload_n hx hb d_D_end_135 rfl (lv_at hl 2 rfl) ?_
                    refine lv_bipush (v := (nI 8)) hx hb d_D_end_136 (by decide) ?_
                    refine nu_ne (tgt := 146) hx hb (by omega) (by omega) d_D_end_138 (by decide) (fun c0 => ?_) (fun c0 => ?_)
                    · refine lv_iload_n hx hb d_D_end_146 rfl (lv_at hl 2 rfl) ?_
                      refine lv_bipush (v := (nI 9)) hx hb d_D_end_147 (by decide) ?_
                      refine nu_ne (tgt := 160) hx hb (by omega) (by omega) d_D_end_149 (by decide) (fun c0 => ?_) (fun c0 => ?_)
                      · exact tail _ ls (lv_sub hl [4, 5, 3, 2, 1, 0] rfl) (by unfold dEndV; rw [if_neg (by omega), if_neg (by omega), if_neg (by omega), if_neg (by omega)])
                      · exact absurd c0 (by omega)
                    · exact absurd c0 (by omega)
                  · exact absurd c0 (by omega)
                · exact absurd c0 (by omega)
              · exact absurd c8 (by omega)
            · exact absurd c0 (by omega)
          · exact absurd c0 (by omega)
      · exact absurd hC (by unfold dEndC; rw [if_pos ⟨hrr, c5⟩]; omega)
  · refine lv_iload_n hx hb d_D_end_30 rfl (lv_at hl 2 rfl) ?_
    refine lv_bipush (v := (nI 6)) hx hb d_D_end_31 (by decide) ?_
    refine nu_ne (tgt := 50) hx hb (by omega) (by omega) d_D_end_33 (by decide) (fun c0 => ?_) (fun c0 => ?_)
    · refine lv_iload_n hx hb d_D_end_50 rfl (lv_at hl 2 rfl) ?_
      refine lv_iconst (v := (nI 3)) hx hb d_D_end_51 (by decide) ?_
      refine nu_eq (tgt := 60) hx hb (by omega) (by omega) d_D_end_52 (by decide) (fun c0 => ?_) (fun c0 => ?_)
      · exact absurd c0 (by omega)
      · refine lv_iload_n hx hb d_D_end_55 rfl (lv_at hl 2 rfl) ?_
        refine lv_iconst (v := (nI 5)) hx hb d_D_end_56 (by decide) ?_
        refine nu_ne (tgt := 72) hx hb (by omega) (by omega) d_D_end_57 (by decide) (fun c0 => ?_) (fun c0 => ?_)
        · refine lv_iload_n hx hb d_D_end_72 rfl (lv_at hl 2 rfl) ?_
          refine lv_bipush (v := (nI 9)) hx hb d_D_end_73 (by decide) ?_
          refine nu_ne (tgt := 95) hx hb (by omega) (by omega) d_D_end_75 (by decide) (fun c0 => ?_) (fun c0 => ?_)
          · refine lv_aload_n hx hb d_D_end_95 rfl (lv_at hl 4 rfl) ?_
            refine va_get (D := (dC, dI)) (ci := 5) (v := .int (nI (m_thr μ))) (C := R_D) (T := F_D) (N := 36) hx hb hg in_D hown hK (hP.one r36) 0 rfl rfl 20 (by decide) (hg _ k_611) (fun _ h9 => h9) rfl d_D_end_96 ?_
            refine nu_zle (tgt := 103) hx hb (by omega) d_D_end_99 (by decide) (fun c8 => ?_) (fun c8 => ?_)
            · refine lv_iload_n hx hb d_D_end_103 rfl (lv_at hl 2 rfl) ?_
              refine lv_iconst (v := (nI 3)) hx hb d_D_end_104 (by decide) ?_
              refine nu_ne (tgt := 119) hx hb (by omega) (by omega) d_D_end_105 (by decide) (fun c0 => ?_) (fun c0 => ?_)
              · refine lv_iload_n hx hb d_D_end_119 rfl (lv_at hl 2 rfl) ?_
                refine lv_iconst (v := (nI 5)) hx hb d_D_end_120 (by decide) ?_
                refine nu_ne (tgt := 135) hx hb (by omega) (by omega) d_D_end_121 (by decide) (fun c0 => ?_) (fun c0 => ?_)
                · refine lv_iload_n hx hb d_D_end_135 rfl (lv_at hl 2 rfl) ?_
                  refine lv_bipush (v := (nI 8)) hx hb d_D_end_136 (by decide) ?_
                  refine nu_ne (tgt := 146) hx hb (by omega) (by omega) d_D_end_138 (by decide) (fun c0 => ?_) (fun c0 => ?_)
                  · refine lv_iload_n hx hb d_D_end_146 rfl (lv_at hl 2 rfl) ?_
                    refine lv_bipush (v := (nI 9)) hx hb d_D_end_147 (by decide) ?_
                    refine nu_ne (tgt := 160) hx hb (by omega) (by omega) d_D_end_149 (by decide) (fun c0 => ?_) (fun c0 => ?_)
                    · exact tail _ ls (lv_sub hl [4, 5, 3, 2, 1, 0] rfl) (by unfold dEndV; rw [if_neg (by omega), if_neg (by omega), if_neg (by omega), if_neg (by omega)])
                    · exact absurd c0 (by omega)
                  · exact absurd c0 (by omega)
                · exact absurd c0 (by omega)
              · exact absurd c0 (by omega)
            · exact absurd c8 (by omega)
          · exact absurd c0 (by omega)
        · exact absurd c0 (by omega)
    · exact absurd c0 (by omega)
  · refine lv_iload_n hx hb d_D_end_30 rfl (lv_at hl 2 rfl) ?_
    refine lv_bipush (v := (nI 6)) hx hb d_D_end_31 (by decide) ?_
    refine nu_ne (tgt := 50) hx hb (by omega) (by omega) d_D_end_33 (by decide) (fun c0 => ?_) (fun c0 => ?_)
    · refine lv_iload_n hx hb d_D_end_50 rfl (lv_at hl 2 rfl) ?_
      refine lv_iconst (v := (nI 3)) hx hb d_D_end_51 (by decide) ?_
      refine nu_eq (tgt := 60) hx hb (by omega) (by omega) d_D_end_52 (by decide) (fun c0 => ?_) (fun c0 => ?_)
      · exact absurd c0 (by omega)
      · refine lv_iload_n hx hb d_D_end_55 rfl (lv_at hl 2 rfl) ?_
        refine lv_iconst (v := (nI 5)) hx hb d_D_end_56 (by decide) ?_
        refine nu_ne (tgt := 72) hx hb (by omega) (by omega) d_D_end_57 (by decide) (fun c0 => ?_) (fun c0 => ?_)
        · refine lv_iload_n hx hb d_D_end_72 rfl (lv_at hl 2 rfl) ?_
          refine lv_bipush (v := (nI 9)) hx hb d_D_end_73 (by decide) ?_
          refine nu_ne (tgt := 95) hx hb (by omega) (by omega) d_D_end_75 (by decide) (fun c0 => ?_) (fun c0 => ?_)
          · refine lv_aload_n hx hb d_D_end_95 rfl (lv_at hl 4 rfl) ?_
            refine va_get (D := (dC, dI)) (ci := 5) (v := .int (nI (m_thr μ))) (C := R_D) (T := F_D) (N := 36) hx hb hg in_D hown hK (hP.one r36) 0 rfl rfl 20 (by decide) (hg _ k_611) (fun _ h9 => h9) rfl d_D_end_96 ?_
            refine nu_zle (tgt := 103) hx hb (by omega) d_D_end_99 (by decide) (fun c8 => ?_) (fun c8 => ?_)
            · refine lv_iload_n hx hb d_D_end_103 rfl (lv_at hl 2 rfl) ?_
              refine lv_iconst (v := (nI 3)) hx hb d_D_end_104 (by decide) ?_
              refine nu_ne (tgt := 119) hx hb (by omega) (by omega) d_D_end_105 (by decide) (fun c0 => ?_) (fun c0 => ?_)
              · refine lv_iload_n hx hb d_D_end_119 rfl (lv_at hl 2 rfl) ?_
                refine lv_iconst (v := (nI 5)) hx hb d_D_end_120 (by decide) ?_
                refine nu_ne (tgt := 135) hx hb (by omega) (by omega) d_D_end_121 (by decide) (fun c0 => ?_) (fun c0 => ?_)
                · refine lv_iload_n hx hb d_D_end_135 rfl (lv_at hl 2 rfl) ?_
                  refine lv_bipush (v := (nI 8)) hx hb d_D_end_136 (by decide) ?_
                  refine nu_ne (tgt := 146) hx hb (by omega) (by omega) d_D_end_138 (by decide) (fun c0 => ?_) (fun c0 => ?_)
                  · exact absurd c0 (by omega)
                  · refine lv_ldc2 (v := 7) hx hb hown (hg _ k_754) d_D_end_141 ?_
                    refine lv_lstore (lv' := [(5, .long 7), (4, .int (nI ((m_mk μ) f))), (3, .int (nI ((m_rule μ) ((m_key μ) f)))), (2, .int (nI ((m_key μ) f))), (0, .ref (md 36)), (1, .int (nI f))]) hx hb d_D_end_144 hl (by decide) rfl (fun ls hl => ?_)
                    refine lv_iload_n hx hb d_D_end_146 rfl (lv_at hl 2 rfl) ?_
                    refine lv_bipush (v := (nI 9)) hx hb d_D_end_147 (by decide) ?_
                    refine nu_ne (tgt := 160) hx hb (by omega) (by omega) d_D_end_149 (by decide) (fun c0 => ?_) (fun c0 => ?_)
                    · exact tail _ ls (lv_sub hl [4, 5, 3, 2, 1, 0] rfl) (by unfold dEndV; rw [if_neg (by omega), if_neg (by omega), if_pos hrr])
                    · exact absurd c0 (by omega)
                · exact absurd c0 (by omega)
              · exact absurd c0 (by omega)
            · exact absurd c8 (by omega)
          · exact absurd c0 (by omega)
        · exact absurd c0 (by omega)
    · exact absurd c0 (by omega)
  · refine lv_iload_n hx hb d_D_end_30 rfl (lv_at hl 2 rfl) ?_
    refine lv_bipush (v := (nI 6)) hx hb d_D_end_31 (by decide) ?_
    refine nu_ne (tgt := 50) hx hb (by omega) (by omega) d_D_end_33 (by decide) (fun c0 => ?_) (fun c0 => ?_)
    · refine lv_iload_n hx hb d_D_end_50 rfl (lv_at hl 2 rfl) ?_
      refine lv_iconst (v := (nI 3)) hx hb d_D_end_51 (by decide) ?_
      refine nu_eq (tgt := 60) hx hb (by omega) (by omega) d_D_end_52 (by decide) (fun c0 => ?_) (fun c0 => ?_)
      · exact absurd c0 (by omega)
      · refine lv_iload_n hx hb d_D_end_55 rfl (lv_at hl 2 rfl) ?_
        refine lv_iconst (v := (nI 5)) hx hb d_D_end_56 (by decide) ?_
        refine nu_ne (tgt := 72) hx hb (by omega) (by omega) d_D_end_57 (by decide) (fun c0 => ?_) (fun c0 => ?_)
        · refine lv_iload_n hx hb d_D_end_72 rfl (lv_at hl 2 rfl) ?_
          refine lv_bipush (v := (nI 9)) hx hb d_D_end_73 (by decide) ?_
          refine nu_ne (tgt := 95) hx hb (by omega) (by omega) d_D_end_75 (by decide) (fun c0 => ?_) (fun c0 => ?_)
          · exact absurd c0 (by omega)
          · refine lv_aload_n hx hb d_D_end_78 rfl (lv_at hl 4 rfl) ?_
            refine va_get (D := (dC, dI)) (ci := 5) (v := .ref (md 33)) (C := R_D) (T := F_D) (N := 36) hx hb hg in_D hown hK (hP.one r36) 0 rfl rfl 33 (by decide) (hg _ k_624) (fun _ h9 => h9) rfl d_D_end_79 ?_
            refine lv_iload_n hx hb d_D_end_82 rfl (lv_at hl 5 rfl) ?_
            refine fw_lald (tys := tyl dA) hx hb hK hP r33 1 rfl (j := f) (by omega) (by decide) d_D_end_83 ?_
            refine lv_lload hx hb d_D_end_84 (lv_at hl 0 rfl) ?_
            refine W.lcmp hx hb d_D_end_86 ?_
            refine lv_if_le (tgt := 95) hx hb d_D_end_87 (by decide) (fun c7 => ?_) (fun c7 => ?_)
            · have hle : ¬ m_sum μ f < m_first μ f := fun h9 => absurd ((lg_cmp_le _ _).mp c7) (Int64.not_le.mpr h9)
              refine lv_aload_n hx hb d_D_end_95 rfl (lv_at hl 4 rfl) ?_
              refine va_get (D := (dC, dI)) (ci := 5) (v := .int (nI (m_thr μ))) (C := R_D) (T := F_D) (N := 36) hx hb hg in_D hown hK (hP.one r36) 0 rfl rfl 20 (by decide) (hg _ k_611) (fun _ h9 => h9) rfl d_D_end_96 ?_
              refine nu_zle (tgt := 103) hx hb (by omega) d_D_end_99 (by decide) (fun c8 => ?_) (fun c8 => ?_)
              · refine lv_iload_n hx hb d_D_end_103 rfl (lv_at hl 2 rfl) ?_
                refine lv_iconst (v := (nI 3)) hx hb d_D_end_104 (by decide) ?_
                refine nu_ne (tgt := 119) hx hb (by omega) (by omega) d_D_end_105 (by decide) (fun c0 => ?_) (fun c0 => ?_)
                · refine lv_iload_n hx hb d_D_end_119 rfl (lv_at hl 2 rfl) ?_
                  refine lv_iconst (v := (nI 5)) hx hb d_D_end_120 (by decide) ?_
                  refine nu_ne (tgt := 135) hx hb (by omega) (by omega) d_D_end_121 (by decide) (fun c0 => ?_) (fun c0 => ?_)
                  · refine lv_iload_n hx hb d_D_end_135 rfl (lv_at hl 2 rfl) ?_
                    refine lv_bipush (v := (nI 8)) hx hb d_D_end_136 (by decide) ?_
                    refine nu_ne (tgt := 146) hx hb (by omega) (by omega) d_D_end_138 (by decide) (fun c0 => ?_) (fun c0 => ?_)
                    · refine lv_iload_n hx hb d_D_end_146 rfl (lv_at hl 2 rfl) ?_
                      refine lv_bipush (v := (nI 9)) hx hb d_D_end_147 (by decide) ?_
                      refine nu_ne (tgt := 160) hx hb (by omega) (by omega) d_D_end_149 (by decide) (fun c0 => ?_) (fun c0 => ?_)
                      · exact absurd c0 (by omega)
                      · refine lv_aload_n hx hb d_D_end_152 rfl (lv_at hl 4 rfl) ?_
                        refine va_get (D := (dC, dI)) (ci := 5) (v := .ref (md 33)) (C := R_D) (T := F_D) (N := 36) hx hb hg in_D hown hK (hP.one r36) 0 rfl rfl 33 (by decide) (hg _ k_624) (fun _ h9 => h9) rfl d_D_end_153 ?_
                        refine lv_iload_n hx hb d_D_end_156 rfl (lv_at hl 5 rfl) ?_
                        refine fw_lald (tys := tyl dA) hx hb hK hP r33 1 rfl (j := f) (by omega) (by decide) d_D_end_157 ?_
                        refine lv_lstore (lv' := [(5, .long ((m_first μ) f)), (4, .int (nI ((m_mk μ) f))), (3, .int (nI ((m_rule μ) ((m_key μ) f)))), (2, .int (nI ((m_key μ) f))), (0, .ref (md 36)), (1, .int (nI f))]) hx hb d_D_end_158 hl (by decide) rfl (fun ls hl => ?_)
                        exact tail _ ls (lv_sub hl [4, 5, 3, 2, 1, 0] rfl) (by unfold dEndV; rw [if_neg (by omega), if_neg (by omega), if_neg (by omega), if_pos hrr])
                    · exact absurd c0 (by omega)
                  · exact absurd c0 (by omega)
                · exact absurd c0 (by omega)
              · exact absurd c8 (by omega)
            · have hgt : m_sum μ f < m_first μ f := Int64.not_le.mp (fun h8 => c7 ((lg_cmp_le _ _).mpr h8))
              exact absurd hC (by unfold dEndC; rw [if_neg (fun h9 => by omega), if_neg (fun h9 => by omega), if_pos ⟨hrr, hgt⟩]; omega)
        · exact absurd c0 (by omega)
    · exact absurd c0 (by omega)
set_option maxHeartbeats 4000000 in
set_option maxRecDepth 100000 in
theorem c_D_endT {l : Launch} {s0 : State} {dC : Nat → ClassId} {dI : Nat → Nat → Nat} {dA : Nat → ClassId} (B0 : BB s0 dC dI dA) (w : fw_W) (md : Nat → Nat) (μ : MS) (f : Nat) (hj : Inj37 md) (hD : RD dA md w μ) (hok : eOK μ f) (hC : dEndC (m_rule μ (m_key μ f)) (m_asked μ f) (m_first μ f) (m_sum μ f) ≠ 0) : Met l y_D_end [.code y_D_end b_D_end 7 none] ({ frames := 1, cells := 0, slots := 0, locals := 40 }) (mP s0 dC dI w [.ref (md 36), .int (nI f)]) (mQv s0 dC dI (fun w' => RD dA md w' (dThr (dEndC (m_rule μ (m_key μ f)) (m_asked μ f) (m_first μ f) (m_sum μ f)) μ) ∧ OutD md w w')) 0 0 (AA s0) := by
  obtain ⟨e1, e2, e3, e4, e5, e6, e7, e8, e10⟩ := (id hok)
  have hr10 := e3
  refine mt_ofW B0 (by decide) (Nat.le_of_ble_eq_true rfl) (fun p e s m args below meth c ls hargs X hin hl hP => ?_)
  have X9 := X
  obtain ⟨hx, hb, hr, hml, hown, hg, hK, hn, hE, hlocks, hA⟩ := X9
  have hS : va_S (AA s0) s.heap s.heap [] := va_S.rf
  have hl : lv_has ls 7 [(0, .ref (md 36)), (1, .int (nI f))] := hl
  obtain ⟨r36, r0, r1, r2, r3, r4, r5, r6, r7, r8, ⟨u, r9⟩, r10, r11, r12, r13, r14, r15, r23, r24, r25, r26, r27, r28, r29, r30, r31, r32, r33, r34⟩ := (id hD)
  refine lv_aload_n hx hb d_D_end_0 rfl (lv_at hl 0 rfl) ?_
  refine va_get (D := (dC, dI)) (ci := 5) (v := .ref (md 25)) (C := R_D) (T := F_D) (N := 36) hx hb hg in_D hown hK (hP.one r36) 0 rfl rfl 25 (by decide) (hg _ k_616) (fun _ h9 => h9) rfl d_D_end_1 ?_
  refine lv_iload_n hx hb d_D_end_4 rfl (lv_at hl 1 rfl) ?_
  refine fw_iald (tys := tyl dA) hx hb hK hP r25 0 rfl (j := f) (by omega) (by decide) d_D_end_5 ?_
  refine lv_istore_n (lv' := [(2, .int (nI ((m_key μ) f))), (0, .ref (md 36)), (1, .int (nI f))]) hx hb d_D_end_6 rfl hl (by decide) rfl (fun ls hl => ?_)
  refine lv_aload_n hx hb d_D_end_7 rfl (lv_at hl 1 rfl) ?_
  refine va_get (D := (dC, dI)) (ci := 5) (v := .ref (md 1)) (C := R_D) (T := F_D) (N := 36) hx hb hg in_D hown hK (hP.one r36) 0 rfl rfl 1 (by decide) (hg _ k_592) (fun _ h9 => h9) rfl d_D_end_8 ?_
  refine lv_iload_n hx hb d_D_end_11 rfl (lv_at hl 0 rfl) ?_
  refine fw_iald (tys := tyl dA) hx hb hK hP r1 0 rfl (j := (m_key μ) f) (by omega) (by decide) d_D_end_12 ?_
  refine lv_istore_n (lv' := [(3, .int (nI ((m_rule μ) ((m_key μ) f)))), (2, .int (nI ((m_key μ) f))), (0, .ref (md 36)), (1, .int (nI f))]) hx hb d_D_end_13 rfl hl (by decide) rfl (fun ls hl => ?_)
  refine lv_aload_n hx hb d_D_end_14 rfl (lv_at hl 2 rfl) ?_
  refine va_get (D := (dC, dI)) (ci := 5) (v := .ref (md 31)) (C := R_D) (T := F_D) (N := 36) hx hb hg in_D hown hK (hP.one r36) 0 rfl rfl 31 (by decide) (hg _ k_622) (fun _ h9 => h9) rfl d_D_end_15 ?_
  refine lv_iload_n hx hb d_D_end_18 rfl (lv_at hl 3 rfl) ?_
  refine fw_iald (tys := tyl dA) hx hb hK hP r31 0 rfl (j := f) (by omega) (by decide) d_D_end_19 ?_
  refine lv_istore (lv' := [(4, .int (nI ((m_mk μ) f))), (3, .int (nI ((m_rule μ) ((m_key μ) f)))), (2, .int (nI ((m_key μ) f))), (0, .ref (md 36)), (1, .int (nI f))]) hx hb d_D_end_20 hl (by decide) rfl (fun ls hl => ?_)
  refine lv_aload_n hx hb d_D_end_22 rfl (lv_at hl 3 rfl) ?_
  refine va_get (D := (dC, dI)) (ci := 5) (v := .ref (md 34)) (C := R_D) (T := F_D) (N := 36) hx hb hg in_D hown hK (hP.one r36) 0 rfl rfl 34 (by decide) (hg _ k_625) (fun _ h9 => h9) rfl d_D_end_23 ?_
  refine lv_iload_n hx hb d_D_end_26 rfl (lv_at hl 4 rfl) ?_
  refine fw_lald (tys := tyl dA) hx hb hK hP r34 1 rfl (j := f) (by omega) (by decide) d_D_end_27 ?_
  refine lv_lstore (lv' := [(5, .long ((m_sum μ) f)), (4, .int (nI ((m_mk μ) f))), (3, .int (nI ((m_rule μ) ((m_key μ) f)))), (2, .int (nI ((m_key μ) f))), (0, .ref (md 36)), (1, .int (nI f))]) hx hb d_D_end_28 hl (by decide) rfl (fun ls hl => ?_)
  rcases (show m_rule μ (m_key μ f) = 0 ∨ m_rule μ (m_key μ f) = 1 ∨ m_rule μ (m_key μ f) = 2 ∨ m_rule μ (m_key μ f) = 3 ∨ m_rule μ (m_key μ f) = 4 ∨ m_rule μ (m_key μ f) = 5 ∨ m_rule μ (m_key μ f) = 6 ∨ m_rule μ (m_key μ f) = 7 ∨ m_rule μ (m_key μ f) = 8 ∨ m_rule μ (m_key μ f) = 9 by omega) with hrr | hrr | hrr | hrr | hrr | hrr | hrr | hrr | hrr | hrr
  · refine lv_iload_n hx hb d_D_end_30 rfl (lv_at hl 2 rfl) ?_
    refine lv_bipush (v := (nI 6)) hx hb d_D_end_31 (by decide) ?_
    refine nu_ne (tgt := 50) hx hb (by omega) (by omega) d_D_end_33 (by decide) (fun c0 => ?_) (fun c0 => ?_)
    · refine lv_iload_n hx hb d_D_end_50 rfl (lv_at hl 2 rfl) ?_
      refine lv_iconst (v := (nI 3)) hx hb d_D_end_51 (by decide) ?_
      refine nu_eq (tgt := 60) hx hb (by omega) (by omega) d_D_end_52 (by decide) (fun c0 => ?_) (fun c0 => ?_)
      · exact absurd c0 (by omega)
      · refine lv_iload_n hx hb d_D_end_55 rfl (lv_at hl 2 rfl) ?_
        refine lv_iconst (v := (nI 5)) hx hb d_D_end_56 (by decide) ?_
        refine nu_ne (tgt := 72) hx hb (by omega) (by omega) d_D_end_57 (by decide) (fun c0 => ?_) (fun c0 => ?_)
        · refine lv_iload_n hx hb d_D_end_72 rfl (lv_at hl 2 rfl) ?_
          refine lv_bipush (v := (nI 9)) hx hb d_D_end_73 (by decide) ?_
          refine nu_ne (tgt := 95) hx hb (by omega) (by omega) d_D_end_75 (by decide) (fun c0 => ?_) (fun c0 => ?_)
          · refine lv_aload_n hx hb d_D_end_95 rfl (lv_at hl 4 rfl) ?_
            refine va_get (D := (dC, dI)) (ci := 5) (v := .int (nI (m_thr μ))) (C := R_D) (T := F_D) (N := 36) hx hb hg in_D hown hK (hP.one r36) 0 rfl rfl 20 (by decide) (hg _ k_611) (fun _ h9 => h9) rfl d_D_end_96 ?_
            exact absurd (by unfold dEndC; rw [if_neg (fun h9 => by omega), if_neg (fun h9 => by omega), if_neg (fun h9 => by omega)]) hC
          · exact absurd c0 (by omega)
        · exact absurd c0 (by omega)
    · exact absurd c0 (by omega)
  · refine lv_iload_n hx hb d_D_end_30 rfl (lv_at hl 2 rfl) ?_
    refine lv_bipush (v := (nI 6)) hx hb d_D_end_31 (by decide) ?_
    refine nu_ne (tgt := 50) hx hb (by omega) (by omega) d_D_end_33 (by decide) (fun c0 => ?_) (fun c0 => ?_)
    · refine lv_iload_n hx hb d_D_end_50 rfl (lv_at hl 2 rfl) ?_
      refine lv_iconst (v := (nI 3)) hx hb d_D_end_51 (by decide) ?_
      refine nu_eq (tgt := 60) hx hb (by omega) (by omega) d_D_end_52 (by decide) (fun c0 => ?_) (fun c0 => ?_)
      · exact absurd c0 (by omega)
      · refine lv_iload_n hx hb d_D_end_55 rfl (lv_at hl 2 rfl) ?_
        refine lv_iconst (v := (nI 5)) hx hb d_D_end_56 (by decide) ?_
        refine nu_ne (tgt := 72) hx hb (by omega) (by omega) d_D_end_57 (by decide) (fun c0 => ?_) (fun c0 => ?_)
        · refine lv_iload_n hx hb d_D_end_72 rfl (lv_at hl 2 rfl) ?_
          refine lv_bipush (v := (nI 9)) hx hb d_D_end_73 (by decide) ?_
          refine nu_ne (tgt := 95) hx hb (by omega) (by omega) d_D_end_75 (by decide) (fun c0 => ?_) (fun c0 => ?_)
          · refine lv_aload_n hx hb d_D_end_95 rfl (lv_at hl 4 rfl) ?_
            refine va_get (D := (dC, dI)) (ci := 5) (v := .int (nI (m_thr μ))) (C := R_D) (T := F_D) (N := 36) hx hb hg in_D hown hK (hP.one r36) 0 rfl rfl 20 (by decide) (hg _ k_611) (fun _ h9 => h9) rfl d_D_end_96 ?_
            exact absurd (by unfold dEndC; rw [if_neg (fun h9 => by omega), if_neg (fun h9 => by omega), if_neg (fun h9 => by omega)]) hC
          · exact absurd c0 (by omega)
        · exact absurd c0 (by omega)
    · exact absurd c0 (by omega)
  · refine lv_iload_n hx hb d_D_end_30 rfl (lv_at hl 2 rfl) ?_
    refine lv_bipush (v := (nI 6)) hx hb d_D_end_31 (by decide) ?_
    refine nu_ne (tgt := 50) hx hb (by omega) (by omega) d_D_end_33 (by decide) (fun c0 => ?_) (fun c0 => ?_)
    · refine lv_iload_n hx hb d_D_end_50 rfl (lv_at hl 2 rfl) ?_
      refine lv_iconst (v := (nI 3)) hx hb d_D_end_51 (by decide) ?_
      refine nu_eq (tgt := 60) hx hb (by omega) (by omega) d_D_end_52 (by decide) (fun c0 => ?_) (fun c0 => ?_)
      · exact absurd c0 (by omega)
      · refine lv_iload_n hx hb d_D_end_55 rfl (lv_at hl 2 rfl) ?_
        refine lv_iconst (v := (nI 5)) hx hb d_D_end_56 (by decide) ?_
        refine nu_ne (tgt := 72) hx hb (by omega) (by omega) d_D_end_57 (by decide) (fun c0 => ?_) (fun c0 => ?_)
        · refine lv_iload_n hx hb d_D_end_72 rfl (lv_at hl 2 rfl) ?_
          refine lv_bipush (v := (nI 9)) hx hb d_D_end_73 (by decide) ?_
          refine nu_ne (tgt := 95) hx hb (by omega) (by omega) d_D_end_75 (by decide) (fun c0 => ?_) (fun c0 => ?_)
          · refine lv_aload_n hx hb d_D_end_95 rfl (lv_at hl 4 rfl) ?_
            refine va_get (D := (dC, dI)) (ci := 5) (v := .int (nI (m_thr μ))) (C := R_D) (T := F_D) (N := 36) hx hb hg in_D hown hK (hP.one r36) 0 rfl rfl 20 (by decide) (hg _ k_611) (fun _ h9 => h9) rfl d_D_end_96 ?_
            exact absurd (by unfold dEndC; rw [if_neg (fun h9 => by omega), if_neg (fun h9 => by omega), if_neg (fun h9 => by omega)]) hC
          · exact absurd c0 (by omega)
        · exact absurd c0 (by omega)
    · exact absurd c0 (by omega)
  · refine lv_iload_n hx hb d_D_end_30 rfl (lv_at hl 2 rfl) ?_
    refine lv_bipush (v := (nI 6)) hx hb d_D_end_31 (by decide) ?_
    refine nu_ne (tgt := 50) hx hb (by omega) (by omega) d_D_end_33 (by decide) (fun c0 => ?_) (fun c0 => ?_)
    · refine lv_iload_n hx hb d_D_end_50 rfl (lv_at hl 2 rfl) ?_
      refine lv_iconst (v := (nI 3)) hx hb d_D_end_51 (by decide) ?_
      refine nu_eq (tgt := 60) hx hb (by omega) (by omega) d_D_end_52 (by decide) (fun c0 => ?_) (fun c0 => ?_)
      · refine lv_lload hx hb d_D_end_60 (lv_at hl 0 rfl) ?_
        refine lv_lconst (v := 0) hx hb d_D_end_62 (by decide) ?_
        refine W.lcmp hx hb d_D_end_63 ?_
        refine lv_if_ne (tgt := 72) hx hb d_D_end_64 (by decide) (fun c6 => ?_) (fun c6 => ?_)
        · have hnz : m_sum μ f ≠ 0 := fun h9 => c6 ((lg_cmp_eq _ _).mpr h9)
          exact absurd (by unfold dEndC; rw [if_neg (fun h9 => by omega), if_neg (fun h9 => hnz h9.2), if_neg (fun h9 => by omega)]) hC
        · have hz : m_sum μ f = 0 := (lg_cmp_eq _ _).mp c6
          refine lv_aload_n hx hb d_D_end_67 rfl (lv_at hl 4 rfl) ?_
          refine lv_iconst (v := (nI 3)) hx hb d_D_end_68 (by decide) ?_
          refine fw_put (D := (dC, dI)) (ci := 5) (v := .int (nI 3)) (ty := .int) (C := R_D) (T := F_D) (N := 36) hx hb hg in_D ft_D ft_D_ok n_D hown hK hP hS r36 rfl 20 (by decide) (hg _ k_611) (fun _ h9 => h9) rfl (by decide +kernel) rfl rfl (Nat.le_of_ble_eq_true rfl) d_D_end_69 (fun w35 H locs ew36 hP hS => ?_)
          have r36 : w35 (md 36) = some (.inr (5, [.ref (md 0), .ref (md 1), .ref (md 2), .ref (md 3), .ref (md 4), .ref (md 5), .ref (md 6), .ref (md 7), .ref (md 8), .ref (md 9), .ref (md 10), .ref (md 11), .ref (md 12), .ref (md 13), .ref (md 14), .ref (md 15), .int (nI (m_cached μ)), .int (nI (m_ocached μ)), .int (m_circ μ), .int (m_ocirc μ), .int (nI 3), .int (nI (m_wkr μ)), .int (nI (m_ran μ).toNat), .ref (md 23), .ref (md 24), .ref (md 25), .ref (md 26), .ref (md 27), .ref (md 28), .ref (md 29), .ref (md 30), .ref (md 31), .ref (md 32), .ref (md 33), .ref (md 34), .int (nI (m_hgt μ))])) := by rw [ew36]; exact va_up_self _ _ _
          have ho37 : OutD md w w35 := OutD.up OutD.rf ew36 (by decide)
          refine lv_iload_n hx hb d_D_end_72 rfl (lv_at hl 2 rfl) ?_
          refine lv_bipush (v := (nI 9)) hx hb d_D_end_73 (by decide) ?_
          refine nu_ne (tgt := 95) hx hb (by omega) (by omega) d_D_end_75 (by decide) (fun c0 => ?_) (fun c0 => ?_)
          · refine lv_aload_n hx hb d_D_end_95 rfl (lv_at hl 4 rfl) ?_
            refine va_get (D := (dC, dI)) (ci := 5) (v := .int (nI 3)) (C := R_D) (T := F_D) (N := 36) hx hb hg in_D hown hK (hP.one r36) 0 rfl rfl 20 (by decide) (hg _ k_611) (fun _ h9 => h9) rfl d_D_end_96 ?_
            refine nu_zle (tgt := 103) hx hb (by omega) d_D_end_99 (by decide) (fun c8 => ?_) (fun c8 => ?_)
            · exact absurd c8 (by omega)
            · have hE38 : dEndC (m_rule μ (m_key μ f)) (m_asked μ f) (m_first μ f) (m_sum μ f) = 3 := by unfold dEndC; rw [if_neg (fun h9 => by omega), if_pos ⟨by omega, hz⟩]
              have hk39 : ∀ i, U37 i → i ∉ [36] → w35 (md i) = w (md i) := fun i hi hn => by rw [ew36, va_up_ne _ _ (hj.ne hi (j := 36) (by decide) (fun e9 => hn (by rw [e9]; decide)))]
              exact W.vret hx hb hr (fun tS ht hW => ⟨⟨w35, rfl, (by rw [hE38]; exact ⟨⟨r36, (hk39 0 (by decide) (by decide)).trans r0, (hk39 1 (by decide) (by decide)).trans r1, (hk39 2 (by decide) (by decide)).trans r2, (hk39 3 (by decide) (by decide)).trans r3, (hk39 4 (by decide) (by decide)).trans r4, (hk39 5 (by decide) (by decide)).trans r5, (hk39 6 (by decide) (by decide)).trans r6, (hk39 7 (by decide) (by decide)).trans r7, (hk39 8 (by decide) (by decide)).trans r8, ⟨_, (hk39 9 (by decide) (by decide)).trans r9⟩, (hk39 10 (by decide) (by decide)).trans r10, (hk39 11 (by decide) (by decide)).trans r11, (hk39 12 (by decide) (by decide)).trans r12, (hk39 13 (by decide) (by decide)).trans r13, (hk39 14 (by decide) (by decide)).trans r14, (hk39 15 (by decide) (by decide)).trans r15, (hk39 23 (by decide) (by decide)).trans r23, (hk39 24 (by decide) (by decide)).trans r24, (hk39 25 (by decide) (by decide)).trans r25, (hk39 26 (by decide) (by decide)).trans r26, (hk39 27 (by decide) (by decide)).trans r27, (hk39 28 (by decide) (by decide)).trans r28, (hk39 29 (by decide) (by decide)).trans r29, (hk39 30 (by decide) (by decide)).trans r30, (hk39 31 (by decide) (by decide)).trans r31, (hk39 32 (by decide) (by decide)).trans r32, (hk39 33 (by decide) (by decide)).trans r33, (hk39 34 (by decide) (by decide)).trans r34⟩, ho37⟩), mB_of ht hP⟩, hS.F ht⟩) hS.2.2 d_D_end_102
          · exact absurd c0 (by omega)
      · exact absurd c0 (by omega)
    · exact absurd c0 (by omega)
  · refine lv_iload_n hx hb d_D_end_30 rfl (lv_at hl 2 rfl) ?_
    refine lv_bipush (v := (nI 6)) hx hb d_D_end_31 (by decide) ?_
    refine nu_ne (tgt := 50) hx hb (by omega) (by omega) d_D_end_33 (by decide) (fun c0 => ?_) (fun c0 => ?_)
    · refine lv_iload_n hx hb d_D_end_50 rfl (lv_at hl 2 rfl) ?_
      refine lv_iconst (v := (nI 3)) hx hb d_D_end_51 (by decide) ?_
      refine nu_eq (tgt := 60) hx hb (by omega) (by omega) d_D_end_52 (by decide) (fun c0 => ?_) (fun c0 => ?_)
      · exact absurd c0 (by omega)
      · refine lv_iload_n hx hb d_D_end_55 rfl (lv_at hl 2 rfl) ?_
        refine lv_iconst (v := (nI 5)) hx hb d_D_end_56 (by decide) ?_
        refine nu_ne (tgt := 72) hx hb (by omega) (by omega) d_D_end_57 (by decide) (fun c0 => ?_) (fun c0 => ?_)
        · refine lv_iload_n hx hb d_D_end_72 rfl (lv_at hl 2 rfl) ?_
          refine lv_bipush (v := (nI 9)) hx hb d_D_end_73 (by decide) ?_
          refine nu_ne (tgt := 95) hx hb (by omega) (by omega) d_D_end_75 (by decide) (fun c0 => ?_) (fun c0 => ?_)
          · refine lv_aload_n hx hb d_D_end_95 rfl (lv_at hl 4 rfl) ?_
            refine va_get (D := (dC, dI)) (ci := 5) (v := .int (nI (m_thr μ))) (C := R_D) (T := F_D) (N := 36) hx hb hg in_D hown hK (hP.one r36) 0 rfl rfl 20 (by decide) (hg _ k_611) (fun _ h9 => h9) rfl d_D_end_96 ?_
            exact absurd (by unfold dEndC; rw [if_neg (fun h9 => by omega), if_neg (fun h9 => by omega), if_neg (fun h9 => by omega)]) hC
          · exact absurd c0 (by omega)
        · exact absurd c0 (by omega)
    · exact absurd c0 (by omega)
  · refine lv_iload_n hx hb d_D_end_30 rfl (lv_at hl 2 rfl) ?_
    refine lv_bipush (v := (nI 6)) hx hb d_D_end_31 (by decide) ?_
    refine nu_ne (tgt := 50) hx hb (by omega) (by omega) d_D_end_33 (by decide) (fun c0 => ?_) (fun c0 => ?_)
    · refine lv_iload_n hx hb d_D_end_50 rfl (lv_at hl 2 rfl) ?_
      refine lv_iconst (v := (nI 3)) hx hb d_D_end_51 (by decide) ?_
      refine nu_eq (tgt := 60) hx hb (by omega) (by omega) d_D_end_52 (by decide) (fun c0 => ?_) (fun c0 => ?_)
      · exact absurd c0 (by omega)
      · refine lv_iload_n hx hb d_D_end_55 rfl (lv_at hl 2 rfl) ?_
        refine lv_iconst (v := (nI 5)) hx hb d_D_end_56 (by decide) ?_
        refine nu_ne (tgt := 72) hx hb (by omega) (by omega) d_D_end_57 (by decide) (fun c0 => ?_) (fun c0 => ?_)
        · exact absurd c0 (by omega)
        · refine lv_lload hx hb d_D_end_60 (lv_at hl 0 rfl) ?_
          refine lv_lconst (v := 0) hx hb d_D_end_62 (by decide) ?_
          refine W.lcmp hx hb d_D_end_63 ?_
          refine lv_if_ne (tgt := 72) hx hb d_D_end_64 (by decide) (fun c6 => ?_) (fun c6 => ?_)
          · have hnz : m_sum μ f ≠ 0 := fun h9 => c6 ((lg_cmp_eq _ _).mpr h9)
            exact absurd (by unfold dEndC; rw [if_neg (fun h9 => by omega), if_neg (fun h9 => hnz h9.2), if_neg (fun h9 => by omega)]) hC
          · have hz : m_sum μ f = 0 := (lg_cmp_eq _ _).mp c6
            refine lv_aload_n hx hb d_D_end_67 rfl (lv_at hl 4 rfl) ?_
            refine lv_iconst (v := (nI 3)) hx hb d_D_end_68 (by decide) ?_
            refine fw_put (D := (dC, dI)) (ci := 5) (v := .int (nI 3)) (ty := .int) (C := R_D) (T := F_D) (N := 36) hx hb hg in_D ft_D ft_D_ok n_D hown hK hP hS r36 rfl 20 (by decide) (hg _ k_611) (fun _ h9 => h9) rfl (by decide +kernel) rfl rfl (Nat.le_of_ble_eq_true rfl) d_D_end_69 (fun w40 H locs ew41 hP hS => ?_)
            have r36 : w40 (md 36) = some (.inr (5, [.ref (md 0), .ref (md 1), .ref (md 2), .ref (md 3), .ref (md 4), .ref (md 5), .ref (md 6), .ref (md 7), .ref (md 8), .ref (md 9), .ref (md 10), .ref (md 11), .ref (md 12), .ref (md 13), .ref (md 14), .ref (md 15), .int (nI (m_cached μ)), .int (nI (m_ocached μ)), .int (m_circ μ), .int (m_ocirc μ), .int (nI 3), .int (nI (m_wkr μ)), .int (nI (m_ran μ).toNat), .ref (md 23), .ref (md 24), .ref (md 25), .ref (md 26), .ref (md 27), .ref (md 28), .ref (md 29), .ref (md 30), .ref (md 31), .ref (md 32), .ref (md 33), .ref (md 34), .int (nI (m_hgt μ))])) := by rw [ew41]; exact va_up_self _ _ _
            have ho42 : OutD md w w40 := OutD.up OutD.rf ew41 (by decide)
            refine lv_iload_n hx hb d_D_end_72 rfl (lv_at hl 2 rfl) ?_
            refine lv_bipush (v := (nI 9)) hx hb d_D_end_73 (by decide) ?_
            refine nu_ne (tgt := 95) hx hb (by omega) (by omega) d_D_end_75 (by decide) (fun c0 => ?_) (fun c0 => ?_)
            · refine lv_aload_n hx hb d_D_end_95 rfl (lv_at hl 4 rfl) ?_
              refine va_get (D := (dC, dI)) (ci := 5) (v := .int (nI 3)) (C := R_D) (T := F_D) (N := 36) hx hb hg in_D hown hK (hP.one r36) 0 rfl rfl 20 (by decide) (hg _ k_611) (fun _ h9 => h9) rfl d_D_end_96 ?_
              refine nu_zle (tgt := 103) hx hb (by omega) d_D_end_99 (by decide) (fun c8 => ?_) (fun c8 => ?_)
              · exact absurd c8 (by omega)
              · have hE43 : dEndC (m_rule μ (m_key μ f)) (m_asked μ f) (m_first μ f) (m_sum μ f) = 3 := by unfold dEndC; rw [if_neg (fun h9 => by omega), if_pos ⟨by omega, hz⟩]
                have hk44 : ∀ i, U37 i → i ∉ [36] → w40 (md i) = w (md i) := fun i hi hn => by rw [ew41, va_up_ne _ _ (hj.ne hi (j := 36) (by decide) (fun e9 => hn (by rw [e9]; decide)))]
                exact W.vret hx hb hr (fun tS ht hW => ⟨⟨w40, rfl, (by rw [hE43]; exact ⟨⟨r36, (hk44 0 (by decide) (by decide)).trans r0, (hk44 1 (by decide) (by decide)).trans r1, (hk44 2 (by decide) (by decide)).trans r2, (hk44 3 (by decide) (by decide)).trans r3, (hk44 4 (by decide) (by decide)).trans r4, (hk44 5 (by decide) (by decide)).trans r5, (hk44 6 (by decide) (by decide)).trans r6, (hk44 7 (by decide) (by decide)).trans r7, (hk44 8 (by decide) (by decide)).trans r8, ⟨_, (hk44 9 (by decide) (by decide)).trans r9⟩, (hk44 10 (by decide) (by decide)).trans r10, (hk44 11 (by decide) (by decide)).trans r11, (hk44 12 (by decide) (by decide)).trans r12, (hk44 13 (by decide) (by decide)).trans r13, (hk44 14 (by decide) (by decide)).trans r14, (hk44 15 (by decide) (by decide)).trans r15, (hk44 23 (by decide) (by decide)).trans r23, (hk44 24 (by decide) (by decide)).trans r24, (hk44 25 (by decide) (by decide)).trans r25, (hk44 26 (by decide) (by decide)).trans r26, (hk44 27 (by decide) (by decide)).trans r27, (hk44 28 (by decide) (by decide)).trans r28, (hk44 29 (by decide) (by decide)).trans r29, (hk44 30 (by decide) (by decide)).trans r30, (hk44 31 (by decide) (by decide)).trans r31, (hk44 32 (by decide) (by decide)).trans r32, (hk44 33 (by decide) (by decide)).trans r33, (hk44 34 (by decide) (by decide)).trans r34⟩, ho42⟩), mB_of ht hP⟩, hS.F ht⟩) hS.2.2 d_D_end_102
            · exact absurd c0 (by omega)
    · exact absurd c0 (by omega)
  · refine lv_iload_n hx hb d_D_end_30 rfl (lv_at hl 2 rfl) ?_
    refine lv_bipush (v := (nI 6)) hx hb d_D_end_31 (by decide) ?_
    refine nu_ne (tgt := 50) hx hb (by omega) (by omega) d_D_end_33 (by decide) (fun c0 => ?_) (fun c0 => ?_)
    · exact absurd c0 (by omega)
    · refine lv_aload_n hx hb d_D_end_36 rfl (lv_at hl 4 rfl) ?_
      refine va_get (D := (dC, dI)) (ci := 5) (v := .ref (md 32)) (C := R_D) (T := F_D) (N := 36) hx hb hg in_D hown hK (hP.one r36) 0 rfl rfl 32 (by decide) (hg _ k_623) (fun _ h9 => h9) rfl d_D_end_37 ?_
      refine lv_iload_n hx hb d_D_end_40 rfl (lv_at hl 5 rfl) ?_
      refine fw_iald (tys := tyl dA) hx hb hK hP r32 0 rfl (j := f) (by omega) (by decide) d_D_end_41 ?_
      refine nu_zne (tgt := 50) hx hb (by omega) d_D_end_42 (by decide) (fun c5 => ?_) (fun c5 => ?_)
      · exact absurd (by unfold dEndC; rw [if_neg (fun h9 => c5 h9.2), if_neg (fun h9 => by omega), if_neg (fun h9 => by omega)]) hC
      · refine lv_aload_n hx hb d_D_end_45 rfl (lv_at hl 4 rfl) ?_
        refine lv_iconst (v := (nI 2)) hx hb d_D_end_46 (by decide) ?_
        refine fw_put (D := (dC, dI)) (ci := 5) (v := .int (nI 2)) (ty := .int) (C := R_D) (T := F_D) (N := 36) hx hb hg in_D ft_D ft_D_ok n_D hown hK hP hS r36 rfl 20 (by decide) (hg _ k_611) (fun _ h9 => h9) rfl (by decide +kernel) rfl rfl (Nat.le_of_ble_eq_true rfl) d_D_end_47 (fun w45 H locs ew46 hP hS => ?_)
        have r36 : w45 (md 36) = some (.inr (5, [.ref (md 0), .ref (md 1), .ref (md 2), .ref (md 3), .ref (md 4), .ref (md 5), .ref (md 6), .ref (md 7), .ref (md 8), .ref (md 9), .ref (md 10), .ref (md 11), .ref (md 12), .ref (md 13), .ref (md 14), .ref (md 15), .int (nI (m_cached μ)), .int (nI (m_ocached μ)), .int (m_circ μ), .int (m_ocirc μ), .int (nI 2), .int (nI (m_wkr μ)), .int (nI (m_ran μ).toNat), .ref (md 23), .ref (md 24), .ref (md 25), .ref (md 26), .ref (md 27), .ref (md 28), .ref (md 29), .ref (md 30), .ref (md 31), .ref (md 32), .ref (md 33), .ref (md 34), .int (nI (m_hgt μ))])) := by rw [ew46]; exact va_up_self _ _ _
        have ho47 : OutD md w w45 := OutD.up OutD.rf ew46 (by decide)
        refine lv_iload_n hx hb d_D_end_50 rfl (lv_at hl 2 rfl) ?_
        refine lv_iconst (v := (nI 3)) hx hb d_D_end_51 (by decide) ?_
        refine nu_eq (tgt := 60) hx hb (by omega) (by omega) d_D_end_52 (by decide) (fun c0 => ?_) (fun c0 => ?_)
        · exact absurd c0 (by omega)
        · refine lv_iload_n hx hb d_D_end_55 rfl (lv_at hl 2 rfl) ?_
          refine lv_iconst (v := (nI 5)) hx hb d_D_end_56 (by decide) ?_
          refine nu_ne (tgt := 72) hx hb (by omega) (by omega) d_D_end_57 (by decide) (fun c0 => ?_) (fun c0 => ?_)
          · refine lv_iload_n hx hb d_D_end_72 rfl (lv_at hl 2 rfl) ?_
            refine lv_bipush (v := (nI 9)) hx hb d_D_end_73 (by decide) ?_
            refine nu_ne (tgt := 95) hx hb (by omega) (by omega) d_D_end_75 (by decide) (fun c0 => ?_) (fun c0 => ?_)
            · refine lv_aload_n hx hb d_D_end_95 rfl (lv_at hl 4 rfl) ?_
              refine va_get (D := (dC, dI)) (ci := 5) (v := .int (nI 2)) (C := R_D) (T := F_D) (N := 36) hx hb hg in_D hown hK (hP.one r36) 0 rfl rfl 20 (by decide) (hg _ k_611) (fun _ h9 => h9) rfl d_D_end_96 ?_
              refine nu_zle (tgt := 103) hx hb (by omega) d_D_end_99 (by decide) (fun c8 => ?_) (fun c8 => ?_)
              · exact absurd c8 (by omega)
              · have hE48 : dEndC (m_rule μ (m_key μ f)) (m_asked μ f) (m_first μ f) (m_sum μ f) = 2 := by unfold dEndC; rw [if_pos ⟨hrr, c5⟩]
                have hk49 : ∀ i, U37 i → i ∉ [36] → w45 (md i) = w (md i) := fun i hi hn => by rw [ew46, va_up_ne _ _ (hj.ne hi (j := 36) (by decide) (fun e9 => hn (by rw [e9]; decide)))]
                exact W.vret hx hb hr (fun tS ht hW => ⟨⟨w45, rfl, (by rw [hE48]; exact ⟨⟨r36, (hk49 0 (by decide) (by decide)).trans r0, (hk49 1 (by decide) (by decide)).trans r1, (hk49 2 (by decide) (by decide)).trans r2, (hk49 3 (by decide) (by decide)).trans r3, (hk49 4 (by decide) (by decide)).trans r4, (hk49 5 (by decide) (by decide)).trans r5, (hk49 6 (by decide) (by decide)).trans r6, (hk49 7 (by decide) (by decide)).trans r7, (hk49 8 (by decide) (by decide)).trans r8, ⟨_, (hk49 9 (by decide) (by decide)).trans r9⟩, (hk49 10 (by decide) (by decide)).trans r10, (hk49 11 (by decide) (by decide)).trans r11, (hk49 12 (by decide) (by decide)).trans r12, (hk49 13 (by decide) (by decide)).trans r13, (hk49 14 (by decide) (by decide)).trans r14, (hk49 15 (by decide) (by decide)).trans r15, (hk49 23 (by decide) (by decide)).trans r23, (hk49 24 (by decide) (by decide)).trans r24, (hk49 25 (by decide) (by decide)).trans r25, (hk49 26 (by decide) (by decide)).trans r26, (hk49 27 (by decide) (by decide)).trans r27, (hk49 28 (by decide) (by decide)).trans r28, (hk49 29 (by decide) (by decide)).trans r29, (hk49 30 (by decide) (by decide)).trans r30, (hk49 31 (by decide) (by decide)).trans r31, (hk49 32 (by decide) (by decide)).trans r32, (hk49 33 (by decide) (by decide)).trans r33, (hk49 34 (by decide) (by decide)).trans r34⟩, ho47⟩), mB_of ht hP⟩, hS.F ht⟩) hS.2.2 d_D_end_102
            · exact absurd c0 (by omega)
          · exact absurd c0 (by omega)
  · refine lv_iload_n hx hb d_D_end_30 rfl (lv_at hl 2 rfl) ?_
    refine lv_bipush (v := (nI 6)) hx hb d_D_end_31 (by decide) ?_
    refine nu_ne (tgt := 50) hx hb (by omega) (by omega) d_D_end_33 (by decide) (fun c0 => ?_) (fun c0 => ?_)
    · refine lv_iload_n hx hb d_D_end_50 rfl (lv_at hl 2 rfl) ?_
      refine lv_iconst (v := (nI 3)) hx hb d_D_end_51 (by decide) ?_
      refine nu_eq (tgt := 60) hx hb (by omega) (by omega) d_D_end_52 (by decide) (fun c0 => ?_) (fun c0 => ?_)
      · exact absurd c0 (by omega)
      · refine lv_iload_n hx hb d_D_end_55 rfl (lv_at hl 2 rfl) ?_
        refine lv_iconst (v := (nI 5)) hx hb d_D_end_56 (by decide) ?_
        refine nu_ne (tgt := 72) hx hb (by omega) (by omega) d_D_end_57 (by decide) (fun c0 => ?_) (fun c0 => ?_)
        · refine lv_iload_n hx hb d_D_end_72 rfl (lv_at hl 2 rfl) ?_
          refine lv_bipush (v := (nI 9)) hx hb d_D_end_73 (by decide) ?_
          refine nu_ne (tgt := 95) hx hb (by omega) (by omega) d_D_end_75 (by decide) (fun c0 => ?_) (fun c0 => ?_)
          · refine lv_aload_n hx hb d_D_end_95 rfl (lv_at hl 4 rfl) ?_
            refine va_get (D := (dC, dI)) (ci := 5) (v := .int (nI (m_thr μ))) (C := R_D) (T := F_D) (N := 36) hx hb hg in_D hown hK (hP.one r36) 0 rfl rfl 20 (by decide) (hg _ k_611) (fun _ h9 => h9) rfl d_D_end_96 ?_
            exact absurd (by unfold dEndC; rw [if_neg (fun h9 => by omega), if_neg (fun h9 => by omega), if_neg (fun h9 => by omega)]) hC
          · exact absurd c0 (by omega)
        · exact absurd c0 (by omega)
    · exact absurd c0 (by omega)
  · refine lv_iload_n hx hb d_D_end_30 rfl (lv_at hl 2 rfl) ?_
    refine lv_bipush (v := (nI 6)) hx hb d_D_end_31 (by decide) ?_
    refine nu_ne (tgt := 50) hx hb (by omega) (by omega) d_D_end_33 (by decide) (fun c0 => ?_) (fun c0 => ?_)
    · refine lv_iload_n hx hb d_D_end_50 rfl (lv_at hl 2 rfl) ?_
      refine lv_iconst (v := (nI 3)) hx hb d_D_end_51 (by decide) ?_
      refine nu_eq (tgt := 60) hx hb (by omega) (by omega) d_D_end_52 (by decide) (fun c0 => ?_) (fun c0 => ?_)
      · exact absurd c0 (by omega)
      · refine lv_iload_n hx hb d_D_end_55 rfl (lv_at hl 2 rfl) ?_
        refine lv_iconst (v := (nI 5)) hx hb d_D_end_56 (by decide) ?_
        refine nu_ne (tgt := 72) hx hb (by omega) (by omega) d_D_end_57 (by decide) (fun c0 => ?_) (fun c0 => ?_)
        · refine lv_iload_n hx hb d_D_end_72 rfl (lv_at hl 2 rfl) ?_
          refine lv_bipush (v := (nI 9)) hx hb d_D_end_73 (by decide) ?_
          refine nu_ne (tgt := 95) hx hb (by omega) (by omega) d_D_end_75 (by decide) (fun c0 => ?_) (fun c0 => ?_)
          · refine lv_aload_n hx hb d_D_end_95 rfl (lv_at hl 4 rfl) ?_
            refine va_get (D := (dC, dI)) (ci := 5) (v := .int (nI (m_thr μ))) (C := R_D) (T := F_D) (N := 36) hx hb hg in_D hown hK (hP.one r36) 0 rfl rfl 20 (by decide) (hg _ k_611) (fun _ h9 => h9) rfl d_D_end_96 ?_
            exact absurd (by unfold dEndC; rw [if_neg (fun h9 => by omega), if_neg (fun h9 => by omega), if_neg (fun h9 => by omega)]) hC
          · exact absurd c0 (by omega)
        · exact absurd c0 (by omega)
    · exact absurd c0 (by omega)
  · refine lv_iload_n hx hb d_D_end_30 rfl (lv_at hl 2 rfl) ?_
    refine lv_bipush (v := (nI 6)) hx hb d_D_end_31 (by decide) ?_
    refine nu_ne (tgt := 50) hx hb (by omega) (by omega) d_D_end_33 (by decide) (fun c0 => ?_) (fun c0 => ?_)
    · refine lv_iload_n hx hb d_D_end_50 rfl (lv_at hl 2 rfl) ?_
      refine lv_iconst (v := (nI 3)) hx hb d_D_end_51 (by decide) ?_
      refine nu_eq (tgt := 60) hx hb (by omega) (by omega) d_D_end_52 (by decide) (fun c0 => ?_) (fun c0 => ?_)
      · exact absurd c0 (by omega)
      · refine lv_iload_n hx hb d_D_end_55 rfl (lv_at hl 2 rfl) ?_
        refine lv_iconst (v := (nI 5)) hx hb d_D_end_56 (by decide) ?_
        refine nu_ne (tgt := 72) hx hb (by omega) (by omega) d_D_end_57 (by decide) (fun c0 => ?_) (fun c0 => ?_)
        · refine lv_iload_n hx hb d_D_end_72 rfl (lv_at hl 2 rfl) ?_
          refine lv_bipush (v := (nI 9)) hx hb d_D_end_73 (by decide) ?_
          refine nu_ne (tgt := 95) hx hb (by omega) (by omega) d_D_end_75 (by decide) (fun c0 => ?_) (fun c0 => ?_)
          · exact absurd c0 (by omega)
          · refine lv_aload_n hx hb d_D_end_78 rfl (lv_at hl 4 rfl) ?_
            refine va_get (D := (dC, dI)) (ci := 5) (v := .ref (md 33)) (C := R_D) (T := F_D) (N := 36) hx hb hg in_D hown hK (hP.one r36) 0 rfl rfl 33 (by decide) (hg _ k_624) (fun _ h9 => h9) rfl d_D_end_79 ?_
            refine lv_iload_n hx hb d_D_end_82 rfl (lv_at hl 5 rfl) ?_
            refine fw_lald (tys := tyl dA) hx hb hK hP r33 1 rfl (j := f) (by omega) (by decide) d_D_end_83 ?_
            refine lv_lload hx hb d_D_end_84 (lv_at hl 0 rfl) ?_
            refine W.lcmp hx hb d_D_end_86 ?_
            refine lv_if_le (tgt := 95) hx hb d_D_end_87 (by decide) (fun c7 => ?_) (fun c7 => ?_)
            · have hle : ¬ m_sum μ f < m_first μ f := fun h9 => absurd ((lg_cmp_le _ _).mp c7) (Int64.not_le.mpr h9)
              exact absurd (by unfold dEndC; rw [if_neg (fun h9 => by omega), if_neg (fun h9 => by omega), if_neg (fun h9 => hle h9.2)]) hC
            · have hgt : m_sum μ f < m_first μ f := Int64.not_le.mp (fun h8 => c7 ((lg_cmp_le _ _).mpr h8))
              refine lv_aload_n hx hb d_D_end_90 rfl (lv_at hl 4 rfl) ?_
              refine lv_iconst (v := (nI 4)) hx hb d_D_end_91 (by decide) ?_
              refine fw_put (D := (dC, dI)) (ci := 5) (v := .int (nI 4)) (ty := .int) (C := R_D) (T := F_D) (N := 36) hx hb hg in_D ft_D ft_D_ok n_D hown hK hP hS r36 rfl 20 (by decide) (hg _ k_611) (fun _ h9 => h9) rfl (by decide +kernel) rfl rfl (Nat.le_of_ble_eq_true rfl) d_D_end_92 (fun w50 H locs ew51 hP hS => ?_)
              have r36 : w50 (md 36) = some (.inr (5, [.ref (md 0), .ref (md 1), .ref (md 2), .ref (md 3), .ref (md 4), .ref (md 5), .ref (md 6), .ref (md 7), .ref (md 8), .ref (md 9), .ref (md 10), .ref (md 11), .ref (md 12), .ref (md 13), .ref (md 14), .ref (md 15), .int (nI (m_cached μ)), .int (nI (m_ocached μ)), .int (m_circ μ), .int (m_ocirc μ), .int (nI 4), .int (nI (m_wkr μ)), .int (nI (m_ran μ).toNat), .ref (md 23), .ref (md 24), .ref (md 25), .ref (md 26), .ref (md 27), .ref (md 28), .ref (md 29), .ref (md 30), .ref (md 31), .ref (md 32), .ref (md 33), .ref (md 34), .int (nI (m_hgt μ))])) := by rw [ew51]; exact va_up_self _ _ _
              have ho52 : OutD md w w50 := OutD.up OutD.rf ew51 (by decide)
              refine lv_aload_n hx hb d_D_end_95 rfl (lv_at hl 4 rfl) ?_
              refine va_get (D := (dC, dI)) (ci := 5) (v := .int (nI 4)) (C := R_D) (T := F_D) (N := 36) hx hb hg in_D hown hK (hP.one r36) 0 rfl rfl 20 (by decide) (hg _ k_611) (fun _ h9 => h9) rfl d_D_end_96 ?_
              refine nu_zle (tgt := 103) hx hb (by omega) d_D_end_99 (by decide) (fun c8 => ?_) (fun c8 => ?_)
              · exact absurd c8 (by omega)
              · have hE53 : dEndC (m_rule μ (m_key μ f)) (m_asked μ f) (m_first μ f) (m_sum μ f) = 4 := by unfold dEndC; rw [if_neg (fun h9 => by omega), if_neg (fun h9 => by omega), if_pos ⟨hrr, hgt⟩]
                have hk54 : ∀ i, U37 i → i ∉ [36] → w50 (md i) = w (md i) := fun i hi hn => by rw [ew51, va_up_ne _ _ (hj.ne hi (j := 36) (by decide) (fun e9 => hn (by rw [e9]; decide)))]
                exact W.vret hx hb hr (fun tS ht hW => ⟨⟨w50, rfl, (by rw [hE53]; exact ⟨⟨r36, (hk54 0 (by decide) (by decide)).trans r0, (hk54 1 (by decide) (by decide)).trans r1, (hk54 2 (by decide) (by decide)).trans r2, (hk54 3 (by decide) (by decide)).trans r3, (hk54 4 (by decide) (by decide)).trans r4, (hk54 5 (by decide) (by decide)).trans r5, (hk54 6 (by decide) (by decide)).trans r6, (hk54 7 (by decide) (by decide)).trans r7, (hk54 8 (by decide) (by decide)).trans r8, ⟨_, (hk54 9 (by decide) (by decide)).trans r9⟩, (hk54 10 (by decide) (by decide)).trans r10, (hk54 11 (by decide) (by decide)).trans r11, (hk54 12 (by decide) (by decide)).trans r12, (hk54 13 (by decide) (by decide)).trans r13, (hk54 14 (by decide) (by decide)).trans r14, (hk54 15 (by decide) (by decide)).trans r15, (hk54 23 (by decide) (by decide)).trans r23, (hk54 24 (by decide) (by decide)).trans r24, (hk54 25 (by decide) (by decide)).trans r25, (hk54 26 (by decide) (by decide)).trans r26, (hk54 27 (by decide) (by decide)).trans r27, (hk54 28 (by decide) (by decide)).trans r28, (hk54 29 (by decide) (by decide)).trans r29, (hk54 30 (by decide) (by decide)).trans r30, (hk54 31 (by decide) (by decide)).trans r31, (hk54 32 (by decide) (by decide)).trans r32, (hk54 33 (by decide) (by decide)).trans r33, (hk54 34 (by decide) (by decide)).trans r34⟩, ho52⟩), mB_of ht hP⟩, hS.F ht⟩) hS.2.2 d_D_end_102
        · exact absurd c0 (by omega)
    · exact absurd c0 (by omega)
