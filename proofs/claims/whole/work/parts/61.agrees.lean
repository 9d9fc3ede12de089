set_option maxHeartbeats 4000000 in
set_option maxRecDepth 100000 in
theorem c_S_agrees {l : Launch} {s0 : State} {dC : Nat → ClassId} {dI : Nat → Nat → Nat} {dA : Nat → ClassId} (B0 : BB s0 dC dI dA) (w : fw_W) (ad : Nat → Nat) (Fz : Nat → Prop) (P : PD) (wk : Nat) (rows : Nat → Option Nat) (σ : SS) (t : Nat) (T : tv) (n0 : Nat) (IH : VO l s0 dC dI dA ad P wk n0) (hfr0 : fr12 σ ≤ n0) (hinj : Inj ad) (hR : RS dA ad Fz P wk rows w σ) (hT : isT dA Fz w t T) : Met l y_S_agrees [.code y_S_agrees b_S_agrees 3 (some .boolean)] ({ frames := 7 * n0 + 5, cells := 3 * (dm σ (agrV (sv P wk (n0 + 1)) T.2.1 σ).2), slots := 11 * (dm σ (agrV (sv P wk (n0 + 1)) T.2.1 σ).2), locals := 210 * n0 + 90 }) (mP s0 dC dI w [.ref (ad 0), .ref t]) (mQi s0 dC dI (fun r w' => r = nI (agrV (sv P wk (n0 + 1)) T.2.1 σ).1.toNat ∧ VP dA ad P wk Fz rows w σ w' (agrV (sv P wk (n0 + 1)) T.2.1 σ).2)) (3 * (dm σ (agrV (sv P wk (n0 + 1)) T.2.1 σ).2)) (11 * (dm σ (agrV (sv P wk (n0 + 1)) T.2.1 σ).2)) (AA s0) := by
  have hbk := hR.blk
  have hKf : Kp σ (agrV (sv P wk (n0 + 1)) T.2.1 σ).2 := Kp_agr (Kp_sv P wk (n0 + 1)) T.2.1 σ
  generalize hfin : agrV (sv P wk (n0 + 1)) T.2.1 σ = fin9 at hKf
  refine mt_ofW B0 (by decide) (Nat.le_of_ble_eq_true rfl) (fun p e s m args below meth c ls hargs X hin hl hP => ?_)
  have X9 := X
  obtain ⟨hx, hb, hr, hml, hown, hg, hK, hn, hE, hlocks, hA⟩ := X9
  have hS : va_S (AA s0) s.heap s.heap [] := va_S.rf
  have hl : lv_has ls 3 [(0, .ref (ad 0)), (1, .ref t)] := hl
  refine lv_iconst (v := (nI 0)) hx hb d_S_agrees_0 (by decide) ?_
  refine lv_istore_n (lv' := [(2, .int (nI 0)), (0, .ref (ad 0)), (1, .ref t)]) hx hb d_S_agrees_1 rfl hl (by decide) rfl (fun ls hl => ?_)
  have hl0 : T.2.1.length ≤ 3 := by obtain ⟨⟨kt, vt, ⟨fk, fv, -, -, -, h9, -⟩, -⟩, -⟩ := hT; exact h9
  refine W.widen (k := 3 * dm σ σ) (n := 11 * dm σ σ) (Nat.zero_le _) (Nat.zero_le _) ?_
  suffices lp : ∀ (n : Nat) (i : Nat) (τ : SS) (Fz1 : Nat → Prop) (rows1 : Nat → Option Nat), (i ≤ T.2.1.length) → (Kp σ τ) → (agrV (sv P wk (n0 + 1)) (T.2.1.drop i) τ = fin9) → (T.2.1.length < i + n) → ∀ (wl : fw_W) (H : Heap) (locs : List Loc), (VQ dA ad P wk Fz rows w σ Fz1 rows1 wl τ) → fw_P (dC, dI) cls_ (AA s0) wl H → va_S (AA s0) s.heap H locs → ∀ (ls : Array Slot), lv_has ls 3 [(0, .ref (ad 0)), (1, .ref t), (2, .int (nI i))] → W p l e _ s m args below meth c H locs (3 * dm σ τ) (11 * dm σ τ) (MQ below _ args s (3 * dm σ fin9.2) (11 * dm σ fin9.2) (AA s0)) (F0 m 2 ls []) from lp (T.2.1.length + 1) 0 σ Fz rows (Nat.zero_le _) (Kp.rf σ) (by rw [List.drop_zero]; exact hfin) (by omega) _ _ _  (VQ.rf hR) hP hS ls (lv_sub hl [1, 2, 0] rfl)
  intro n
  induction n with
  | zero => intro i τ Fz1 rows1 hi hKp heq hbn; exact absurd hbn (by omega)
  | succ n ih =>
    intro i τ Fz1 rows1 hi hKp heq hbn wl H locs  hV hP hS ls hl
    have hT1 := hV.isT hR hT
    have hR1 := hV.1
    obtain ⟨⟨g0, g1, g2, ⟨vf, g3, hvf⟩, g4⟩, hM4, hP6, hnF, hfl⟩ := hR1
    have hT2 := hT1
    obtain ⟨⟨kt, vt, ⟨fk, fv, f1, f2, f3, hl3, hL⟩, z1, z2, z3⟩, ho⟩ := hT2
    refine lv_iload_n hx hb d_S_agrees_2 rfl (lv_at hl 2 rfl) ?_
    refine lv_aload_n hx hb d_S_agrees_3 rfl (lv_at hl 1 rfl) ?_
    refine va_getN (D := (dC, dI)) (ci := 3) (v := .int (nI T.2.1.length)) (C := R_T) (T := F_T) (N := 5) hx hb hg in_T hown hK (hP.one f1) 0 rfl rfl 3 (by decide) (hn _ u_413) (fun _ h9 => h9) rfl d_S_agrees_4 ?_
    refine nu_ge (tgt := 45) hx hb (by omega) (by omega) d_S_agrees_7 (by decide) (fun c1 => ?_) (fun c1 => ?_)
    · have hend : (agrV (sv P wk (n0 + 1)) (T.2.1.drop i) τ).1 = if s_fl τ = 0 then true else false := by rw [List.drop_eq_nil_of_le (by omega)]; show decide _ = _; split <;> simp [*]
      have hfin2 : fin9.2 = τ := by rw [← heq, List.drop_eq_nil_of_le (by omega)]; rfl
      refine lv_aload_n hx hb d_S_agrees_45 rfl (lv_at hl 0 rfl) ?_
      have hmem : 3 * dm σ τ + 0 ≤ 3 * dm σ fin9.2 ∧ 11 * dm σ τ + 0 ≤ 11 * dm σ fin9.2 := by rw [hfin2]; exact ⟨Nat.le_refl _, Nat.le_refl _⟩
      refine va_calli (rn_V (n := 0) (As := []) (rest := []) (C := R_S) (T := F_S) (N := 9) (ci := 2) X hP hS (c_S_hasFailed B0 wl ad Fz1 P wk rows1 τ hinj hV.1) k_377 k_379 k_16 k_57 k_380 (by decide +kernel) rfl rfl ⟨by dsimp only; omega, by dsimp only; omega⟩ g0 rfl rfl hl.1 rfl (Nat.le_of_ble_eq_true rfl) d_S_agrees_46 hmem) hS (fun q _ h => h) (fun q h => h) (fun r w9 tS H locs ht hvm hw hB hz1 hk1 hS => ?_)
      have hP : fw_P (dC, dI) cls_ (AA s0) w9 H := by rw [← ht]; exact hB
      obtain ⟨ew8, b8, rfl, hb8⟩ := hw
      rw [ew8] at hP
      refine nu_ifne (tgt := 56) hx hb d_S_agrees_49 (by decide) (fun c8 => ?_) (fun c8 => ?_)
      · refine lv_iconst (v := (nI 0)) hx hb d_S_agrees_56 (by decide) ?_
        refine W.widen (k := 3 * dm σ fin9.2) (n := 11 * dm σ fin9.2) (by omega) (by omega) ?_
        exact W.zret (v := (nI 0)) hx hb hr (by decide) (fun tS ht hW => ⟨⟨(nI 0), wl, rfl, ⟨by rw [← heq, hend, if_neg (hb8.mp c8)]; rfl, by rw [hfin2]; exact hV.p⟩, mB_of ht hP⟩, hS.F ht⟩) hS.2.2 d_S_agrees_57
      · refine lv_iconst (v := (nI 1)) hx hb d_S_agrees_52 (by decide) ?_
        refine lv_goto (tgt := 57) hx hb d_S_agrees_53 (by decide) ?_
        refine W.widen (k := 3 * dm σ fin9.2) (n := 11 * dm σ fin9.2) (by omega) (by omega) ?_
        exact W.zret (v := (nI 1)) hx hb hr (by decide) (fun tS ht hW => ⟨⟨(nI 1), wl, rfl, ⟨by rw [← heq, hend, if_pos (Classical.byContradiction fun h => by rw [hb8.mpr h] at c8; cases c8)]; rfl, by rw [hfin2]; exact hV.p⟩, mB_of ht hP⟩, hS.F ht⟩) hS.2.2 d_S_agrees_57
    · obtain ⟨q9, hq9⟩ : ∃ q, T.2.1[i]? = some q := ⟨_, List.getElem?_eq_getElem c1⟩
      have hdr := agrV_drop (rec := sv P wk (n0 + 1)) hq9
      have hkv := hL i q9 hq9
      have hmd := hKp.2.2.1
      have hmd2 : s_md τ ≤ s_md fin9.2 := by rw [← heq]; exact (Kp_agr (Kp_sv P wk (n0 + 1)) _ τ).2.2.1
      refine lv_aload_n hx hb d_S_agrees_10 rfl (lv_at hl 0 rfl) ?_
      refine va_calli (rn_V (n := 0) (As := []) (rest := []) (C := R_S) (T := F_S) (N := 9) (ci := 2) X hP hS (c_S_hasFailed B0 wl ad Fz1 P wk rows1 τ hinj hV.1) k_377 k_379 k_16 k_57 k_380 (by decide +kernel) rfl rfl ⟨by dsimp only; omega, by dsimp only; omega⟩ g0 rfl rfl hl.1 rfl (Nat.le_of_ble_eq_true rfl) d_S_agrees_11 ⟨by unfold dm; dsimp only; omega, by unfold dm; dsimp only; omega⟩) hS (fun q _ h => h) (fun q h => h) (fun r w10 tS H locs ht hvm hw hB hz1 hk1 hS => ?_)
      have hP : fw_P (dC, dI) cls_ (AA s0) w10 H := by rw [← ht]; exact hB
      obtain ⟨ew8, b8, rfl, hb8⟩ := hw
      rw [ew8] at hP
      refine nu_ifne (tgt := 45) hx hb d_S_agrees_14 (by decide) (fun c2 => ?_) (fun c2 => ?_)
      · have hend : (agrV (sv P wk (n0 + 1)) (T.2.1.drop i) τ).1 = if s_fl τ = 0 then true else false := by rw [hdr, agrV, if_neg (hb8.mp c2), if_neg (hb8.mp c2)]
        have hfin2 : fin9.2 = τ := by rw [← heq, hdr, agrV, if_neg (hb8.mp c2)]
        have hmem : 3 * dm σ τ + 0 + 0 ≤ 3 * dm σ fin9.2 ∧ 11 * dm σ τ + 0 + 0 ≤ 11 * dm σ fin9.2 := by rw [hfin2]; exact ⟨Nat.le_refl _, Nat.le_refl _⟩
        refine lv_aload_n hx hb d_S_agrees_45 rfl (lv_at hl 0 rfl) ?_
        refine va_calli (rn_V (n := 0) (As := []) (rest := []) (C := R_S) (T := F_S) (N := 9) (ci := 2) X hP hS (c_S_hasFailed B0 wl ad Fz1 P wk rows1 τ hinj hV.1) k_377 k_379 k_16 k_57 k_380 (by decide +kernel) rfl rfl ⟨by dsimp only; omega, by dsimp only; omega⟩ g0 rfl rfl hl.1 rfl (Nat.le_of_ble_eq_true rfl) d_S_agrees_46 hmem) hS (fun q _ h => h) (fun q h => h) (fun r w11 tS H locs ht hvm hw hB hz1 hk1 hS => ?_)
        have hP : fw_P (dC, dI) cls_ (AA s0) w11 H := by rw [← ht]; exact hB
        obtain ⟨ew8, b8, rfl, hb8⟩ := hw
        rw [ew8] at hP
        refine nu_ifne (tgt := 56) hx hb d_S_agrees_49 (by decide) (fun c8 => ?_) (fun c8 => ?_)
        · refine lv_iconst (v := (nI 0)) hx hb d_S_agrees_56 (by decide) ?_
          refine W.widen (k := 3 * dm σ fin9.2) (n := 11 * dm σ fin9.2) (by omega) (by omega) ?_
          exact W.zret (v := (nI 0)) hx hb hr (by decide) (fun tS ht hW => ⟨⟨(nI 0), wl, rfl, ⟨by rw [← heq, hend, if_neg (hb8.mp c8)]; rfl, by rw [hfin2]; exact hV.p⟩, mB_of ht hP⟩, hS.F ht⟩) hS.2.2 d_S_agrees_57
        · refine lv_iconst (v := (nI 1)) hx hb d_S_agrees_52 (by decide) ?_
          refine lv_goto (tgt := 57) hx hb d_S_agrees_53 (by decide) ?_
          refine W.widen (k := 3 * dm σ fin9.2) (n := 11 * dm σ fin9.2) (by omega) (by omega) ?_
          exact W.zret (v := (nI 1)) hx hb hr (by decide) (fun tS ht hW => ⟨⟨(nI 1), wl, rfl, ⟨by rw [← heq, hend, if_pos (Classical.byContradiction fun h => by rw [hb8.mpr h] at c8; cases c8)]; rfl, by rw [hfin2]; exact hV.p⟩, mB_of ht hP⟩, hS.F ht⟩) hS.2.2 d_S_agrees_57
      · have hf0 : s_fl τ = 0 := Classical.byContradiction fun h => by rw [hb8.mpr h] at c2; cases c2
        rw [hdr, agrV, if_pos hf0] at heq
        have hKs := Kp_sv P wk (n0 + 1) q9.1 τ
        refine lv_aload_n hx hb d_S_agrees_17 rfl (lv_at hl 0 rfl) ?_
        refine lv_aload_n hx hb d_S_agrees_18 rfl (lv_at hl 1 rfl) ?_
        refine va_getN (D := (dC, dI)) (ci := 3) (v := .ref kt) (C := R_T) (T := F_T) (N := 5) hx hb hg in_T hown hK (hP.one f1) 0 rfl rfl 1 (by decide) (hn _ u_407) (fun _ h9 => h9) rfl d_S_agrees_19 ?_
        refine lv_iload_n hx hb d_S_agrees_22 rfl (lv_at hl 2 rfl) ?_
        refine fw_iald (tys := tyl dA) hx hb hK hP f2 0 rfl (j := i) (by omega) (by decide) d_S_agrees_23 ?_
        rw [hkv.1]
        have hmd3 : s_md (sv P wk (n0 + 1) q9.1 τ).2 ≤ s_md fin9.2 := by
          rw [← heq]; split
          · exact (Kp_agr (Kp_sv P wk (n0 + 1)) _ _).2.2.1
          · exact Nat.le_refl _
        refine va_calll (rn_V (n := 1) (As := [.int (nI q9.1)]) (rest := []) (C := R_S) (T := F_S) (N := 9) (ci := 2) X hP hS (IH wl Fz1 rows1 τ q9.1 hV.1 hkv.2.2 (Nat.le_trans hKp.fr hfr0)) k_356 k_358 k_11 k_57 k_359 (by decide +kernel) rfl rfl ⟨by dsimp only [rmV]; omega, by dsimp only [rmV]; omega⟩ g0 rfl rfl hl.1 rfl (Nat.le_of_ble_eq_true rfl) d_S_agrees_24 ⟨by unfold dm; have := hKs.2.2.1; dsimp only; omega, by unfold dm; have := hKs.2.2.1; dsimp only; omega⟩) hS (fun q _ h => h) (fun q h => h) (fun r w12 tS H locs ht hvm hw hB hz1 hk1 hS => ?_)
        have hP : fw_P (dC, dI) cls_ (AA s0) w12 H := by rw [← ht]; exact hB
        obtain ⟨rfl, Fz2, rows2, hV2⟩ := hw
        have hV3 := VQ.tr hV hV2 hKp.1 hR hbk
        have hT9 := hV3.isT hR hT
        have hR9 := hV3.1
        have f1 : w12 t = some (.inr (3, [.int (nI T.1), .ref kt, .ref vt, .int (nI T.2.1.length), .long T.2.2])) := hV2.2.2.2.1 _ _ f1 (fun i hi e9 => hnF.1 i hi (e9 ▸ z1))
        have f3 : w12 vt = some (.inl (dA 1, 3, .inr (.inl fv))) := hV2.2.2.2.1 _ _ f3 (fun i hi e9 => hnF.1 i hi (e9 ▸ z3))
        refine lv_aload_n hx hb d_S_agrees_27 rfl (lv_at hl 1 rfl) ?_
        refine va_getN (D := (dC, dI)) (ci := 3) (v := .ref vt) (C := R_T) (T := F_T) (N := 5) hx hb hg in_T hown hK (hP.one f1) 0 rfl rfl 2 (by decide) (hn _ u_410) (fun _ h9 => h9) rfl d_S_agrees_28 ?_
        refine lv_iload_n hx hb d_S_agrees_31 rfl (lv_at hl 2 rfl) ?_
        refine fw_lald (tys := tyl dA) hx hb hK hP f3 1 rfl (j := i) (by omega) (by decide) d_S_agrees_32 ?_
        rw [hkv.2.1]
        refine W.lcmp hx hb d_S_agrees_33 ?_
        refine lv_if_eq (tgt := 39) hx hb d_S_agrees_34 (by decide) (fun c3 => ?_) (fun c3 => ?_)
        · rw [if_pos ((lg_cmp_eq _ _).mp c3)] at heq
          refine lv_iinc (v := nI (i + 1)) (lv' := [(2, .int (nI (i + 1))), (0, .ref (ad 0)), (1, .ref t)]) hx hb d_S_agrees_39 hl (k := 2) rfl (nI_add _ 1) (by decide) rfl (fun ls hl => ?_)
          refine lv_goto (tgt := 2) hx hb d_S_agrees_42 (by decide) ?_
          refine W.widen (k := 3 * dm σ (sv P wk (n0 + 1) q9.1 τ).2) (n := 11 * dm σ (sv P wk (n0 + 1) q9.1 τ).2) (by unfold dm; have := hKs.2.2.1; omega) (by unfold dm; have := hKs.2.2.1; omega) ?_
          exact ih (i + 1) ((sv P wk (n0 + 1) q9.1 τ).2) Fz2 rows2 (by omega) (hKp.tr hKs) heq (by omega) _ _ _  hV3 hP hS ls (lv_sub hl [1, 2, 0] rfl)
        · rw [if_neg (fun h => c3 ((lg_cmp_eq _ _).mpr h))] at heq
          refine lv_iconst (v := (nI 0)) hx hb d_S_agrees_37 (by decide) ?_
          refine W.widen (k := 3 * dm σ fin9.2) (n := 11 * dm σ fin9.2) (by rw [← heq]; unfold dm; have := hKs.2.2.1; dsimp only; omega) (by rw [← heq]; unfold dm; have := hKs.2.2.1; dsimp only; omega) ?_
          exact W.zret (v := (nI 0)) hx hb hr (by decide) (fun tS ht hW => ⟨⟨(nI 0), w12, rfl, ⟨by rw [← heq]; rfl, by rw [← heq]; exact hV3.p⟩, mB_of ht hP⟩, hS.F ht⟩) hS.2.2 d_S_agrees_38
