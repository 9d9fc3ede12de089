set_option maxHeartbeats 4000000 in
set_option maxRecDepth 100000 in
theorem lo_build {p : Program} {l : Launch} {e : Env} {s : State} {m : MethodId} {below : List Frame} {meth : Method} {c : Code} {dC : Nat → ClassId} {dI : Nat → Nat → Nat} {dA : Nat → ClassId} {b L : Nat} {xs : Nat → Int32} {AD md : Nat → Nat} {ou : Nat} (C : LX p l s m meth c dC dI dA b L xs AD md ou) {cells slots : Nat} (hcl : cells + 37 ≤ 601024) (hsl : slots + 138 ≤ 7293034) {i : Nat} (hi : i + 6 ≤ L) {w : fw_W} {β : BS} {H : Heap} {locs : List Loc} {ls : Array Slot} (S0 : LSt dA AD md ou w β) (hP : fw_P (dC, dI) cls_ (AA s) w H) (hS : va_S (AA s) s.heap H locs) (hl : lv_has ls 8 (LLoc AD md ou b i)) (kk : KK p l e s m below meth c dC dI dA b AD md ou i (cells + 37) (slots + 138)) : W p l e room_1 s m #[Value.ref b] below meth c H locs cells slots (lw_Z below #[Value.ref b] s) (F0 m 300 ls []) := by
  obtain ⟨X, B0, X0, hlt, hX, hbl, hL, hDJ⟩ := C
  have X9 := X
  obtain ⟨hx, hb, hr, hml, hown, hg, hK, hn, hE, hlocks, hA⟩ := X9
  obtain ⟨hinj, hj, dj1, dj2, dj3⟩ := (id hDJ)
  obtain ⟨Fz, μ, fo, hR, hD, hQ, hO, ho1, hf1, hf2⟩ := S0
  have hp := RB.pok hR
  have hl : lv_has ls 8 [(0, .ref b), (1, .ref (AD 27)), (2, .ref (md 36)), (3, .ref ou), (4, .int (nI i))] := hl
  by_cases ho : okW (xs (i + 1)) ∧ okK (xs (i + 2))
  · obtain ⟨⟨wk, hwk, hew⟩, k, hk, hek⟩ := ho
    have h4 := bFl4 wk k β
    by_cases hfl : bFl wk k β = 0
    · refine lv_aload_n hx hb d_L_law_300 rfl (lv_at hl 1 rfl) ?_
      refine lv_aload_n hx hb d_L_law_301 rfl (lv_at hl 0 rfl) ?_
      refine lv_iload hx hb d_L_law_302 (lv_at hl 4 rfl) ?_
      refine lv_iconst (v := (nI 1)) hx hb d_L_law_304 (by decide) ?_
      refine nu_iadd (r := i + 1) hx hb d_L_law_305 (by omega) ?_
      refine sl_ld (v := (nI wk)) hx hb hX hbl hS (by omega) hL hew d_L_law_306 ?_
      refine lv_aload_n hx hb d_L_law_307 rfl (lv_at hl 0 rfl) ?_
      refine lv_iload hx hb d_L_law_308 (lv_at hl 4 rfl) ?_
      refine lv_iconst (v := (nI 2)) hx hb d_L_law_310 (by decide) ?_
      refine nu_iadd (r := i + 2) hx hb d_L_law_311 (by omega) ?_
      refine sl_ld (v := (nI k)) hx hb hX hbl hS (by omega) hL hek d_L_law_312 ?_
      refine lv_aload_n hx hb d_L_law_313 rfl (lv_at hl 3 rfl) ?_
      refine va_calli (rn_SW (n := 4) (As := [.ref (AD 27), .int (nI wk), .int (nI k), .ref ou]) (rest := []) X hP hS (h_build B0 X0 hlt w AD Fz β ou fo wk k hinj hR ho1 dj2 hf2 hwk hk hfl) k_340 k_341 k_53 k_342 (by decide +kernel) rfl rfl ⟨Nat.le_of_ble_eq_true rfl, Nat.le_of_ble_eq_true rfl⟩ rfl hl.1 rfl (Nat.le_of_ble_eq_true rfl) d_L_law_314 ⟨(show cells + 36 ≤ 601024 by omega), (show slots + 132 ≤ 7293034 by omega)⟩) hS (fun q _ h => h) (fun q h => h) (fun r w22 tS H locs ht hvm hw hB hz1 hk1 hS => ?_)
      have hP : fw_P (dC, dI) cls_ (AA s) w22 H := by rw [← ht]; exact hB
      obtain ⟨rfl, hv8⟩ := hw
      have hv9 : VL dA AD ou Fz w w22 (bBuild wk k β) (vp_updL fo 0 (bSess wk k β).1) := hv8
      obtain ⟨Fz1, hR1, hD1, ho11, hf11, hf12⟩ := cl_step hDJ hD ho1 hf1 hf2 hv9
      have r36 := hD1.1
      refine lv_istore (lv' := [(5, .int (nI 0)), (0, .ref b), (1, .ref (AD 27)), (2, .ref (md 36)), (3, .ref ou), (4, .int (nI i))]) hx hb d_L_law_317 hl (by decide) rfl (fun ls hl => ?_)
      refine lv_aload_n hx hb d_L_law_319 rfl (lv_at hl 3 rfl) ?_
      refine lv_aload_n hx hb d_L_law_320 rfl (lv_at hl 1 rfl) ?_
      refine lv_iload hx hb d_L_law_321 (lv_at hl 5 rfl) ?_
      refine lv_iconst (v := (nI 1)) hx hb d_L_law_323 (by decide) ?_
      refine nu_iadd (r := i + 1) hx hb d_L_law_324 (by omega) ?_
      refine sl_ld (v := (nI wk)) hx hb hX hbl hS (by omega) hL hew d_L_law_325 ?_
      refine lv_aload_n hx hb d_L_law_326 rfl (lv_at hl 1 rfl) ?_
      refine lv_iload hx hb d_L_law_327 (lv_at hl 5 rfl) ?_
      refine lv_iconst (v := (nI 2)) hx hb d_L_law_329 (by decide) ?_
      refine nu_iadd (r := i + 2) hx hb d_L_law_330 (by omega) ?_
      refine sl_ld (v := (nI k)) hx hb hX hbl hS (by omega) hL hek d_L_law_331 ?_
      refine va_calll (rn_V (n := 2) (As := [.int (nI wk), .int (nI k)]) (rest := []) (C := R_D) (T := F_D) (N := 36) (ci := 5) X hP hS (c_D_build B0 w22 md μ β wk k hj hD1 hQ hp hwk hk) k_727 k_728 k_729 k_58 k_730 (by decide +kernel) rfl rfl ⟨Nat.le_of_ble_eq_true rfl, Nat.le_of_ble_eq_true rfl⟩ r36 rfl rfl hl.1 rfl (Nat.le_of_ble_eq_true rfl) d_L_law_332 ⟨(show _ ≤ 601024 by omega), (show _ ≤ 7293034 by omega)⟩) hS (fun q _ h => h) (fun q h => h) (fun r w23 tS H locs ht hvm hw hB hz1 hk1 hS => ?_)
      have hP : fw_P (dC, dI) cls_ (AA s) w23 H := by rw [← ht]; exact hB
      obtain ⟨hr7, hM9⟩ := hw
      have hr8 := hr7 hfl
      subst hr8
      rw [if_pos hfl] at hM9
      obtain ⟨μ2, hD2, hQ2, ht2, hR2, ho22⟩ := md_step hDJ hR1 ho11 hf11 hM9
      have r36 := hD2.1
      refine lv_lstore (lv' := [(6, .long ((bSess wk k β).1)), (5, .int (nI 0)), (0, .ref b), (1, .ref (AD 27)), (2, .ref (md 36)), (3, .ref ou), (4, .int (nI i))]) hx hb d_L_law_335 hl (by decide) rfl (fun ls hl => ?_)
      refine lv_aload_n hx hb d_L_law_337 rfl (lv_at hl 4 rfl) ?_
      refine va_calli (rn_V (n := 0) (As := []) (rest := []) (C := R_D) (T := F_D) (N := 36) (ci := 5) X hP hS (c_D_thrown B0 w23 md μ2 hj hD2) k_700 k_701 k_702 k_58 k_703 (by decide +kernel) rfl rfl ⟨Nat.le_of_ble_eq_true rfl, Nat.le_of_ble_eq_true rfl⟩ r36 rfl rfl hl.1 rfl (Nat.le_of_ble_eq_true rfl) d_L_law_338 ⟨(show _ ≤ 601024 by omega), (show _ ≤ 7293034 by omega)⟩) hS (fun q _ h => h) (fun q h => h) (fun r w24 tS H locs ht hvm hw hB hz1 hk1 hS => ?_)
      have hP : fw_P (dC, dI) cls_ (AA s) w24 H := by rw [← ht]; exact hB
      obtain ⟨e9, rfl⟩ := hw
      rw [e9] at hP
      rw [ht2]
      refine lv_iload hx hb d_L_law_341 (lv_at hl 1 rfl) ?_
      refine nu_eq (tgt := 348) hx hb (by omega) (by omega) d_L_law_343 (by decide) (fun c1 => ?_) (fun c1 => ?_)
      · refine lv_iload hx hb d_L_law_348 (lv_at hl 1 rfl) ?_
        refine nu_zne (tgt := 364) hx hb (by omega) d_L_law_350 (by decide) (fun c2 => ?_) (fun c2 => ?_)
        · exact absurd c2 (by omega)
        · refine lv_aload_n hx hb d_L_law_353 rfl (lv_at hl 5 rfl) ?_
          refine lv_iconst (v := (nI 0)) hx hb d_L_law_354 (by decide) ?_
          refine fw_lald (tys := tyl dA) hx hb hK hP ho22 1 rfl (j := 0) (by omega) (by decide) d_L_law_355 ?_
          refine lv_lload hx hb d_L_law_356 (lv_at hl 0 rfl) ?_
          refine W.lcmp hx hb d_L_law_358 ?_
          refine lv_if_eq (tgt := 364) hx hb d_L_law_359 (by decide) (fun c3 => ?_) (fun c3 => ?_)
          · refine lv_goto (tgt := 794) hx hb d_L_law_364 (by decide) ?_
            refine W.widen (k := cells + 37) (n := slots + 138) (by omega) (by omega) ?_
            exact kk w23 (bBuild wk k β) H locs ls ⟨Fz1, μ2, vp_updL fo 0 (bSess wk k β).1, hR2, hD2, hQ2, hO.build hp hwk, ho22, hf11, hf12⟩ hP hS (lv_sub hl [2, 3, 4, 5, 6] rfl)
          · exact absurd ((lg_cmp_eq _ _).mpr (pk_uLs)) c3
      · exact absurd rfl c1
    · refine lv_aload_n hx hb d_L_law_300 rfl (lv_at hl 1 rfl) ?_
      refine lv_aload_n hx hb d_L_law_301 rfl (lv_at hl 0 rfl) ?_
      refine lv_iload hx hb d_L_law_302 (lv_at hl 4 rfl) ?_
      refine lv_iconst (v := (nI 1)) hx hb d_L_law_304 (by decide) ?_
      refine nu_iadd (r := i + 1) hx hb d_L_law_305 (by omega) ?_
      refine sl_ld (v := (nI wk)) hx hb hX hbl hS (by omega) hL hew d_L_law_306 ?_
      refine lv_aload_n hx hb d_L_law_307 rfl (lv_at hl 0 rfl) ?_
      refine lv_iload hx hb d_L_law_308 (lv_at hl 4 rfl) ?_
      refine lv_iconst (v := (nI 2)) hx hb d_L_law_310 (by decide) ?_
      refine nu_iadd (r := i + 2) hx hb d_L_law_311 (by omega) ?_
      refine sl_ld (v := (nI k)) hx hb hX hbl hS (by omega) hL hek d_L_law_312 ?_
      refine lv_aload_n hx hb d_L_law_313 rfl (lv_at hl 3 rfl) ?_
      refine va_calli (rn_SW (n := 4) (As := [.ref (AD 27), .int (nI wk), .int (nI k), .ref ou]) (rest := []) X hP hS (h_buildN B0 X0 hlt w AD Fz β ou fo wk k hinj hR ho1 dj2 hf2 hwk hk hfl) k_340 k_341 k_53 k_342 (by decide +kernel) rfl rfl ⟨Nat.le_of_ble_eq_true rfl, Nat.le_of_ble_eq_true rfl⟩ rfl hl.1 rfl (Nat.le_of_ble_eq_true rfl) d_L_law_314 ⟨(show cells + 37 ≤ 601024 by omega), (show slots + 138 ≤ 7293034 by omega)⟩) hS (fun q _ h => h) (fun q h => h) (fun r w25 tS H locs ht hvm hw hB hz1 hk1 hS => ?_)
      have hP : fw_P (dC, dI) cls_ (AA s) w25 H := by rw [← ht]; exact hB
      obtain ⟨rfl, hv8⟩ := hw
      have hv9 : VL dA AD ou Fz w w25 (bBuild wk k β) fo := hv8
      obtain ⟨Fz1, hR1, hD1, ho11, hf11, hf12⟩ := cl_step hDJ hD ho1 hf1 hf2 hv9
      have r36 := hD1.1
      refine lv_istore (lv' := [(5, .int (nI (bFl wk k β + 1))), (0, .ref b), (1, .ref (AD 27)), (2, .ref (md 36)), (3, .ref ou), (4, .int (nI i))]) hx hb d_L_law_317 hl (by decide) rfl (fun ls hl => ?_)
      refine lv_aload_n hx hb d_L_law_319 rfl (lv_at hl 3 rfl) ?_
      refine lv_aload_n hx hb d_L_law_320 rfl (lv_at hl 1 rfl) ?_
      refine lv_iload hx hb d_L_law_321 (lv_at hl 5 rfl) ?_
      refine lv_iconst (v := (nI 1)) hx hb d_L_law_323 (by decide) ?_
      refine nu_iadd (r := i + 1) hx hb d_L_law_324 (by omega) ?_
      refine sl_ld (v := (nI wk)) hx hb hX hbl hS (by omega) hL hew d_L_law_325 ?_
      refine lv_aload_n hx hb d_L_law_326 rfl (lv_at hl 1 rfl) ?_
      refine lv_iload hx hb d_L_law_327 (lv_at hl 5 rfl) ?_
      refine lv_iconst (v := (nI 2)) hx hb d_L_law_329 (by decide) ?_
      refine nu_iadd (r := i + 2) hx hb d_L_law_330 (by omega) ?_
      refine sl_ld (v := (nI k)) hx hb hX hbl hS (by omega) hL hek d_L_law_331 ?_
      refine va_calll (rn_V (n := 2) (As := [.int (nI wk), .int (nI k)]) (rest := []) (C := R_D) (T := F_D) (N := 36) (ci := 5) X hP hS (c_D_build B0 w25 md μ β wk k hj hD1 hQ hp hwk hk) k_727 k_728 k_729 k_58 k_730 (by decide +kernel) rfl rfl ⟨Nat.le_of_ble_eq_true rfl, Nat.le_of_ble_eq_true rfl⟩ r36 rfl rfl hl.1 rfl (Nat.le_of_ble_eq_true rfl) d_L_law_332 ⟨(show _ ≤ 601024 by omega), (show _ ≤ 7293034 by omega)⟩) hS (fun q _ h => h) (fun q h => h) (fun r w26 tS H locs ht hvm hw hB hz1 hk1 hS => ?_)
      have hP : fw_P (dC, dI) cls_ (AA s) w26 H := by rw [← ht]; exact hB
      obtain ⟨-, hM9⟩ := hw
      rw [if_neg hfl] at hM9
      obtain ⟨μ2, hD2, hQ2, ht2, hR2, ho22⟩ := md_step hDJ hR1 ho11 hf11 hM9
      have r36 := hD2.1
      refine lv_lstore (lv' := [(6, .long r), (5, .int (nI (bFl wk k β + 1))), (0, .ref b), (1, .ref (AD 27)), (2, .ref (md 36)), (3, .ref ou), (4, .int (nI i))]) hx hb d_L_law_335 hl (by decide) rfl (fun ls hl => ?_)
      refine lv_aload_n hx hb d_L_law_337 rfl (lv_at hl 4 rfl) ?_
      refine va_calli (rn_V (n := 0) (As := []) (rest := []) (C := R_D) (T := F_D) (N := 36) (ci := 5) X hP hS (c_D_thrown B0 w26 md μ2 hj hD2) k_700 k_701 k_702 k_58 k_703 (by decide +kernel) rfl rfl ⟨Nat.le_of_ble_eq_true rfl, Nat.le_of_ble_eq_true rfl⟩ r36 rfl rfl hl.1 rfl (Nat.le_of_ble_eq_true rfl) d_L_law_338 ⟨(show _ ≤ 601024 by omega), (show _ ≤ 7293034 by omega)⟩) hS (fun q _ h => h) (fun q h => h) (fun r w27 tS H locs ht hvm hw hB hz1 hk1 hS => ?_)
      have hP : fw_P (dC, dI) cls_ (AA s) w27 H := by rw [← ht]; exact hB
      obtain ⟨e9, rfl⟩ := hw
      rw [e9] at hP
      rw [ht2]
      refine lv_iload hx hb d_L_law_341 (lv_at hl 1 rfl) ?_
      refine nu_eq (tgt := 348) hx hb (by omega) (by omega) d_L_law_343 (by decide) (fun c1 => ?_) (fun c1 => ?_)
      · refine lv_iload hx hb d_L_law_348 (lv_at hl 1 rfl) ?_
        refine nu_zne (tgt := 364) hx hb (by omega) d_L_law_350 (by decide) (fun c2 => ?_) (fun c2 => ?_)
        · refine lv_goto (tgt := 794) hx hb d_L_law_364 (by decide) ?_
          refine W.widen (k := cells + 37) (n := slots + 138) (by omega) (by omega) ?_
          exact kk w26 (bBuild wk k β) H locs ls ⟨Fz1, μ2, fo, hR2, hD2, hQ2, hO.build hp hwk, ho22, hf11, hf12⟩ hP hS (lv_sub hl [2, 3, 4, 5, 6] rfl)
        · exact absurd c2 (by omega)
      · exact absurd rfl c1
  · refine lv_aload_n hx hb d_L_law_300 rfl (lv_at hl 1 rfl) ?_
    refine lv_aload_n hx hb d_L_law_301 rfl (lv_at hl 0 rfl) ?_
    refine lv_iload hx hb d_L_law_302 (lv_at hl 4 rfl) ?_
    refine lv_iconst (v := (nI 1)) hx hb d_L_law_304 (by decide) ?_
    refine nu_iadd (r := i + 1) hx hb d_L_law_305 (by omega) ?_
    refine sl_ld (v := (xs (i + 1))) hx hb hX hbl hS (by omega) hL rfl d_L_law_306 ?_
    refine lv_aload_n hx hb d_L_law_307 rfl (lv_at hl 0 rfl) ?_
    refine lv_iload hx hb d_L_law_308 (lv_at hl 4 rfl) ?_
    refine lv_iconst (v := (nI 2)) hx hb d_L_law_310 (by decide) ?_
    refine nu_iadd (r := i + 2) hx hb d_L_law_311 (by omega) ?_
    refine sl_ld (v := (xs (i + 2))) hx hb hX hbl hS (by omega) hL rfl d_L_law_312 ?_
    refine lv_aload_n hx hb d_L_law_313 rfl (lv_at hl 3 rfl) ?_
    refine va_calli (rn_SW (n := 4) (As := [.ref (AD 27), .int (xs (i + 1)), .int (xs (i + 2)), .ref ou]) (rest := []) X hP hS (h_buildX B0 X0 hlt w AD Fz β ou fo (xs (i + 1)) (xs (i + 2)) hinj hR ho1 dj2 hf2 ho) k_340 k_341 k_53 k_342 (by decide +kernel) rfl rfl ⟨Nat.le_of_ble_eq_true rfl, Nat.le_of_ble_eq_true rfl⟩ rfl hl.1 rfl (Nat.le_of_ble_eq_true rfl) d_L_law_314 ⟨(show cells + 1 ≤ 601024 by omega), (show slots + 6 ≤ 7293034 by omega)⟩) hS (fun q _ h => h) (fun q h => h) (fun r w28 tS H locs ht hvm hw hB hz1 hk1 hS => ?_)
    have hP : fw_P (dC, dI) cls_ (AA s) w28 H := by rw [← ht]; exact hB
    obtain ⟨rfl, hv8⟩ := hw
    have hv9 : VL dA AD ou Fz w w28 β fo := hv8
    obtain ⟨Fz1, hR1, hD1, ho11, hf11, hf12⟩ := cl_step hDJ hD ho1 hf1 hf2 hv9
    have r36 := hD1.1
    refine lv_istore (lv' := [(5, .int (nI 1)), (0, .ref b), (1, .ref (AD 27)), (2, .ref (md 36)), (3, .ref ou), (4, .int (nI i))]) hx hb d_L_law_317 hl (by decide) rfl (fun ls hl => ?_)
    refine lv_aload_n hx hb d_L_law_319 rfl (lv_at hl 3 rfl) ?_
    refine lv_aload_n hx hb d_L_law_320 rfl (lv_at hl 1 rfl) ?_
    refine lv_iload hx hb d_L_law_321 (lv_at hl 5 rfl) ?_
    refine lv_iconst (v := (nI 1)) hx hb d_L_law_323 (by decide) ?_
    refine nu_iadd (r := i + 1) hx hb d_L_law_324 (by omega) ?_
    refine sl_ld (v := (xs (i + 1))) hx hb hX hbl hS (by omega) hL rfl d_L_law_325 ?_
    refine lv_aload_n hx hb d_L_law_326 rfl (lv_at hl 1 rfl) ?_
    refine lv_iload hx hb d_L_law_327 (lv_at hl 5 rfl) ?_
    refine lv_iconst (v := (nI 2)) hx hb d_L_law_329 (by decide) ?_
    refine nu_iadd (r := i + 2) hx hb d_L_law_330 (by omega) ?_
    refine sl_ld (v := (xs (i + 2))) hx hb hX hbl hS (by omega) hL rfl d_L_law_331 ?_
    refine va_calll (rn_V (n := 2) (As := [.int (xs (i + 1)), .int (xs (i + 2))]) (rest := []) (C := R_D) (T := F_D) (N := 36) (ci := 5) X hP hS (c_D_buildX B0 w28 md μ β (xs (i + 1)) (xs (i + 2)) hj hD1 hQ ho) k_727 k_728 k_729 k_58 k_730 (by decide +kernel) rfl rfl ⟨Nat.le_of_ble_eq_true rfl, Nat.le_of_ble_eq_true rfl⟩ r36 rfl rfl hl.1 rfl (Nat.le_of_ble_eq_true rfl) d_L_law_332 ⟨(show _ ≤ 601024 by omega), (show _ ≤ 7293034 by omega)⟩) hS (fun q _ h => h) (fun q h => h) (fun r w29 tS H locs ht hvm hw hB hz1 hk1 hS => ?_)
    have hP : fw_P (dC, dI) cls_ (AA s) w29 H := by rw [← ht]; exact hB
    have hM9 := hw
    obtain ⟨μ2, hD2, hQ2, ht2, hR2, ho22⟩ := md_step hDJ hR1 ho11 hf11 hM9
    have r36 := hD2.1
    refine lv_lstore (lv' := [(6, .long r), (5, .int (nI 1)), (0, .ref b), (1, .ref (AD 27)), (2, .ref (md 36)), (3, .ref ou), (4, .int (nI i))]) hx hb d_L_law_335 hl (by decide) rfl (fun ls hl => ?_)
    refine lv_aload_n hx hb d_L_law_337 rfl (lv_at hl 4 rfl) ?_
    refine va_calli (rn_V (n := 0) (As := []) (rest := []) (C := R_D) (T := F_D) (N := 36) (ci := 5) X hP hS (c_D_thrown B0 w29 md μ2 hj hD2) k_700 k_701 k_702 k_58 k_703 (by decide +kernel) rfl rfl ⟨Nat.le_of_ble_eq_true rfl, Nat.le_of_ble_eq_true rfl⟩ r36 rfl rfl hl.1 rfl (Nat.le_of_ble_eq_true rfl) d_L_law_338 ⟨(show _ ≤ 601024 by omega), (show _ ≤ 7293034 by omega)⟩) hS (fun q _ h => h) (fun q h => h) (fun r w30 tS H locs ht hvm hw hB hz1 hk1 hS => ?_)
    have hP : fw_P (dC, dI) cls_ (AA s) w30 H := by rw [← ht]; exact hB
    obtain ⟨e9, rfl⟩ := hw
    rw [e9] at hP
    rw [ht2]
    refine lv_iload hx hb d_L_law_341 (lv_at hl 1 rfl) ?_
    refine nu_eq (tgt := 348) hx hb (by omega) (by omega) d_L_law_343 (by decide) (fun c1 => ?_) (fun c1 => ?_)
    · refine lv_iload hx hb d_L_law_348 (lv_at hl 1 rfl) ?_
      refine nu_zne (tgt := 364) hx hb (by omega) d_L_law_350 (by decide) (fun c2 => ?_) (fun c2 => ?_)
      · refine lv_goto (tgt := 794) hx hb d_L_law_364 (by decide) ?_
        refine W.widen (k := cells + 37) (n := slots + 138) (by omega) (by omega) ?_
        exact kk w29 β H locs ls ⟨Fz1, μ2, fo, hR2, hD2, hQ2, hO, ho22, hf11, hf12⟩ hP hS (lv_sub hl [2, 3, 4, 5, 6] rfl)
      · exact absurd c2 (by omega)
    · exact absurd rfl c1
set_option maxHeartbeats 4000000 in
set_option maxRecDepth 100000 in
theorem lo_stale {p : Program} {l : Launch} {e : Env} {s : State} {m : MethodId} {below : List Frame} {meth : Method} {c : Code} {dC : Nat → ClassId} {dI : Nat → Nat → Nat} {dA : Nat → ClassId} {b L : Nat} {xs : Nat → Int32} {AD md : Nat → Nat} {ou : Nat} (C : LX p l s m meth c dC dI dA b L xs AD md ou) {cells slots : Nat} (hcl : cells + 37 ≤ 601024) (hsl : slots + 138 ≤ 7293034) {i : Nat} (hi : i + 6 ≤ L) {w : fw_W} {β : BS} {H : Heap} {locs : List Loc} {ls : Array Slot} (S0 : LSt dA AD md ou w β) (hP : fw_P (dC, dI) cls_ (AA s) w H) (hS : va_S (AA s) s.heap H locs) (hl : lv_has ls 8 (LLoc AD md ou b i)) (kk : KK p l e s m below meth c dC dI dA b AD md ou i (cells + 37) (slots + 138)) : W p l e room_1 s m #[Value.ref b] below meth c H locs cells slots (lw_Z below #[Value.ref b] s) (F0 m 638 ls []) := by
  obtain ⟨X, B0, X0, hlt, hX, hbl, hL, hDJ⟩ := C
  have X9 := X
  obtain ⟨hx, hb, hr, hml, hown, hg, hK, hn, hE, hlocks, hA⟩ := X9
  obtain ⟨hinj, hj, dj1, dj2, dj3⟩ := (id hDJ)
  obtain ⟨Fz, μ, fo, hR, hD, hQ, hO, ho1, hf1, hf2⟩ := S0
  have hp := RB.pok hR
  have hl : lv_has ls 8 [(0, .ref b), (1, .ref (AD 27)), (2, .ref (md 36)), (3, .ref ou), (4, .int (nI i))] := hl
  by_cases ho : okW (xs (i + 1)) ∧ okK (xs (i + 2))
  · obtain ⟨⟨wk, hwk, hew⟩, k, hk, hek⟩ := ho
    have h4 := bFl4 wk k β
    by_cases hfl : bFl wk k β = 0
    · refine lv_aload_n hx hb d_L_law_638 rfl (lv_at hl 1 rfl) ?_
      refine lv_aload_n hx hb d_L_law_639 rfl (lv_at hl 0 rfl) ?_
      refine lv_iload hx hb d_L_law_640 (lv_at hl 4 rfl) ?_
      refine lv_iconst (v := (nI 1)) hx hb d_L_law_642 (by decide) ?_
      refine nu_iadd (r := i + 1) hx hb d_L_law_643 (by omega) ?_
      refine sl_ld (v := (nI wk)) hx hb hX hbl hS (by omega) hL hew d_L_law_644 ?_
      refine lv_aload_n hx hb d_L_law_645 rfl (lv_at hl 0 rfl) ?_
      refine lv_iload hx hb d_L_law_646 (lv_at hl 4 rfl) ?_
      refine lv_iconst (v := (nI 2)) hx hb d_L_law_648 (by decide) ?_
      refine nu_iadd (r := i + 2) hx hb d_L_law_649 (by omega) ?_
      refine sl_ld (v := (nI k)) hx hb hX hbl hS (by omega) hL hek d_L_law_650 ?_
      refine lv_aload_n hx hb d_L_law_651 rfl (lv_at hl 3 rfl) ?_
      refine va_calli (rn_SW (n := 4) (As := [.ref (AD 27), .int (nI wk), .int (nI k), .ref ou]) (rest := []) X hP hS (h_stale B0 X0 hlt w AD Fz β ou fo wk k hinj hR ho1 dj2 hf2 hwk hk hfl) k_566 k_567 k_53 k_568 (by decide +kernel) rfl rfl ⟨Nat.le_of_ble_eq_true rfl, Nat.le_of_ble_eq_true rfl⟩ rfl hl.1 rfl (Nat.le_of_ble_eq_true rfl) d_L_law_652 ⟨(show cells + 36 ≤ 601024 by omega), (show slots + 132 ≤ 7293034 by omega)⟩) hS (fun q _ h => h) (fun q h => h) (fun r w31 tS H locs ht hvm hw hB hz1 hk1 hS => ?_)
      have hP : fw_P (dC, dI) cls_ (AA s) w31 H := by rw [← ht]; exact hB
      obtain ⟨rfl, hv8⟩ := hw
      have hv9 : VL dA AD ou Fz w w31 β (vp_updL fo 0 (if s_ran (bSess wk k β).2 = true then (1 : Int64) else 0)) := hv8
      obtain ⟨Fz1, hR1, hD1, ho11, hf11, hf12⟩ := cl_step hDJ hD ho1 hf1 hf2 hv9
      have r36 := hD1.1
      refine lv_istore (lv' := [(5, .int (nI 0)), (0, .ref b), (1, .ref (AD 27)), (2, .ref (md 36)), (3, .ref ou), (4, .int (nI i))]) hx hb d_L_law_655 hl (by decide) rfl (fun ls hl => ?_)
      refine lv_aload_n hx hb d_L_law_657 rfl (lv_at hl 3 rfl) ?_
      refine lv_aload_n hx hb d_L_law_658 rfl (lv_at hl 1 rfl) ?_
      refine lv_iload hx hb d_L_law_659 (lv_at hl 5 rfl) ?_
      refine lv_iconst (v := (nI 1)) hx hb d_L_law_661 (by decide) ?_
      refine nu_iadd (r := i + 1) hx hb d_L_law_662 (by omega) ?_
      refine sl_ld (v := (nI wk)) hx hb hX hbl hS (by omega) hL hew d_L_law_663 ?_
      refine lv_aload_n hx hb d_L_law_664 rfl (lv_at hl 1 rfl) ?_
      refine lv_iload hx hb d_L_law_665 (lv_at hl 5 rfl) ?_
      refine lv_iconst (v := (nI 2)) hx hb d_L_law_667 (by decide) ?_
      refine nu_iadd (r := i + 2) hx hb d_L_law_668 (by omega) ?_
      refine sl_ld (v := (nI k)) hx hb hX hbl hS (by omega) hL hek d_L_law_669 ?_
      refine va_calli (rn_V (n := 2) (As := [.int (nI wk), .int (nI k)]) (rest := []) (C := R_D) (T := F_D) (N := 36) (ci := 5) X hP hS (c_D_stale B0 w31 md μ β wk k hj hD1 hQ hp hwk hk) k_779 k_780 k_781 k_58 k_782 (by decide +kernel) rfl rfl ⟨Nat.le_of_ble_eq_true rfl, Nat.le_of_ble_eq_true rfl⟩ r36 rfl rfl hl.1 rfl (Nat.le_of_ble_eq_true rfl) d_L_law_670 ⟨(show _ ≤ 601024 by omega), (show _ ≤ 7293034 by omega)⟩) hS (fun q _ h => h) (fun q h => h) (fun r w32 tS H locs ht hvm hw hB hz1 hk1 hS => ?_)
      have hP : fw_P (dC, dI) cls_ (AA s) w32 H := by rw [← ht]; exact hB
      obtain ⟨rfl, hM9⟩ := hw
      rw [if_pos hfl] at hM9
      obtain ⟨μ2, hD2, hQ2, ht2, hR2, ho22⟩ := md_step hDJ hR1 ho11 hf11 hM9
      have r36 := hD2.1
      refine lv_istore (lv' := [(6, .int (nI (s_ran (bSess wk k β).2).toNat)), (5, .int (nI 0)), (0, .ref b), (1, .ref (AD 27)), (2, .ref (md 36)), (3, .ref ou), (4, .int (nI i))]) hx hb d_L_law_673 hl (by decide) rfl (fun ls hl => ?_)
      refine lv_aload_n hx hb d_L_law_675 rfl (lv_at hl 4 rfl) ?_
      refine va_calli (rn_V (n := 0) (As := []) (rest := []) (C := R_D) (T := F_D) (N := 36) (ci := 5) X hP hS (c_D_thrown B0 w32 md μ2 hj hD2) k_700 k_701 k_702 k_58 k_703 (by decide +kernel) rfl rfl ⟨Nat.le_of_ble_eq_true rfl, Nat.le_of_ble_eq_true rfl⟩ r36 rfl rfl hl.1 rfl (Nat.le_of_ble_eq_true rfl) d_L_law_676 ⟨(show _ ≤ 601024 by omega), (show _ ≤ 7293034 by omega)⟩) hS (fun q _ h => h) (fun q h => h) (fun r w33 tS H locs ht hvm hw hB hz1 hk1 hS => ?_)
      have hP : fw_P (dC, dI) cls_ (AA s) w33 H := by rw [← ht]; exact hB
      obtain ⟨e9, rfl⟩ := hw
      rw [e9] at hP
      rw [ht2]
      refine lv_iload hx hb d_L_law_679 (lv_at hl 1 rfl) ?_
      refine nu_eq (tgt := 686) hx hb (by omega) (by omega) d_L_law_681 (by decide) (fun c1 => ?_) (fun c1 => ?_)
      · refine lv_iload hx hb d_L_law_686 (lv_at hl 1 rfl) ?_
        refine nu_zne (tgt := 710) hx hb (by omega) d_L_law_688 (by decide) (fun c2 => ?_) (fun c2 => ?_)
        · exact absurd c2 (by omega)
        · refine lv_aload_n hx hb d_L_law_691 rfl (lv_at hl 5 rfl) ?_
          refine lv_iconst (v := (nI 0)) hx hb d_L_law_692 (by decide) ?_
          refine fw_lald (tys := tyl dA) hx hb hK hP ho22 1 rfl (j := 0) (by omega) (by decide) d_L_law_693 ?_
          refine lv_iload hx hb d_L_law_694 (lv_at hl 0 rfl) ?_
          refine nu_ifeq (tgt := 703) hx hb d_L_law_696 (by decide) (fun c4 => ?_) (fun c4 => ?_)
          · refine lv_lconst (v := 0) hx hb d_L_law_703 (by decide) ?_
            refine W.lcmp hx hb d_L_law_704 ?_
            refine lv_if_eq (tgt := 710) hx hb d_L_law_705 (by decide) (fun c3 => ?_) (fun c3 => ?_)
            · refine lv_goto (tgt := 794) hx hb d_L_law_710 (by decide) ?_
              refine W.widen (k := cells + 37) (n := slots + 138) (by omega) (by omega) ?_
              exact kk w32 β H locs ls ⟨Fz1, μ2, vp_updL fo 0 (if s_ran (bSess wk k β).2 = true then (1 : Int64) else 0), hR2, hD2, hQ2, hO, ho22, hf11, hf12⟩ hP hS (lv_sub hl [2, 3, 4, 5, 6] rfl)
            · exact absurd ((lg_cmp_eq _ _).mpr (pk_uLs.trans (if_neg (by rw [c4]; simp)))) c3
          · refine lv_lconst (v := 1) hx hb d_L_law_699 (by decide) ?_
            refine lv_goto (tgt := 704) hx hb d_L_law_700 (by decide) ?_
            refine W.lcmp hx hb d_L_law_704 ?_
            refine lv_if_eq (tgt := 710) hx hb d_L_law_705 (by decide) (fun c3 => ?_) (fun c3 => ?_)
            · refine lv_goto (tgt := 794) hx hb d_L_law_710 (by decide) ?_
              refine W.widen (k := cells + 37) (n := slots + 138) (by omega) (by omega) ?_
              exact kk w32 β H locs ls ⟨Fz1, μ2, vp_updL fo 0 (if s_ran (bSess wk k β).2 = true then (1 : Int64) else 0), hR2, hD2, hQ2, hO, ho22, hf11, hf12⟩ hP hS (lv_sub hl [2, 3, 4, 5, 6] rfl)
            · exact absurd ((lg_cmp_eq _ _).mpr (pk_uLs.trans (if_pos c4))) c3
      · exact absurd rfl c1
    · refine lv_aload_n hx hb d_L_law_638 rfl (lv_at hl 1 rfl) ?_
      refine lv_aload_n hx hb d_L_law_639 rfl (lv_at hl 0 rfl) ?_
      refine lv_iload hx hb d_L_law_640 (lv_at hl 4 rfl) ?_
      refine lv_iconst (v := (nI 1)) hx hb d_L_law_642 (by decide) ?_
      refine nu_iadd (r := i + 1) hx hb d_L_law_643 (by omega) ?_
      refine sl_ld (v := (nI wk)) hx hb hX hbl hS (by omega) hL hew d_L_law_644 ?_
      refine lv_aload_n hx hb d_L_law_645 rfl (lv_at hl 0 rfl) ?_
      refine lv_iload hx hb d_L_law_646 (lv_at hl 4 rfl) ?_
      refine lv_iconst (v := (nI 2)) hx hb d_L_law_648 (by decide) ?_
      refine nu_iadd (r := i + 2) hx hb d_L_law_649 (by omega) ?_
      refine sl_ld (v := (nI k)) hx hb hX hbl hS (by omega) hL hek d_L_law_650 ?_
      refine lv_aload_n hx hb d_L_law_651 rfl (lv_at hl 3 rfl) ?_
      refine va_calli (rn_SW (n := 4) (As := [.ref (AD 27), .int (nI wk), .int (nI k), .ref ou]) (rest := []) X hP hS (h_staleN B0 X0 hlt w AD Fz β ou fo wk k hinj hR ho1 dj2 hf2 hwk hk hfl) k_566 k_567 k_53 k_568 (by decide +kernel) rfl rfl ⟨Nat.le_of_ble_eq_true rfl, Nat.le_of_ble_eq_true rfl⟩ rfl hl.1 rfl (Nat.le_of_ble_eq_true rfl) d_L_law_652 ⟨(show cells + 37 ≤ 601024 by omega), (show slots + 138 ≤ 7293034 by omega)⟩) hS (fun q _ h => h) (fun q h => h) (fun r w34 tS H locs ht hvm hw hB hz1 hk1 hS => ?_)
      have hP : fw_P (dC, dI) cls_ (AA s) w34 H := by rw [← ht]; exact hB
      obtain ⟨rfl, hv8⟩ := hw
      have hv9 : VL dA AD ou Fz w w34 β fo := hv8
      obtain ⟨Fz1, hR1, hD1, ho11, hf11, hf12⟩ := cl_step hDJ hD ho1 hf1 hf2 hv9
      have r36 := hD1.1
      refine lv_istore (lv' := [(5, .int (nI (bFl wk k β + 1))), (0, .ref b), (1, .ref (AD 27)), (2, .ref (md 36)), (3, .ref ou), (4, .int (nI i))]) hx hb d_L_law_655 hl (by decide) rfl (fun ls hl => ?_)
      refine lv_aload_n hx hb d_L_law_657 rfl (lv_at hl 3 rfl) ?_
      refine lv_aload_n hx hb d_L_law_658 rfl (lv_at hl 1 rfl) ?_
      refine lv_iload hx hb d_L_law_659 (lv_at hl 5 rfl) ?_
      refine lv_iconst (v := (nI 1)) hx hb d_L_law_661 (by decide) ?_
      refine nu_iadd (r := i + 1) hx hb d_L_law_662 (by omega) ?_
      refine sl_ld (v := (nI wk)) hx hb hX hbl hS (by omega) hL hew d_L_law_663 ?_
      refine lv_aload_n hx hb d_L_law_664 rfl (lv_at hl 1 rfl) ?_
      refine lv_iload hx hb d_L_law_665 (lv_at hl 5 rfl) ?_
      refine lv_iconst (v := (nI 2)) hx hb d_L_law_667 (by decide) ?_
      refine nu_iadd (r := i + 2) hx hb d_L_law_668 (by omega) ?_
      refine sl_ld (v := (nI k)) hx hb hX hbl hS (by omega) hL hek d_L_law_669 ?_
      refine va_calli (rn_V (n := 2) (As := [.int (nI wk), .int (nI k)]) (rest := []) (C := R_D) (T := F_D) (N := 36) (ci := 5) X hP hS (c_D_stale B0 w34 md μ β wk k hj hD1 hQ hp hwk hk) k_779 k_780 k_781 k_58 k_782 (by decide +kernel) rfl rfl ⟨Nat.le_of_ble_eq_true rfl, Nat.le_of_ble_eq_true rfl⟩ r36 rfl rfl hl.1 rfl (Nat.le_of_ble_eq_true rfl) d_L_law_670 ⟨(show _ ≤ 601024 by omega), (show _ ≤ 7293034 by omega)⟩) hS (fun q _ h => h) (fun q h => h) (fun r w35 tS H locs ht hvm hw hB hz1 hk1 hS => ?_)
      have hP : fw_P (dC, dI) cls_ (AA s) w35 H := by rw [← ht]; exact hB
      obtain ⟨rfl, hM9⟩ := hw
      rw [if_neg hfl] at hM9
      obtain ⟨μ2, hD2, hQ2, ht2, hR2, ho22⟩ := md_step hDJ hR1 ho11 hf11 hM9
      have r36 := hD2.1
      refine lv_istore (lv' := [(6, .int (nI (s_ran (bSess wk k β).2).toNat)), (5, .int (nI (bFl wk k β + 1))), (0, .ref b), (1, .ref (AD 27)), (2, .ref (md 36)), (3, .ref ou), (4, .int (nI i))]) hx hb d_L_law_673 hl (by decide) rfl (fun ls hl => ?_)
      refine lv_aload_n hx hb d_L_law_675 rfl (lv_at hl 4 rfl) ?_
      refine va_calli (rn_V (n := 0) (As := []) (rest := []) (C := R_D) (T := F_D) (N := 36) (ci := 5) X hP hS (c_D_thrown B0 w35 md μ2 hj hD2) k_700 k_701 k_702 k_58 k_703 (by decide +kernel) rfl rfl ⟨Nat.le_of_ble_eq_true rfl, Nat.le_of_ble_eq_true rfl⟩ r36 rfl rfl hl.1 rfl (Nat.le_of_ble_eq_true rfl) d_L_law_676 ⟨(show _ ≤ 601024 by omega), (show _ ≤ 7293034 by omega)⟩) hS (fun q _ h => h) (fun q h => h) (fun r w36 tS H locs ht hvm hw hB hz1 hk1 hS => ?_)
      have hP : fw_P (dC, dI) cls_ (AA s) w36 H := by rw [← ht]; exact hB
      obtain ⟨e9, rfl⟩ := hw
      rw [e9] at hP
      rw [ht2]
      refine lv_iload hx hb d_L_law_679 (lv_at hl 1 rfl) ?_
      refine nu_eq (tgt := 686) hx hb (by omega) (by omega) d_L_law_681 (by decide) (fun c1 => ?_) (fun c1 => ?_)
      · refine lv_iload hx hb d_L_law_686 (lv_at hl 1 rfl) ?_
        refine nu_zne (tgt := 710) hx hb (by omega) d_L_law_688 (by decide) (fun c2 => ?_) (fun c2 => ?_)
        · refine lv_goto (tgt := 794) hx hb d_L_law_710 (by decide) ?_
          refine W.widen (k := cells + 37) (n := slots + 138) (by omega) (by omega) ?_
          exact kk w35 β H locs ls ⟨Fz1, μ2, fo, hR2, hD2, hQ2, hO, ho22, hf11, hf12⟩ hP hS (lv_sub hl [2, 3, 4, 5, 6] rfl)
        · exact absurd c2 (by omega)
      · exact absurd rfl c1
  · refine lv_aload_n hx hb d_L_law_638 rfl (lv_at hl 1 rfl) ?_
    refine lv_aload_n hx hb d_L_law_639 rfl (lv_at hl 0 rfl) ?_
    refine lv_iload hx hb d_L_law_640 (lv_at hl 4 rfl) ?_
    refine lv_iconst (v := (nI 1)) hx hb d_L_law_642 (by decide) ?_
    refine nu_iadd (r := i + 1) hx hb d_L_law_643 (by omega) ?_
    refine sl_ld (v := (xs (i + 1))) hx hb hX hbl hS (by omega) hL rfl d_L_law_644 ?_
    refine lv_aload_n hx hb d_L_law_645 rfl (lv_at hl 0 rfl) ?_
    refine lv_iload hx hb d_L_law_646 (lv_at hl 4 rfl) ?_
    refine lv_iconst (v := (nI 2)) hx hb d_L_law_648 (by decide) ?_
    refine nu_iadd (r := i + 2) hx hb d_L_law_649 (by omega) ?_
    refine sl_ld (v := (xs (i + 2))) hx hb hX hbl hS (by omega) hL rfl d_L_law_650 ?_
    refine lv_aload_n hx hb d_L_law_651 rfl (lv_at hl 3 rfl) ?_
    refine va_calli (rn_SW (n := 4) (As := [.ref (AD 27), .int (xs (i + 1)), .int (xs (i + 2)), .ref ou]) (rest := []) X hP hS (h_staleX B0 X0 hlt w AD Fz β ou fo (xs (i + 1)) (xs (i + 2)) hinj hR ho1 dj2 hf2 ho) k_566 k_567 k_53 k_568 (by decide +kernel) rfl rfl ⟨Nat.le_of_ble_eq_true rfl, Nat.le_of_ble_eq_true rfl⟩ rfl hl.1 rfl (Nat.le_of_ble_eq_true rfl) d_L_law_652 ⟨(show cells + 1 ≤ 601024 by omega), (show slots + 6 ≤ 7293034 by omega)⟩) hS (fun q _ h => h) (fun q h => h) (fun r w37 tS H locs ht hvm hw hB hz1 hk1 hS => ?_)
    have hP : fw_P (dC, dI) cls_ (AA s) w37 H := by rw [← ht]; exact hB
    obtain ⟨rfl, hv8⟩ := hw
    have hv9 : VL dA AD ou Fz w w37 β fo := hv8
    obtain ⟨Fz1, hR1, hD1, ho11, hf11, hf12⟩ := cl_step hDJ hD ho1 hf1 hf2 hv9
    have r36 := hD1.1
    refine lv_istore (lv' := [(5, .int (nI 1)), (0, .ref b), (1, .ref (AD 27)), (2, .ref (md 36)), (3, .ref ou), (4, .int (nI i))]) hx hb d_L_law_655 hl (by decide) rfl (fun ls hl => ?_)
    refine lv_aload_n hx hb d_L_law_657 rfl (lv_at hl 3 rfl) ?_
    refine lv_aload_n hx hb d_L_law_658 rfl (lv_at hl 1 rfl) ?_
    refine lv_iload hx hb d_L_law_659 (lv_at hl 5 rfl) ?_
    refine lv_iconst (v := (nI 1)) hx hb d_L_law_661 (by decide) ?_
    refine nu_iadd (r := i + 1) hx hb d_L_law_662 (by omega) ?_
    refine sl_ld (v := (xs (i + 1))) hx hb hX hbl hS (by omega) hL rfl d_L_law_663 ?_
    refine lv_aload_n hx hb d_L_law_664 rfl (lv_at hl 1 rfl) ?_
    refine lv_iload hx hb d_L_law_665 (lv_at hl 5 rfl) ?_
    refine lv_iconst (v := (nI 2)) hx hb d_L_law_667 (by decide) ?_
    refine nu_iadd (r := i + 2) hx hb d_L_law_668 (by omega) ?_
    refine sl_ld (v := (xs (i + 2))) hx hb hX hbl hS (by omega) hL rfl d_L_law_669 ?_
    refine va_calli (rn_V (n := 2) (As := [.int (xs (i + 1)), .int (xs (i + 2))]) (rest := []) (C := R_D) (T := F_D) (N := 36) (ci := 5) X hP hS (c_D_staleX B0 w37 md μ β (xs (i + 1)) (xs (i + 2)) hj hD1 hQ ho) k_779 k_780 k_781 k_58 k_782 (by decide +kernel) rfl rfl ⟨Nat.le_of_ble_eq_true rfl, Nat.le_of_ble_eq_true rfl⟩ r36 rfl rfl hl.1 rfl (Nat.le_of_ble_eq_true rfl) d_L_law_670 ⟨(show _ ≤ 601024 by omega), (show _ ≤ 7293034 by omega)⟩) hS (fun q _ h => h) (fun q h => h) (fun r w38 tS H locs ht hvm hw hB hz1 hk1 hS => ?_)
    have hP : fw_P (dC, dI) cls_ (AA s) w38 H := by rw [← ht]; exact hB
    obtain ⟨⟨b8, rfl⟩, hM9⟩ := hw
    obtain ⟨μ2, hD2, hQ2, ht2, hR2, ho22⟩ := md_step hDJ hR1 ho11 hf11 hM9
    have r36 := hD2.1
    refine lv_istore (lv' := [(6, .int (nI b8.toNat)), (5, .int (nI 1)), (0, .ref b), (1, .ref (AD 27)), (2, .ref (md 36)), (3, .ref ou), (4, .int (nI i))]) hx hb d_L_law_673 hl (by decide) rfl (fun ls hl => ?_)
    refine lv_aload_n hx hb d_L_law_675 rfl (lv_at hl 4 rfl) ?_
    refine va_calli (rn_V (n := 0) (As := []) (rest := []) (C := R_D) (T := F_D) (N := 36) (ci := 5) X hP hS (c_D_thrown B0 w38 md μ2 hj hD2) k_700 k_701 k_702 k_58 k_703 (by decide +kernel) rfl rfl ⟨Nat.le_of_ble_eq_true rfl, Nat.le_of_ble_eq_true rfl⟩ r36 rfl rfl hl.1 rfl (Nat.le_of_ble_eq_true rfl) d_L_law_676 ⟨(show _ ≤ 601024 by omega), (show _ ≤ 7293034 by omega)⟩) hS (fun q _ h => h) (fun q h => h) (fun r w39 tS H locs ht hvm hw hB hz1 hk1 hS => ?_)
    have hP : fw_P (dC, dI) cls_ (AA s) w39 H := by rw [← ht]; exact hB
    obtain ⟨e9, rfl⟩ := hw
    rw [e9] at hP
    rw [ht2]
    refine lv_iload hx hb d_L_law_679 (lv_at hl 1 rfl) ?_
    refine nu_eq (tgt := 686) hx hb (by omega) (by omega) d_L_law_681 (by decide) (fun c1 => ?_) (fun c1 => ?_)
    · refine lv_iload hx hb d_L_law_686 (lv_at hl 1 rfl) ?_
      refine nu_zne (tgt := 710) hx hb (by omega) d_L_law_688 (by decide) (fun c2 => ?_) (fun c2 => ?_)
      · refine lv_goto (tgt := 794) hx hb d_L_law_710 (by decide) ?_
        refine W.widen (k := cells + 37) (n := slots + 138) (by omega) (by omega) ?_
        exact kk w38 β H locs ls ⟨Fz1, μ2, fo, hR2, hD2, hQ2, hO, ho22, hf11, hf12⟩ hP hS (lv_sub hl [2, 3, 4, 5, 6] rfl)
      · exact absurd c2 (by omega)
    · exact absurd rfl c1
