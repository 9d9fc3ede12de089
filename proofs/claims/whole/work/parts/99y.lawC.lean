set_option maxHeartbeats 4000000 in
set_option maxRecDepth 100000 in
theorem lo_forget {p : Program} {l : Launch} {e : Env} {s : State} {m : MethodId} {below : List Frame} {meth : Method} {c : Code} {dC : Nat → ClassId} {dI : Nat → Nat → Nat} {dA : Nat → ClassId} {b L : Nat} {xs : Nat → Int32} {AD md : Nat → Nat} {ou : Nat} (C : LX p l s m meth c dC dI dA b L xs AD md ou) {cells slots : Nat} (hcl : cells + 37 ≤ 601024) (hsl : slots + 138 ≤ 7293034) {i : Nat} (hi : i + 6 ≤ L) {w : fw_W} {β : BS} {H : Heap} {locs : List Loc} {ls : Array Slot} (S0 : LSt dA AD md ou w β) (hP : fw_P (dC, dI) cls_ (AA s) w H) (hS : va_S (AA s) s.heap H locs) (hl : lv_has ls 8 (LLoc AD md ou b i)) (kk : KK p l e s m below meth c dC dI dA b AD md ou i (cells + 37) (slots + 138)) : W p l e room_1 s m #[Value.ref b] below meth c H locs cells slots (lw_Z below #[Value.ref b] s) (F0 m 367 ls []) := by
  obtain ⟨X, B0, X0, hlt, hX, hbl, hL, hDJ⟩ := C
  have X9 := X
  obtain ⟨hx, hb, hr, hml, hown, hg, hK, hn, hE, hlocks, hA⟩ := X9
  obtain ⟨hinj, hj, dj1, dj2, dj3⟩ := (id hDJ)
  obtain ⟨Fz, μ, fo, hR, hD, hQ, hO, ho1, hf1, hf2⟩ := S0
  have hp := RB.pok hR
  have hl : lv_has ls 8 [(0, .ref b), (1, .ref (AD 27)), (2, .ref (md 36)), (3, .ref ou), (4, .int (nI i))] := hl
  by_cases ho : okW (xs (i + 1))
  · obtain ⟨wk, hwk, hew⟩ := ho
    refine lv_aload_n hx hb d_L_law_367 rfl (lv_at hl 1 rfl) ?_
    refine lv_aload_n hx hb d_L_law_368 rfl (lv_at hl 0 rfl) ?_
    refine lv_iload hx hb d_L_law_369 (lv_at hl 4 rfl) ?_
    refine lv_iconst (v := (nI 1)) hx hb d_L_law_371 (by decide) ?_
    refine nu_iadd (r := i + 1) hx hb d_L_law_372 (by omega) ?_
    refine sl_ld (v := (nI wk)) hx hb hX hbl hS (by omega) hL hew d_L_law_373 ?_
    refine lv_aload_n hx hb d_L_law_374 rfl (lv_at hl 3 rfl) ?_
    refine va_calli (rn_SW (n := 3) (As := [.ref (AD 27), .int (nI wk), .ref ou]) (rest := []) X hP hS (h_forget B0 X0 hlt w AD Fz β ou fo wk hinj hR ho1 dj2 hf2 hwk) k_527 k_528 k_53 k_529 (by decide +kernel) rfl rfl ⟨Nat.le_of_ble_eq_true rfl, Nat.le_of_ble_eq_true rfl⟩ rfl hl.1 rfl (Nat.le_of_ble_eq_true rfl) d_L_law_375 ⟨(show cells + 0 ≤ 601024 by omega), (show slots + 0 ≤ 7293034 by omega)⟩) hS (fun q _ h => h) (fun q h => h) (fun r w40 tS H locs ht hvm hw hB hz1 hk1 hS => ?_)
    have hP : fw_P (dC, dI) cls_ (AA s) w40 H := by rw [← ht]; exact hB
    obtain ⟨rfl, hv8⟩ := hw
    have hv9 : VL dA AD ou Fz w w40 (bForget wk β) (vp_updL fo 0 (nI (cntT (b_tr β) wk 12)).toInt64) := hv8
    obtain ⟨Fz1, hR1, hD1, ho11, hf11, hf12⟩ := cl_step hDJ hD ho1 hf1 hf2 hv9
    have r36 := hD1.1
    refine lv_istore (lv' := [(5, .int (nI 0)), (0, .ref b), (1, .ref (AD 27)), (2, .ref (md 36)), (3, .ref ou), (4, .int (nI i))]) hx hb d_L_law_378 hl (by decide) rfl (fun ls hl => ?_)
    refine lv_aload_n hx hb d_L_law_380 rfl (lv_at hl 3 rfl) ?_
    refine lv_aload_n hx hb d_L_law_381 rfl (lv_at hl 1 rfl) ?_
    refine lv_iload hx hb d_L_law_382 (lv_at hl 5 rfl) ?_
    refine lv_iconst (v := (nI 1)) hx hb d_L_law_384 (by decide) ?_
    refine nu_iadd (r := i + 1) hx hb d_L_law_385 (by omega) ?_
    refine sl_ld (v := (nI wk)) hx hb hX hbl hS (by omega) hL hew d_L_law_386 ?_
    refine va_calli (rn_V (n := 1) (As := [.int (nI wk)]) (rest := []) (C := R_D) (T := F_D) (N := 36) (ci := 5) X hP hS (c_D_forget B0 w40 md μ β wk hj hD1 hQ hwk) k_786 k_787 k_788 k_58 k_789 (by decide +kernel) rfl rfl ⟨Nat.le_of_ble_eq_true rfl, Nat.le_of_ble_eq_true rfl⟩ r36 rfl rfl hl.1 rfl (Nat.le_of_ble_eq_true rfl) d_L_law_387 ⟨(show _ ≤ 601024 by omega), (show _ ≤ 7293034 by omega)⟩) hS (fun q _ h => h) (fun q h => h) (fun r w41 tS H locs ht hvm hw hB hz1 hk1 hS => ?_)
    have hP : fw_P (dC, dI) cls_ (AA s) w41 H := by rw [← ht]; exact hB
    obtain ⟨rfl, hM9⟩ := hw
    obtain ⟨μ2, hD2, hQ2, ht2, hR2, ho22⟩ := md_step hDJ hR1 ho11 hf11 hM9
    have r36 := hD2.1
    refine lv_istore (lv' := [(6, .int (nI (cntT (b_tr β) wk 12))), (5, .int (nI 0)), (0, .ref b), (1, .ref (AD 27)), (2, .ref (md 36)), (3, .ref ou), (4, .int (nI i))]) hx hb d_L_law_390 hl (by decide) rfl (fun ls hl => ?_)
    refine lv_aload_n hx hb d_L_law_392 rfl (lv_at hl 4 rfl) ?_
    refine va_calli (rn_V (n := 0) (As := []) (rest := []) (C := R_D) (T := F_D) (N := 36) (ci := 5) X hP hS (c_D_thrown B0 w41 md μ2 hj hD2) k_700 k_701 k_702 k_58 k_703 (by decide +kernel) rfl rfl ⟨Nat.le_of_ble_eq_true rfl, Nat.le_of_ble_eq_true rfl⟩ r36 rfl rfl hl.1 rfl (Nat.le_of_ble_eq_true rfl) d_L_law_393 ⟨(show _ ≤ 601024 by omega), (show _ ≤ 7293034 by omega)⟩) hS (fun q _ h => h) (fun q h => h) (fun r w42 tS H locs ht hvm hw hB hz1 hk1 hS => ?_)
    have hP : fw_P (dC, dI) cls_ (AA s) w42 H := by rw [← ht]; exact hB
    obtain ⟨e9, rfl⟩ := hw
    rw [e9] at hP
    rw [ht2]
    refine lv_iload hx hb d_L_law_396 (lv_at hl 1 rfl) ?_
    refine nu_eq (tgt := 403) hx hb (by omega) (by omega) d_L_law_398 (by decide) (fun c1 => ?_) (fun c1 => ?_)
    · refine lv_iload hx hb d_L_law_403 (lv_at hl 1 rfl) ?_
      refine nu_zne (tgt := 420) hx hb (by omega) d_L_law_405 (by decide) (fun c2 => ?_) (fun c2 => ?_)
      · exact absurd c2 (by omega)
      · refine lv_aload_n hx hb d_L_law_408 rfl (lv_at hl 5 rfl) ?_
        refine lv_iconst (v := (nI 0)) hx hb d_L_law_409 (by decide) ?_
        refine fw_lald (tys := tyl dA) hx hb hK hP ho22 1 rfl (j := 0) (by omega) (by decide) d_L_law_410 ?_
        refine lv_iload hx hb d_L_law_411 (lv_at hl 0 rfl) ?_
        refine lv_i2l (v := ((nI (cntT (b_tr β) wk 12))).toInt64) hx hb d_L_law_413 rfl ?_
        refine W.lcmp hx hb d_L_law_414 ?_
        refine lv_if_eq (tgt := 420) hx hb d_L_law_415 (by decide) (fun c3 => ?_) (fun c3 => ?_)
        · refine lv_goto (tgt := 794) hx hb d_L_law_420 (by decide) ?_
          refine W.widen (k := cells + 37) (n := slots + 138) (by omega) (by omega) ?_
          exact kk w41 (bForget wk β) H locs ls ⟨Fz1, μ2, vp_updL fo 0 (nI (cntT (b_tr β) wk 12)).toInt64, hR2, hD2, hQ2, hO.forget, ho22, hf11, hf12⟩ hP hS (lv_sub hl [2, 3, 4, 5, 6] rfl)
        · exact absurd ((lg_cmp_eq _ _).mpr (pk_uLs)) c3
    · exact absurd rfl c1
  · refine lv_aload_n hx hb d_L_law_367 rfl (lv_at hl 1 rfl) ?_
    refine lv_aload_n hx hb d_L_law_368 rfl (lv_at hl 0 rfl) ?_
    refine lv_iload hx hb d_L_law_369 (lv_at hl 4 rfl) ?_
    refine lv_iconst (v := (nI 1)) hx hb d_L_law_371 (by decide) ?_
    refine nu_iadd (r := i + 1) hx hb d_L_law_372 (by omega) ?_
    refine sl_ld (v := (xs (i + 1))) hx hb hX hbl hS (by omega) hL rfl d_L_law_373 ?_
    refine lv_aload_n hx hb d_L_law_374 rfl (lv_at hl 3 rfl) ?_
    refine va_calli (rn_SW (n := 3) (As := [.ref (AD 27), .int (xs (i + 1)), .ref ou]) (rest := []) X hP hS (h_forgetX B0 X0 hlt w AD Fz β ou fo (xs (i + 1)) hinj hR ho1 dj2 hf2 ho) k_527 k_528 k_53 k_529 (by decide +kernel) rfl rfl ⟨Nat.le_of_ble_eq_true rfl, Nat.le_of_ble_eq_true rfl⟩ rfl hl.1 rfl (Nat.le_of_ble_eq_true rfl) d_L_law_375 ⟨(show cells + 1 ≤ 601024 by omega), (show slots + 6 ≤ 7293034 by omega)⟩) hS (fun q _ h => h) (fun q h => h) (fun r w43 tS H locs ht hvm hw hB hz1 hk1 hS => ?_)
    have hP : fw_P (dC, dI) cls_ (AA s) w43 H := by rw [← ht]; exact hB
    obtain ⟨rfl, hv8⟩ := hw
    have hv9 : VL dA AD ou Fz w w43 β fo := hv8
    obtain ⟨Fz1, hR1, hD1, ho11, hf11, hf12⟩ := cl_step hDJ hD ho1 hf1 hf2 hv9
    have r36 := hD1.1
    refine lv_istore (lv' := [(5, .int (nI 1)), (0, .ref b), (1, .ref (AD 27)), (2, .ref (md 36)), (3, .ref ou), (4, .int (nI i))]) hx hb d_L_law_378 hl (by decide) rfl (fun ls hl => ?_)
    refine lv_aload_n hx hb d_L_law_380 rfl (lv_at hl 3 rfl) ?_
    refine lv_aload_n hx hb d_L_law_381 rfl (lv_at hl 1 rfl) ?_
    refine lv_iload hx hb d_L_law_382 (lv_at hl 5 rfl) ?_
    refine lv_iconst (v := (nI 1)) hx hb d_L_law_384 (by decide) ?_
    refine nu_iadd (r := i + 1) hx hb d_L_law_385 (by omega) ?_
    refine sl_ld (v := (xs (i + 1))) hx hb hX hbl hS (by omega) hL rfl d_L_law_386 ?_
    refine va_calli (rn_V (n := 1) (As := [.int (xs (i + 1))]) (rest := []) (C := R_D) (T := F_D) (N := 36) (ci := 5) X hP hS (c_D_forgetX B0 w43 md μ β (xs (i + 1)) hj hD1 hQ ho) k_786 k_787 k_788 k_58 k_789 (by decide +kernel) rfl rfl ⟨Nat.le_of_ble_eq_true rfl, Nat.le_of_ble_eq_true rfl⟩ r36 rfl rfl hl.1 rfl (Nat.le_of_ble_eq_true rfl) d_L_law_387 ⟨(show _ ≤ 601024 by omega), (show _ ≤ 7293034 by omega)⟩) hS (fun q _ h => h) (fun q h => h) (fun r w44 tS H locs ht hvm hw hB hz1 hk1 hS => ?_)
    have hP : fw_P (dC, dI) cls_ (AA s) w44 H := by rw [← ht]; exact hB
    have hM9 := hw
    obtain ⟨μ2, hD2, hQ2, ht2, hR2, ho22⟩ := md_step hDJ hR1 ho11 hf11 hM9
    have r36 := hD2.1
    refine lv_istore (lv' := [(6, .int r), (5, .int (nI 1)), (0, .ref b), (1, .ref (AD 27)), (2, .ref (md 36)), (3, .ref ou), (4, .int (nI i))]) hx hb d_L_law_390 hl (by decide) rfl (fun ls hl => ?_)
    refine lv_aload_n hx hb d_L_law_392 rfl (lv_at hl 4 rfl) ?_
    refine va_calli (rn_V (n := 0) (As := []) (rest := []) (C := R_D) (T := F_D) (N := 36) (ci := 5) X hP hS (c_D_thrown B0 w44 md μ2 hj hD2) k_700 k_701 k_702 k_58 k_703 (by decide +kernel) rfl rfl ⟨Nat.le_of_ble_eq_true rfl, Nat.le_of_ble_eq_true rfl⟩ r36 rfl rfl hl.1 rfl (Nat.le_of_ble_eq_true rfl) d_L_law_393 ⟨(show _ ≤ 601024 by omega), (show _ ≤ 7293034 by omega)⟩) hS (fun q _ h => h) (fun q h => h) (fun r w45 tS H locs ht hvm hw hB hz1 hk1 hS => ?_)
    have hP : fw_P (dC, dI) cls_ (AA s) w45 H := by rw [← ht]; exact hB
    obtain ⟨e9, rfl⟩ := hw
    rw [e9] at hP
    rw [ht2]
    refine lv_iload hx hb d_L_law_396 (lv_at hl 1 rfl) ?_
    refine nu_eq (tgt := 403) hx hb (by omega) (by omega) d_L_law_398 (by decide) (fun c1 => ?_) (fun c1 => ?_)
    · refine lv_iload hx hb d_L_law_403 (lv_at hl 1 rfl) ?_
      refine nu_zne (tgt := 420) hx hb (by omega) d_L_law_405 (by decide) (fun c2 => ?_) (fun c2 => ?_)
      · refine lv_goto (tgt := 794) hx hb d_L_law_420 (by decide) ?_
        refine W.widen (k := cells + 37) (n := slots + 138) (by omega) (by omega) ?_
        exact kk w44 β H locs ls ⟨Fz1, μ2, fo, hR2, hD2, hQ2, hO, ho22, hf11, hf12⟩ hP hS (lv_sub hl [2, 3, 4, 5, 6] rfl)
      · exact absurd c2 (by omega)
    · exact absurd rfl c1
set_option maxHeartbeats 4000000 in
set_option maxRecDepth 100000 in
theorem lo_shrink {p : Program} {l : Launch} {e : Env} {s : State} {m : MethodId} {below : List Frame} {meth : Method} {c : Code} {dC : Nat → ClassId} {dI : Nat → Nat → Nat} {dA : Nat → ClassId} {b L : Nat} {xs : Nat → Int32} {AD md : Nat → Nat} {ou : Nat} (C : LX p l s m meth c dC dI dA b L xs AD md ou) {cells slots : Nat} (hcl : cells + 37 ≤ 601024) (hsl : slots + 138 ≤ 7293034) {i : Nat} (hi : i + 6 ≤ L) {w : fw_W} {β : BS} {H : Heap} {locs : List Loc} {ls : Array Slot} (S0 : LSt dA AD md ou w β) (hP : fw_P (dC, dI) cls_ (AA s) w H) (hS : va_S (AA s) s.heap H locs) (hl : lv_has ls 8 (LLoc AD md ou b i)) (kk : KK p l e s m below meth c dC dI dA b AD md ou i (cells + 37) (slots + 138)) : W p l e room_1 s m #[Value.ref b] below meth c H locs cells slots (lw_Z below #[Value.ref b] s) (F0 m 423 ls []) := by
  obtain ⟨X, B0, X0, hlt, hX, hbl, hL, hDJ⟩ := C
  have X9 := X
  obtain ⟨hx, hb, hr, hml, hown, hg, hK, hn, hE, hlocks, hA⟩ := X9
  obtain ⟨hinj, hj, dj1, dj2, dj3⟩ := (id hDJ)
  obtain ⟨Fz, μ, fo, hR, hD, hQ, hO, ho1, hf1, hf2⟩ := S0
  have hp := RB.pok hR
  have hl : lv_has ls 8 [(0, .ref b), (1, .ref (AD 27)), (2, .ref (md 36)), (3, .ref ou), (4, .int (nI i))] := hl
  by_cases ho : ∃ j, j ≤ 16 ∧ (xs (i + 1)) = nI j
  · obtain ⟨n0, hn0, hew⟩ := ho
    refine lv_aload_n hx hb d_L_law_423 rfl (lv_at hl 1 rfl) ?_
    refine lv_aload_n hx hb d_L_law_424 rfl (lv_at hl 0 rfl) ?_
    refine lv_iload hx hb d_L_law_425 (lv_at hl 4 rfl) ?_
    refine lv_iconst (v := (nI 1)) hx hb d_L_law_427 (by decide) ?_
    refine nu_iadd (r := i + 1) hx hb d_L_law_428 (by omega) ?_
    refine sl_ld (v := (nI n0)) hx hb hX hbl hS (by omega) hL hew d_L_law_429 ?_
    refine lv_aload_n hx hb d_L_law_430 rfl (lv_at hl 3 rfl) ?_
    refine va_calli (rn_SW (n := 3) (As := [.ref (AD 27), .int (nI n0), .ref ou]) (rest := []) X hP hS (h_shrink B0 X0 hlt w AD Fz β ou fo n0 hinj hR ho1 dj2 hf2 hn0) k_539 k_540 k_53 k_541 (by decide +kernel) rfl rfl ⟨Nat.le_of_ble_eq_true rfl, Nat.le_of_ble_eq_true rfl⟩ rfl hl.1 rfl (Nat.le_of_ble_eq_true rfl) d_L_law_431 ⟨(show cells + 0 ≤ 601024 by omega), (show slots + 0 ≤ 7293034 by omega)⟩) hS (fun q _ h => h) (fun q h => h) (fun r w46 tS H locs ht hvm hw hB hz1 hk1 hS => ?_)
    have hP : fw_P (dC, dI) cls_ (AA s) w46 H := by rw [← ht]; exact hB
    obtain ⟨rfl, hv8⟩ := hw
    have hv9 : VL dA AD ou Fz w w46 (bShrink n0 β) (vp_updL fo 0 (nI ((b_cl β).length - n0)).toInt64) := hv8
    obtain ⟨Fz1, hR1, hD1, ho11, hf11, hf12⟩ := cl_step hDJ hD ho1 hf1 hf2 hv9
    have r36 := hD1.1
    refine lv_istore (lv' := [(5, .int (nI 0)), (0, .ref b), (1, .ref (AD 27)), (2, .ref (md 36)), (3, .ref ou), (4, .int (nI i))]) hx hb d_L_law_434 hl (by decide) rfl (fun ls hl => ?_)
    refine lv_aload_n hx hb d_L_law_436 rfl (lv_at hl 3 rfl) ?_
    refine lv_aload_n hx hb d_L_law_437 rfl (lv_at hl 1 rfl) ?_
    refine lv_iload hx hb d_L_law_438 (lv_at hl 5 rfl) ?_
    refine lv_iconst (v := (nI 1)) hx hb d_L_law_440 (by decide) ?_
    refine nu_iadd (r := i + 1) hx hb d_L_law_441 (by omega) ?_
    refine sl_ld (v := (nI n0)) hx hb hX hbl hS (by omega) hL hew d_L_law_442 ?_
    refine va_calli (rn_V (n := 1) (As := [.int (nI n0)]) (rest := []) (C := R_D) (T := F_D) (N := 36) (ci := 5) X hP hS (c_D_shrink B0 w46 md μ β n0 hj hD1 hQ hn0) k_794 k_795 k_796 k_58 k_797 (by decide +kernel) rfl rfl ⟨Nat.le_of_ble_eq_true rfl, Nat.le_of_ble_eq_true rfl⟩ r36 rfl rfl hl.1 rfl (Nat.le_of_ble_eq_true rfl) d_L_law_443 ⟨(show _ ≤ 601024 by omega), (show _ ≤ 7293034 by omega)⟩) hS (fun q _ h => h) (fun q h => h) (fun r w47 tS H locs ht hvm hw hB hz1 hk1 hS => ?_)
    have hP : fw_P (dC, dI) cls_ (AA s) w47 H := by rw [← ht]; exact hB
    obtain ⟨rfl, hM9⟩ := hw
    obtain ⟨μ2, hD2, hQ2, ht2, hR2, ho22⟩ := md_step hDJ hR1 ho11 hf11 hM9
    have r36 := hD2.1
    refine lv_istore (lv' := [(6, .int (nI ((b_cl β).length - n0))), (5, .int (nI 0)), (0, .ref b), (1, .ref (AD 27)), (2, .ref (md 36)), (3, .ref ou), (4, .int (nI i))]) hx hb d_L_law_446 hl (by decide) rfl (fun ls hl => ?_)
    refine lv_aload_n hx hb d_L_law_448 rfl (lv_at hl 4 rfl) ?_
    refine va_calli (rn_V (n := 0) (As := []) (rest := []) (C := R_D) (T := F_D) (N := 36) (ci := 5) X hP hS (c_D_thrown B0 w47 md μ2 hj hD2) k_700 k_701 k_702 k_58 k_703 (by decide +kernel) rfl rfl ⟨Nat.le_of_ble_eq_true rfl, Nat.le_of_ble_eq_true rfl⟩ r36 rfl rfl hl.1 rfl (Nat.le_of_ble_eq_true rfl) d_L_law_449 ⟨(show _ ≤ 601024 by omega), (show _ ≤ 7293034 by omega)⟩) hS (fun q _ h => h) (fun q h => h) (fun r w48 tS H locs ht hvm hw hB hz1 hk1 hS => ?_)
    have hP : fw_P (dC, dI) cls_ (AA s) w48 H := by rw [← ht]; exact hB
    obtain ⟨e9, rfl⟩ := hw
    rw [e9] at hP
    rw [ht2]
    refine lv_iload hx hb d_L_law_452 (lv_at hl 1 rfl) ?_
    refine nu_eq (tgt := 459) hx hb (by omega) (by omega) d_L_law_454 (by decide) (fun c1 => ?_) (fun c1 => ?_)
    · refine lv_iload hx hb d_L_law_459 (lv_at hl 1 rfl) ?_
      refine nu_zne (tgt := 476) hx hb (by omega) d_L_law_461 (by decide) (fun c2 => ?_) (fun c2 => ?_)
      · exact absurd c2 (by omega)
      · refine lv_aload_n hx hb d_L_law_464 rfl (lv_at hl 5 rfl) ?_
        refine lv_iconst (v := (nI 0)) hx hb d_L_law_465 (by decide) ?_
        refine fw_lald (tys := tyl dA) hx hb hK hP ho22 1 rfl (j := 0) (by omega) (by decide) d_L_law_466 ?_
        refine lv_iload hx hb d_L_law_467 (lv_at hl 0 rfl) ?_
        refine lv_i2l (v := ((nI ((b_cl β).length - n0))).toInt64) hx hb d_L_law_469 rfl ?_
        refine W.lcmp hx hb d_L_law_470 ?_
        refine lv_if_eq (tgt := 476) hx hb d_L_law_471 (by decide) (fun c3 => ?_) (fun c3 => ?_)
        · refine lv_goto (tgt := 794) hx hb d_L_law_476 (by decide) ?_
          refine W.widen (k := cells + 37) (n := slots + 138) (by omega) (by omega) ?_
          exact kk w47 (bShrink n0 β) H locs ls ⟨Fz1, μ2, vp_updL fo 0 (nI ((b_cl β).length - n0)).toInt64, hR2, hD2, hQ2, hO.shrink, ho22, hf11, hf12⟩ hP hS (lv_sub hl [2, 3, 4, 5, 6] rfl)
        · exact absurd ((lg_cmp_eq _ _).mpr (pk_uLs)) c3
    · exact absurd rfl c1
  · refine lv_aload_n hx hb d_L_law_423 rfl (lv_at hl 1 rfl) ?_
    refine lv_aload_n hx hb d_L_law_424 rfl (lv_at hl 0 rfl) ?_
    refine lv_iload hx hb d_L_law_425 (lv_at hl 4 rfl) ?_
    refine lv_iconst (v := (nI 1)) hx hb d_L_law_427 (by decide) ?_
    refine nu_iadd (r := i + 1) hx hb d_L_law_428 (by omega) ?_
    refine sl_ld (v := (xs (i + 1))) hx hb hX hbl hS (by omega) hL rfl d_L_law_429 ?_
    refine lv_aload_n hx hb d_L_law_430 rfl (lv_at hl 3 rfl) ?_
    refine va_calli (rn_SW (n := 3) (As := [.ref (AD 27), .int (xs (i + 1)), .ref ou]) (rest := []) X hP hS (h_shrinkX B0 X0 hlt w AD Fz β ou fo (xs (i + 1)) hinj hR ho1 dj2 hf2 ho) k_539 k_540 k_53 k_541 (by decide +kernel) rfl rfl ⟨Nat.le_of_ble_eq_true rfl, Nat.le_of_ble_eq_true rfl⟩ rfl hl.1 rfl (Nat.le_of_ble_eq_true rfl) d_L_law_431 ⟨(show cells + 1 ≤ 601024 by omega), (show slots + 6 ≤ 7293034 by omega)⟩) hS (fun q _ h => h) (fun q h => h) (fun r w49 tS H locs ht hvm hw hB hz1 hk1 hS => ?_)
    have hP : fw_P (dC, dI) cls_ (AA s) w49 H := by rw [← ht]; exact hB
    obtain ⟨rfl, hv8⟩ := hw
    have hv9 : VL dA AD ou Fz w w49 β fo := hv8
    obtain ⟨Fz1, hR1, hD1, ho11, hf11, hf12⟩ := cl_step hDJ hD ho1 hf1 hf2 hv9
    have r36 := hD1.1
    refine lv_istore (lv' := [(5, .int (nI 1)), (0, .ref b), (1, .ref (AD 27)), (2, .ref (md 36)), (3, .ref ou), (4, .int (nI i))]) hx hb d_L_law_434 hl (by decide) rfl (fun ls hl => ?_)
    refine lv_aload_n hx hb d_L_law_436 rfl (lv_at hl 3 rfl) ?_
    refine lv_aload_n hx hb d_L_law_437 rfl (lv_at hl 1 rfl) ?_
    refine lv_iload hx hb d_L_law_438 (lv_at hl 5 rfl) ?_
    refine lv_iconst (v := (nI 1)) hx hb d_L_law_440 (by decide) ?_
    refine nu_iadd (r := i + 1) hx hb d_L_law_441 (by omega) ?_
    refine sl_ld (v := (xs (i + 1))) hx hb hX hbl hS (by omega) hL rfl d_L_law_442 ?_
    refine va_calli (rn_V (n := 1) (As := [.int (xs (i + 1))]) (rest := []) (C := R_D) (T := F_D) (N := 36) (ci := 5) X hP hS (c_D_shrinkX B0 w49 md μ β (xs (i + 1)) hj hD1 hQ ho) k_794 k_795 k_796 k_58 k_797 (by decide +kernel) rfl rfl ⟨Nat.le_of_ble_eq_true rfl, Nat.le_of_ble_eq_true rfl⟩ r36 rfl rfl hl.1 rfl (Nat.le_of_ble_eq_true rfl) d_L_law_443 ⟨(show _ ≤ 601024 by omega), (show _ ≤ 7293034 by omega)⟩) hS (fun q _ h => h) (fun q h => h) (fun r w50 tS H locs ht hvm hw hB hz1 hk1 hS => ?_)
    have hP : fw_P (dC, dI) cls_ (AA s) w50 H := by rw [← ht]; exact hB
    have hM9 := hw
    obtain ⟨μ2, hD2, hQ2, ht2, hR2, ho22⟩ := md_step hDJ hR1 ho11 hf11 hM9
    have r36 := hD2.1
    refine lv_istore (lv' := [(6, .int r), (5, .int (nI 1)), (0, .ref b), (1, .ref (AD 27)), (2, .ref (md 36)), (3, .ref ou), (4, .int (nI i))]) hx hb d_L_law_446 hl (by decide) rfl (fun ls hl => ?_)
    refine lv_aload_n hx hb d_L_law_448 rfl (lv_at hl 4 rfl) ?_
    refine va_calli (rn_V (n := 0) (As := []) (rest := []) (C := R_D) (T := F_D) (N := 36) (ci := 5) X hP hS (c_D_thrown B0 w50 md μ2 hj hD2) k_700 k_701 k_702 k_58 k_703 (by decide +kernel) rfl rfl ⟨Nat.le_of_ble_eq_true rfl, Nat.le_of_ble_eq_true rfl⟩ r36 rfl rfl hl.1 rfl (Nat.le_of_ble_eq_true rfl) d_L_law_449 ⟨(show _ ≤ 601024 by omega), (show _ ≤ 7293034 by omega)⟩) hS (fun q _ h => h) (fun q h => h) (fun r w51 tS H locs ht hvm hw hB hz1 hk1 hS => ?_)
    have hP : fw_P (dC, dI) cls_ (AA s) w51 H := by rw [← ht]; exact hB
    obtain ⟨e9, rfl⟩ := hw
    rw [e9] at hP
    rw [ht2]
    refine lv_iload hx hb d_L_law_452 (lv_at hl 1 rfl) ?_
    refine nu_eq (tgt := 459) hx hb (by omega) (by omega) d_L_law_454 (by decide) (fun c1 => ?_) (fun c1 => ?_)
    · refine lv_iload hx hb d_L_law_459 (lv_at hl 1 rfl) ?_
      refine nu_zne (tgt := 476) hx hb (by omega) d_L_law_461 (by decide) (fun c2 => ?_) (fun c2 => ?_)
      · refine lv_goto (tgt := 794) hx hb d_L_law_476 (by decide) ?_
        refine W.widen (k := cells + 37) (n := slots + 138) (by omega) (by omega) ?_
        exact kk w50 β H locs ls ⟨Fz1, μ2, fo, hR2, hD2, hQ2, hO, ho22, hf11, hf12⟩ hP hS (lv_sub hl [2, 3, 4, 5, 6] rfl)
      · exact absurd c2 (by omega)
    · exact absurd rfl c1
set_option maxHeartbeats 4000000 in
set_option maxRecDepth 100000 in
theorem lo_trace {p : Program} {l : Launch} {e : Env} {s : State} {m : MethodId} {below : List Frame} {meth : Method} {c : Code} {dC : Nat → ClassId} {dI : Nat → Nat → Nat} {dA : Nat → ClassId} {b L : Nat} {xs : Nat → Int32} {AD md : Nat → Nat} {ou : Nat} (C : LX p l s m meth c dC dI dA b L xs AD md ou) {cells slots : Nat} (hcl : cells + 37 ≤ 601024) (hsl : slots + 138 ≤ 7293034) {i : Nat} (hi : i + 6 ≤ L) {w : fw_W} {β : BS} {H : Heap} {locs : List Loc} {ls : Array Slot} (S0 : LSt dA AD md ou w β) (hP : fw_P (dC, dI) cls_ (AA s) w H) (hS : va_S (AA s) s.heap H locs) (hl : lv_has ls 8 (LLoc AD md ou b i)) (kk : KK p l e s m below meth c dC dI dA b AD md ou i (cells + 37) (slots + 138)) : W p l e room_1 s m #[Value.ref b] below meth c H locs cells slots (lw_Z below #[Value.ref b] s) (F0 m 479 ls []) := by
  obtain ⟨X, B0, X0, hlt, hX, hbl, hL, hDJ⟩ := C
  have X9 := X
  obtain ⟨hx, hb, hr, hml, hown, hg, hK, hn, hE, hlocks, hA⟩ := X9
  obtain ⟨hinj, hj, dj1, dj2, dj3⟩ := (id hDJ)
  obtain ⟨Fz, μ, fo, hR, hD, hQ, hO, ho1, hf1, hf2⟩ := S0
  have hp := RB.pok hR
  have hl : lv_has ls 8 [(0, .ref b), (1, .ref (AD 27)), (2, .ref (md 36)), (3, .ref ou), (4, .int (nI i))] := hl
  by_cases ho : okW (xs (i + 1)) ∧ okK (xs (i + 2))
  · obtain ⟨⟨wk, hwk, hew⟩, k, hk, hek⟩ := ho
    by_cases hTT : ∃ T, b_tr β (wk * 12 + k) = some T ∧ okI T.2.1.length (xs (i + 3))
    · obtain ⟨T, hT, hi9⟩ := hTT
      refine lv_aload_n hx hb d_L_law_479 rfl (lv_at hl 1 rfl) ?_
      refine lv_aload_n hx hb d_L_law_480 rfl (lv_at hl 0 rfl) ?_
      refine lv_iload hx hb d_L_law_481 (lv_at hl 4 rfl) ?_
      refine lv_iconst (v := (nI 1)) hx hb d_L_law_483 (by decide) ?_
      refine nu_iadd (r := i + 1) hx hb d_L_law_484 (by omega) ?_
      refine sl_ld (v := (nI wk)) hx hb hX hbl hS (by omega) hL hew d_L_law_485 ?_
      refine lv_aload_n hx hb d_L_law_486 rfl (lv_at hl 0 rfl) ?_
      refine lv_iload hx hb d_L_law_487 (lv_at hl 4 rfl) ?_
      refine lv_iconst (v := (nI 2)) hx hb d_L_law_489 (by decide) ?_
      refine nu_iadd (r := i + 2) hx hb d_L_law_490 (by omega) ?_
      refine sl_ld (v := (nI k)) hx hb hX hbl hS (by omega) hL hek d_L_law_491 ?_
      refine lv_aload_n hx hb d_L_law_492 rfl (lv_at hl 0 rfl) ?_
      refine lv_iload hx hb d_L_law_493 (lv_at hl 4 rfl) ?_
      refine lv_iconst (v := (nI 3)) hx hb d_L_law_495 (by decide) ?_
      refine nu_iadd (r := i + 3) hx hb d_L_law_496 (by omega) ?_
      refine sl_ld (v := (xs (i + 3))) hx hb hX hbl hS (by omega) hL rfl d_L_law_497 ?_
      refine lv_aload_n hx hb d_L_law_498 rfl (lv_at hl 3 rfl) ?_
      refine va_calli (rn_SW (n := 5) (As := [.ref (AD 27), .int (nI wk), .int (nI k), .int (xs (i + 3)), .ref ou]) (rest := []) X hP hS (h_trace B0 X0 hlt w AD Fz β ou fo wk k (xs (i + 3)) T hinj hR ho1 dj2 hf2 hwk hk hT hi9) k_547 k_548 k_53 k_549 (by decide +kernel) rfl rfl ⟨Nat.le_of_ble_eq_true rfl, Nat.le_of_ble_eq_true rfl⟩ rfl hl.1 rfl (Nat.le_of_ble_eq_true rfl) d_L_law_499 ⟨(show cells + 0 ≤ 601024 by omega), (show slots + 0 ≤ 7293034 by omega)⟩) hS (fun q _ h => h) (fun q h => h) (fun r w52 tS H locs ht hvm hw hB hz1 hk1 hS => ?_)
      have hP : fw_P (dC, dI) cls_ (AA s) w52 H := by rw [← ht]; exact hB
      obtain ⟨rfl, hv8⟩ := hw
      have hv9 : VL dA AD ou Fz w w52 β (vp_updL fo 0 (trI T (xs (i + 3))).toInt64) := hv8
      obtain ⟨Fz1, hR1, hD1, ho11, hf11, hf12⟩ := cl_step hDJ hD ho1 hf1 hf2 hv9
      have r36 := hD1.1
      refine lv_istore (lv' := [(5, .int (nI 0)), (0, .ref b), (1, .ref (AD 27)), (2, .ref (md 36)), (3, .ref ou), (4, .int (nI i))]) hx hb d_L_law_502 hl (by decide) rfl (fun ls hl => ?_)
      refine lv_aload_n hx hb d_L_law_504 rfl (lv_at hl 3 rfl) ?_
      refine lv_aload_n hx hb d_L_law_505 rfl (lv_at hl 1 rfl) ?_
      refine lv_iload hx hb d_L_law_506 (lv_at hl 5 rfl) ?_
      refine lv_iconst (v := (nI 1)) hx hb d_L_law_508 (by decide) ?_
      refine nu_iadd (r := i + 1) hx hb d_L_law_509 (by omega) ?_
      refine sl_ld (v := (nI wk)) hx hb hX hbl hS (by omega) hL hew d_L_law_510 ?_
      refine lv_aload_n hx hb d_L_law_511 rfl (lv_at hl 1 rfl) ?_
      refine lv_iload hx hb d_L_law_512 (lv_at hl 5 rfl) ?_
      refine lv_iconst (v := (nI 2)) hx hb d_L_law_514 (by decide) ?_
      refine nu_iadd (r := i + 2) hx hb d_L_law_515 (by omega) ?_
      refine sl_ld (v := (nI k)) hx hb hX hbl hS (by omega) hL hek d_L_law_516 ?_
      refine lv_aload_n hx hb d_L_law_517 rfl (lv_at hl 1 rfl) ?_
      refine lv_iload hx hb d_L_law_518 (lv_at hl 5 rfl) ?_
      refine lv_iconst (v := (nI 3)) hx hb d_L_law_520 (by decide) ?_
      refine nu_iadd (r := i + 3) hx hb d_L_law_521 (by omega) ?_
      refine sl_ld (v := (xs (i + 3))) hx hb hX hbl hS (by omega) hL rfl d_L_law_522 ?_
      refine va_calli (rn_V (n := 3) (As := [.int (nI wk), .int (nI k), .int (xs (i + 3))]) (rest := []) (C := R_D) (T := F_D) (N := 36) (ci := 5) X hP hS (c_D_trace B0 w52 md μ β wk k (xs (i + 3)) T hj hD1 hQ hwk hk hT hi9) k_798 k_799 k_800 k_58 k_801 (by decide +kernel) rfl rfl ⟨Nat.le_of_ble_eq_true rfl, Nat.le_of_ble_eq_true rfl⟩ r36 rfl rfl hl.1 rfl (Nat.le_of_ble_eq_true rfl) d_L_law_523 ⟨(show _ ≤ 601024 by omega), (show _ ≤ 7293034 by omega)⟩) hS (fun q _ h => h) (fun q h => h) (fun r w53 tS H locs ht hvm hw hB hz1 hk1 hS => ?_)
      have hP : fw_P (dC, dI) cls_ (AA s) w53 H := by rw [← ht]; exact hB
      obtain ⟨rfl, hM9⟩ := hw
      obtain ⟨μ2, hD2, hQ2, ht2, hR2, ho22⟩ := md_step hDJ hR1 ho11 hf11 hM9
      have r36 := hD2.1
      refine lv_istore (lv' := [(6, .int (trI T (xs (i + 3)))), (5, .int (nI 0)), (0, .ref b), (1, .ref (AD 27)), (2, .ref (md 36)), (3, .ref ou), (4, .int (nI i))]) hx hb d_L_law_526 hl (by decide) rfl (fun ls hl => ?_)
      refine lv_aload_n hx hb d_L_law_528 rfl (lv_at hl 4 rfl) ?_
      refine va_calli (rn_V (n := 0) (As := []) (rest := []) (C := R_D) (T := F_D) (N := 36) (ci := 5) X hP hS (c_D_thrown B0 w53 md μ2 hj hD2) k_700 k_701 k_702 k_58 k_703 (by decide +kernel) rfl rfl ⟨Nat.le_of_ble_eq_true rfl, Nat.le_of_ble_eq_true rfl⟩ r36 rfl rfl hl.1 rfl (Nat.le_of_ble_eq_true rfl) d_L_law_529 ⟨(show _ ≤ 601024 by omega), (show _ ≤ 7293034 by omega)⟩) hS (fun q _ h => h) (fun q h => h) (fun r w54 tS H locs ht hvm hw hB hz1 hk1 hS => ?_)
      have hP : fw_P (dC, dI) cls_ (AA s) w54 H := by rw [← ht]; exact hB
      obtain ⟨e9, rfl⟩ := hw
      rw [e9] at hP
      rw [ht2]
      refine lv_iload hx hb d_L_law_532 (lv_at hl 1 rfl) ?_
      refine nu_eq (tgt := 539) hx hb (by omega) (by omega) d_L_law_534 (by decide) (fun c1 => ?_) (fun c1 => ?_)
      · refine lv_iload hx hb d_L_law_539 (lv_at hl 1 rfl) ?_
        refine nu_zne (tgt := 556) hx hb (by omega) d_L_law_541 (by decide) (fun c2 => ?_) (fun c2 => ?_)
        · exact absurd c2 (by omega)
        · refine lv_aload_n hx hb d_L_law_544 rfl (lv_at hl 5 rfl) ?_
          refine lv_iconst (v := (nI 0)) hx hb d_L_law_545 (by decide) ?_
          refine fw_lald (tys := tyl dA) hx hb hK hP ho22 1 rfl (j := 0) (by omega) (by decide) d_L_law_546 ?_
          refine lv_iload hx hb d_L_law_547 (lv_at hl 0 rfl) ?_
          refine lv_i2l (v := ((trI T (xs (i + 3)))).toInt64) hx hb d_L_law_549 rfl ?_
          refine W.lcmp hx hb d_L_law_550 ?_
          refine lv_if_eq (tgt := 556) hx hb d_L_law_551 (by decide) (fun c3 => ?_) (fun c3 => ?_)
          · refine lv_goto (tgt := 794) hx hb d_L_law_556 (by decide) ?_
            refine W.widen (k := cells + 37) (n := slots + 138) (by omega) (by omega) ?_
            exact kk w53 β H locs ls ⟨Fz1, μ2, vp_updL fo 0 (trI T (xs (i + 3))).toInt64, hR2, hD2, hQ2, hO, ho22, hf11, hf12⟩ hP hS (lv_sub hl [2, 3, 4, 5, 6] rfl)
          · exact absurd ((lg_cmp_eq _ _).mpr (pk_uLs)) c3
      · exact absurd rfl c1
    · have hT9 : ∀ T, b_tr β (wk * 12 + k) = some T → ¬ okI T.2.1.length (xs (i + 3)) := fun T h9 h8 => hTT ⟨T, h9, h8⟩
      refine lv_aload_n hx hb d_L_law_479 rfl (lv_at hl 1 rfl) ?_
      refine lv_aload_n hx hb d_L_law_480 rfl (lv_at hl 0 rfl) ?_
      refine lv_iload hx hb d_L_law_481 (lv_at hl 4 rfl) ?_
      refine lv_iconst (v := (nI 1)) hx hb d_L_law_483 (by decide) ?_
      refine nu_iadd (r := i + 1) hx hb d_L_law_484 (by omega) ?_
      refine sl_ld (v := (nI wk)) hx hb hX hbl hS (by omega) hL hew d_L_law_485 ?_
      refine lv_aload_n hx hb d_L_law_486 rfl (lv_at hl 0 rfl) ?_
      refine lv_iload hx hb d_L_law_487 (lv_at hl 4 rfl) ?_
      refine lv_iconst (v := (nI 2)) hx hb d_L_law_489 (by decide) ?_
      refine nu_iadd (r := i + 2) hx hb d_L_law_490 (by omega) ?_
      refine sl_ld (v := (nI k)) hx hb hX hbl hS (by omega) hL hek d_L_law_491 ?_
      refine lv_aload_n hx hb d_L_law_492 rfl (lv_at hl 0 rfl) ?_
      refine lv_iload hx hb d_L_law_493 (lv_at hl 4 rfl) ?_
      refine lv_iconst (v := (nI 3)) hx hb d_L_law_495 (by decide) ?_
      refine nu_iadd (r := i + 3) hx hb d_L_law_496 (by omega) ?_
      refine sl_ld (v := (xs (i + 3))) hx hb hX hbl hS (by omega) hL rfl d_L_law_497 ?_
      refine lv_aload_n hx hb d_L_law_498 rfl (lv_at hl 3 rfl) ?_
      refine va_calli (rn_SW (n := 5) (As := [.ref (AD 27), .int (nI wk), .int (nI k), .int (xs (i + 3)), .ref ou]) (rest := []) X hP hS (h_traceN B0 X0 hlt w AD Fz β ou fo wk k (xs (i + 3)) hinj hR ho1 dj2 hf2 hwk hk hT9) k_547 k_548 k_53 k_549 (by decide +kernel) rfl rfl ⟨Nat.le_of_ble_eq_true rfl, Nat.le_of_ble_eq_true rfl⟩ rfl hl.1 rfl (Nat.le_of_ble_eq_true rfl) d_L_law_499 ⟨(show cells + 1 ≤ 601024 by omega), (show slots + 6 ≤ 7293034 by omega)⟩) hS (fun q _ h => h) (fun q h => h) (fun r w55 tS H locs ht hvm hw hB hz1 hk1 hS => ?_)
      have hP : fw_P (dC, dI) cls_ (AA s) w55 H := by rw [← ht]; exact hB
      obtain ⟨rfl, hv8⟩ := hw
      have hv9 : VL dA AD ou Fz w w55 β fo := hv8
      obtain ⟨Fz1, hR1, hD1, ho11, hf11, hf12⟩ := cl_step hDJ hD ho1 hf1 hf2 hv9
      have r36 := hD1.1
      refine lv_istore (lv' := [(5, .int (nI 2)), (0, .ref b), (1, .ref (AD 27)), (2, .ref (md 36)), (3, .ref ou), (4, .int (nI i))]) hx hb d_L_law_502 hl (by decide) rfl (fun ls hl => ?_)
      refine lv_aload_n hx hb d_L_law_504 rfl (lv_at hl 3 rfl) ?_
      refine lv_aload_n hx hb d_L_law_505 rfl (lv_at hl 1 rfl) ?_
      refine lv_iload hx hb d_L_law_506 (lv_at hl 5 rfl) ?_
      refine lv_iconst (v := (nI 1)) hx hb d_L_law_508 (by decide) ?_
      refine nu_iadd (r := i + 1) hx hb d_L_law_509 (by omega) ?_
      refine sl_ld (v := (nI wk)) hx hb hX hbl hS (by omega) hL hew d_L_law_510 ?_
      refine lv_aload_n hx hb d_L_law_511 rfl (lv_at hl 1 rfl) ?_
      refine lv_iload hx hb d_L_law_512 (lv_at hl 5 rfl) ?_
      refine lv_iconst (v := (nI 2)) hx hb d_L_law_514 (by decide) ?_
      refine nu_iadd (r := i + 2) hx hb d_L_law_515 (by omega) ?_
      refine sl_ld (v := (nI k)) hx hb hX hbl hS (by omega) hL hek d_L_law_516 ?_
      refine lv_aload_n hx hb d_L_law_517 rfl (lv_at hl 1 rfl) ?_
      refine lv_iload hx hb d_L_law_518 (lv_at hl 5 rfl) ?_
      refine lv_iconst (v := (nI 3)) hx hb d_L_law_520 (by decide) ?_
      refine nu_iadd (r := i + 3) hx hb d_L_law_521 (by omega) ?_
      refine sl_ld (v := (xs (i + 3))) hx hb hX hbl hS (by omega) hL rfl d_L_law_522 ?_
      refine va_calli (rn_V (n := 3) (As := [.int (nI wk), .int (nI k), .int (xs (i + 3))]) (rest := []) (C := R_D) (T := F_D) (N := 36) (ci := 5) X hP hS (c_D_traceN B0 w55 md μ β wk k (xs (i + 3)) hj hD1 hQ hwk hk hT9) k_798 k_799 k_800 k_58 k_801 (by decide +kernel) rfl rfl ⟨Nat.le_of_ble_eq_true rfl, Nat.le_of_ble_eq_true rfl⟩ r36 rfl rfl hl.1 rfl (Nat.le_of_ble_eq_true rfl) d_L_law_523 ⟨(show _ ≤ 601024 by omega), (show _ ≤ 7293034 by omega)⟩) hS (fun q _ h => h) (fun q h => h) (fun r w56 tS H locs ht hvm hw hB hz1 hk1 hS => ?_)
      have hP : fw_P (dC, dI) cls_ (AA s) w56 H := by rw [← ht]; exact hB
      have hM9 := hw
      obtain ⟨μ2, hD2, hQ2, ht2, hR2, ho22⟩ := md_step hDJ hR1 ho11 hf11 hM9
      have r36 := hD2.1
      refine lv_istore (lv' := [(6, .int r), (5, .int (nI 2)), (0, .ref b), (1, .ref (AD 27)), (2, .ref (md 36)), (3, .ref ou), (4, .int (nI i))]) hx hb d_L_law_526 hl (by decide) rfl (fun ls hl => ?_)
      refine lv_aload_n hx hb d_L_law_528 rfl (lv_at hl 4 rfl) ?_
      refine va_calli (rn_V (n := 0) (As := []) (rest := []) (C := R_D) (T := F_D) (N := 36) (ci := 5) X hP hS (c_D_thrown B0 w56 md μ2 hj hD2) k_700 k_701 k_702 k_58 k_703 (by decide +kernel) rfl rfl ⟨Nat.le_of_ble_eq_true rfl, Nat.le_of_ble_eq_true rfl⟩ r36 rfl rfl hl.1 rfl (Nat.le_of_ble_eq_true rfl) d_L_law_529 ⟨(show _ ≤ 601024 by omega), (show _ ≤ 7293034 by omega)⟩) hS (fun q _ h => h) (fun q h => h) (fun r w57 tS H locs ht hvm hw hB hz1 hk1 hS => ?_)
      have hP : fw_P (dC, dI) cls_ (AA s) w57 H := by rw [← ht]; exact hB
      obtain ⟨e9, rfl⟩ := hw
      rw [e9] at hP
      rw [ht2]
      refine lv_iload hx hb d_L_law_532 (lv_at hl 1 rfl) ?_
      refine nu_eq (tgt := 539) hx hb (by omega) (by omega) d_L_law_534 (by decide) (fun c1 => ?_) (fun c1 => ?_)
      · refine lv_iload hx hb d_L_law_539 (lv_at hl 1 rfl) ?_
        refine nu_zne (tgt := 556) hx hb (by omega) d_L_law_541 (by decide) (fun c2 => ?_) (fun c2 => ?_)
        · refine lv_goto (tgt := 794) hx hb d_L_law_556 (by decide) ?_
          refine W.widen (k := cells + 37) (n := slots + 138) (by omega) (by omega) ?_
          exact kk w56 β H locs ls ⟨Fz1, μ2, fo, hR2, hD2, hQ2, hO, ho22, hf11, hf12⟩ hP hS (lv_sub hl [2, 3, 4, 5, 6] rfl)
        · exact absurd c2 (by omega)
      · exact absurd rfl c1
  · refine lv_aload_n hx hb d_L_law_479 rfl (lv_at hl 1 rfl) ?_
    refine lv_aload_n hx hb d_L_law_480 rfl (lv_at hl 0 rfl) ?_
    refine lv_iload hx hb d_L_law_481 (lv_at hl 4 rfl) ?_
    refine lv_iconst (v := (nI 1)) hx hb d_L_law_483 (by decide) ?_
    refine nu_iadd (r := i + 1) hx hb d_L_law_484 (by omega) ?_
    refine sl_ld (v := (xs (i + 1))) hx hb hX hbl hS (by omega) hL rfl d_L_law_485 ?_
    refine lv_aload_n hx hb d_L_law_486 rfl (lv_at hl 0 rfl) ?_
    refine lv_iload hx hb d_L_law_487 (lv_at hl 4 rfl) ?_
    refine lv_iconst (v := (nI 2)) hx hb d_L_law_489 (by decide) ?_
    refine nu_iadd (r := i + 2) hx hb d_L_law_490 (by omega) ?_
    refine sl_ld (v := (xs (i + 2))) hx hb hX hbl hS (by omega) hL rfl d_L_law_491 ?_
    refine lv_aload_n hx hb d_L_law_492 rfl (lv_at hl 0 rfl) ?_
    refine lv_iload hx hb d_L_law_493 (lv_at hl 4 rfl) ?_
    refine lv_iconst (v := (nI 3)) hx hb d_L_law_495 (by decide) ?_
    refine nu_iadd (r := i + 3) hx hb d_L_law_496 (by omega) ?_
    refine sl_ld (v := (xs (i + 3))) hx hb hX hbl hS (by omega) hL rfl d_L_law_497 ?_
    refine lv_aload_n hx hb d_L_law_498 rfl (lv_at hl 3 rfl) ?_
    refine va_calli (rn_SW (n := 5) (As := [.ref (AD 27), .int (xs (i + 1)), .int (xs (i + 2)), .int (xs (i + 3)), .ref ou]) (rest := []) X hP hS (h_traceX B0 X0 hlt w AD Fz β ou fo (xs (i + 1)) (xs (i + 2)) (xs (i + 3)) hinj hR ho1 dj2 hf2 ho) k_547 k_548 k_53 k_549 (by decide +kernel) rfl rfl ⟨Nat.le_of_ble_eq_true rfl, Nat.le_of_ble_eq_true rfl⟩ rfl hl.1 rfl (Nat.le_of_ble_eq_true rfl) d_L_law_499 ⟨(show cells + 1 ≤ 601024 by omega), (show slots + 6 ≤ 7293034 by omega)⟩) hS (fun q _ h => h) (fun q h => h) (fun r w58 tS H locs ht hvm hw hB hz1 hk1 hS => ?_)
    have hP : fw_P (dC, dI) cls_ (AA s) w58 H := by rw [← ht]; exact hB
    obtain ⟨rfl, hv8⟩ := hw
    have hv9 : VL dA AD ou Fz w w58 β fo := hv8
    obtain ⟨Fz1, hR1, hD1, ho11, hf11, hf12⟩ := cl_step hDJ hD ho1 hf1 hf2 hv9
    have r36 := hD1.1
    refine lv_istore (lv' := [(5, .int (nI 1)), (0, .ref b), (1, .ref (AD 27)), (2, .ref (md 36)), (3, .ref ou), (4, .int (nI i))]) hx hb d_L_law_502 hl (by decide) rfl (fun ls hl => ?_)
    refine lv_aload_n hx hb d_L_law_504 rfl (lv_at hl 3 rfl) ?_
    refine lv_aload_n hx hb d_L_law_505 rfl (lv_at hl 1 rfl) ?_
    refine lv_iload hx hb d_L_law_506 (lv_at hl 5 rfl) ?_
    refine lv_iconst (v := (nI 1)) hx hb d_L_law_508 (by decide) ?_
    refine nu_iadd (r := i + 1) hx hb d_L_law_509 (by omega) ?_
    refine sl_ld (v := (xs (i + 1))) hx hb hX hbl hS (by omega) hL rfl d_L_law_510 ?_
    refine lv_aload_n hx hb d_L_law_511 rfl (lv_at hl 1 rfl) ?_
    refine lv_iload hx hb d_L_law_512 (lv_at hl 5 rfl) ?_
    refine lv_iconst (v := (nI 2)) hx hb d_L_law_514 (by decide) ?_
    refine nu_iadd (r := i + 2) hx hb d_L_law_515 (by omega) ?_
    refine sl_ld (v := (xs (i + 2))) hx hb hX hbl hS (by omega) hL rfl d_L_law_516 ?_
    refine lv_aload_n hx hb d_L_law_517 rfl (lv_at hl 1 rfl) ?_
    refine lv_iload hx hb d_L_law_518 (lv_at hl 5 rfl) ?_
    refine lv_iconst (v := (nI 3)) hx hb d_L_law_520 (by decide) ?_
    refine nu_iadd (r := i + 3) hx hb d_L_law_521 (by omega) ?_
    refine sl_ld (v := (xs (i + 3))) hx hb hX hbl hS (by omega) hL rfl d_L_law_522 ?_
    refine va_calli (rn_V (n := 3) (As := [.int (xs (i + 1)), .int (xs (i + 2)), .int (xs (i + 3))]) (rest := []) (C := R_D) (T := F_D) (N := 36) (ci := 5) X hP hS (c_D_traceX B0 w58 md μ β (xs (i + 1)) (xs (i + 2)) (xs (i + 3)) hj hD1 hQ ho) k_798 k_799 k_800 k_58 k_801 (by decide +kernel) rfl rfl ⟨Nat.le_of_ble_eq_true rfl, Nat.le_of_ble_eq_true rfl⟩ r36 rfl rfl hl.1 rfl (Nat.le_of_ble_eq_true rfl) d_L_law_523 ⟨(show _ ≤ 601024 by omega), (show _ ≤ 7293034 by omega)⟩) hS (fun q _ h => h) (fun q h => h) (fun r w59 tS H locs ht hvm hw hB hz1 hk1 hS => ?_)
    have hP : fw_P (dC, dI) cls_ (AA s) w59 H := by rw [← ht]; exact hB
    have hM9 := hw
    obtain ⟨μ2, hD2, hQ2, ht2, hR2, ho22⟩ := md_step hDJ hR1 ho11 hf11 hM9
    have r36 := hD2.1
    refine lv_istore (lv' := [(6, .int r), (5, .int (nI 1)), (0, .ref b), (1, .ref (AD 27)), (2, .ref (md 36)), (3, .ref ou), (4, .int (nI i))]) hx hb d_L_law_526 hl (by decide) rfl (fun ls hl => ?_)
    refine lv_aload_n hx hb d_L_law_528 rfl (lv_at hl 4 rfl) ?_
    refine va_calli (rn_V (n := 0) (As := []) (rest := []) (C := R_D) (T := F_D) (N := 36) (ci := 5) X hP hS (c_D_thrown B0 w59 md μ2 hj hD2) k_700 k_701 k_702 k_58 k_703 (by decide +kernel) rfl rfl ⟨Nat.le_of_ble_eq_true rfl, Nat.le_of_ble_eq_true rfl⟩ r36 rfl rfl hl.1 rfl (Nat.le_of_ble_eq_true rfl) d_L_law_529 ⟨(show _ ≤ 601024 by omega), (show _ ≤ 7293034 by omega)⟩) hS (fun q _ h => h) (fun q h => h) (fun r w60 tS H locs ht hvm hw hB hz1 hk1 hS => ?_)
    have hP : fw_P (dC, dI) cls_ (AA s) w60 H := by rw [← ht]; exact hB
    obtain ⟨e9, rfl⟩ := hw
    rw [e9] at hP
    rw [ht2]
    refine lv_iload hx hb d_L_law_532 (lv_at hl 1 rfl) ?_
    refine nu_eq (tgt := 539) hx hb (by omega) (by omega) d_L_law_534 (by decide) (fun c1 => ?_) (fun c1 => ?_)
    · refine lv_iload hx hb d_L_law_539 (lv_at hl 1 rfl) ?_
      refine nu_zne (tgt := 556) hx hb (by omega) d_L_law_541 (by decide) (fun c2 => ?_) (fun c2 => ?_)
      · refine lv_goto (tgt := 794) hx hb d_L_law_556 (by decide) ?_
        refine W.widen (k := cells + 37) (n := slots + 138) (by omega) (by omega) ?_
        exact kk w59 β H locs ls ⟨Fz1, μ2, fo, hR2, hD2, hQ2, hO, ho22, hf11, hf12⟩ hP hS (lv_sub hl [2, 3, 4, 5, 6] rfl)
      · exact absurd c2 (by omega)
    · exact absurd rfl c1
set_option maxHeartbeats 4000000 in
set_option maxRecDepth 100000 in
theorem lo_traced {p : Program} {l : Launch} {e : Env} {s : State} {m : MethodId} {below : List Frame} {meth : Method} {c : Code} {dC : Nat → ClassId} {dI : Nat → Nat → Nat} {dA : Nat → ClassId} {b L : Nat} {xs : Nat → Int32} {AD md : Nat → Nat} {ou : Nat} (C : LX p l s m meth c dC dI dA b L xs AD md ou) {cells slots : Nat} (hcl : cells + 37 ≤ 601024) (hsl : slots + 138 ≤ 7293034) {i : Nat} (hi : i + 6 ≤ L) {w : fw_W} {β : BS} {H : Heap} {locs : List Loc} {ls : Array Slot} (S0 : LSt dA AD md ou w β) (hP : fw_P (dC, dI) cls_ (AA s) w H) (hS : va_S (AA s) s.heap H locs) (hl : lv_has ls 8 (LLoc AD md ou b i)) (kk : KK p l e s m below meth c dC dI dA b AD md ou i (cells + 37) (slots + 138)) : W p l e room_1 s m #[Value.ref b] below meth c H locs cells slots (lw_Z below #[Value.ref b] s) (F0 m 559 ls []) := by
  obtain ⟨X, B0, X0, hlt, hX, hbl, hL, hDJ⟩ := C
  have X9 := X
  obtain ⟨hx, hb, hr, hml, hown, hg, hK, hn, hE, hlocks, hA⟩ := X9
  obtain ⟨hinj, hj, dj1, dj2, dj3⟩ := (id hDJ)
  obtain ⟨Fz, μ, fo, hR, hD, hQ, hO, ho1, hf1, hf2⟩ := S0
  have hp := RB.pok hR
  have hl : lv_has ls 8 [(0, .ref b), (1, .ref (AD 27)), (2, .ref (md 36)), (3, .ref ou), (4, .int (nI i))] := hl
  by_cases ho : okW (xs (i + 1)) ∧ okK (xs (i + 2))
  · obtain ⟨⟨wk, hwk, hew⟩, k, hk, hek⟩ := ho
    by_cases hTT : ∃ T, b_tr β (wk * 12 + k) = some T ∧ okI T.2.1.length (xs (i + 3))
    · obtain ⟨T, hT, hi9⟩ := hTT
      refine lv_aload_n hx hb d_L_law_559 rfl (lv_at hl 1 rfl) ?_
      refine lv_aload_n hx hb d_L_law_560 rfl (lv_at hl 0 rfl) ?_
      refine lv_iload hx hb d_L_law_561 (lv_at hl 4 rfl) ?_
      refine lv_iconst (v := (nI 1)) hx hb d_L_law_563 (by decide) ?_
      refine nu_iadd (r := i + 1) hx hb d_L_law_564 (by omega) ?_
      refine sl_ld (v := (nI wk)) hx hb hX hbl hS (by omega) hL hew d_L_law_565 ?_
      refine lv_aload_n hx hb d_L_law_566 rfl (lv_at hl 0 rfl) ?_
      refine lv_iload hx hb d_L_law_567 (lv_at hl 4 rfl) ?_
      refine lv_iconst (v := (nI 2)) hx hb d_L_law_569 (by decide) ?_
      refine nu_iadd (r := i + 2) hx hb d_L_law_570 (by omega) ?_
      refine sl_ld (v := (nI k)) hx hb hX hbl hS (by omega) hL hek d_L_law_571 ?_
      refine lv_aload_n hx hb d_L_law_572 rfl (lv_at hl 0 rfl) ?_
      refine lv_iload hx hb d_L_law_573 (lv_at hl 4 rfl) ?_
      refine lv_iconst (v := (nI 3)) hx hb d_L_law_575 (by decide) ?_
      refine nu_iadd (r := i + 3) hx hb d_L_law_576 (by omega) ?_
      refine sl_ld (v := (xs (i + 3))) hx hb hX hbl hS (by omega) hL rfl d_L_law_577 ?_
      refine lv_aload_n hx hb d_L_law_578 rfl (lv_at hl 3 rfl) ?_
      refine va_calli (rn_SW (n := 5) (As := [.ref (AD 27), .int (nI wk), .int (nI k), .int (xs (i + 3)), .ref ou]) (rest := []) X hP hS (h_traced B0 X0 hlt w AD Fz β ou fo wk k (xs (i + 3)) T hinj hR ho1 dj2 hf2 hwk hk hT hi9) k_559 k_560 k_53 k_561 (by decide +kernel) rfl rfl ⟨Nat.le_of_ble_eq_true rfl, Nat.le_of_ble_eq_true rfl⟩ rfl hl.1 rfl (Nat.le_of_ble_eq_true rfl) d_L_law_579 ⟨(show cells + 0 ≤ 601024 by omega), (show slots + 0 ≤ 7293034 by omega)⟩) hS (fun q _ h => h) (fun q h => h) (fun r w61 tS H locs ht hvm hw hB hz1 hk1 hS => ?_)
      have hP : fw_P (dC, dI) cls_ (AA s) w61 H := by rw [← ht]; exact hB
      obtain ⟨rfl, hv8⟩ := hw
      have hv9 : VL dA AD ou Fz w w61 β (vp_updL fo 0 (trL T (xs (i + 3)))) := hv8
      obtain ⟨Fz1, hR1, hD1, ho11, hf11, hf12⟩ := cl_step hDJ hD ho1 hf1 hf2 hv9
      have r36 := hD1.1
      refine lv_istore (lv' := [(5, .int (nI 0)), (0, .ref b), (1, .ref (AD 27)), (2, .ref (md 36)), (3, .ref ou), (4, .int (nI i))]) hx hb d_L_law_582 hl (by decide) rfl (fun ls hl => ?_)
      refine lv_aload_n hx hb d_L_law_584 rfl (lv_at hl 3 rfl) ?_
      refine lv_aload_n hx hb d_L_law_585 rfl (lv_at hl 1 rfl) ?_
      refine lv_iload hx hb d_L_law_586 (lv_at hl 5 rfl) ?_
      refine lv_iconst (v := (nI 1)) hx hb d_L_law_588 (by decide) ?_
      refine nu_iadd (r := i + 1) hx hb d_L_law_589 (by omega) ?_
      refine sl_ld (v := (nI wk)) hx hb hX hbl hS (by omega) hL hew d_L_law_590 ?_
      refine lv_aload_n hx hb d_L_law_591 rfl (lv_at hl 1 rfl) ?_
      refine lv_iload hx hb d_L_law_592 (lv_at hl 5 rfl) ?_
      refine lv_iconst (v := (nI 2)) hx hb d_L_law_594 (by decide) ?_
      refine nu_iadd (r := i + 2) hx hb d_L_law_595 (by omega) ?_
      refine sl_ld (v := (nI k)) hx hb hX hbl hS (by omega) hL hek d_L_law_596 ?_
      refine lv_aload_n hx hb d_L_law_597 rfl (lv_at hl 1 rfl) ?_
      refine lv_iload hx hb d_L_law_598 (lv_at hl 5 rfl) ?_
      refine lv_iconst (v := (nI 3)) hx hb d_L_law_600 (by decide) ?_
      refine nu_iadd (r := i + 3) hx hb d_L_law_601 (by omega) ?_
      refine sl_ld (v := (xs (i + 3))) hx hb hX hbl hS (by omega) hL rfl d_L_law_602 ?_
      refine va_calll (rn_V (n := 3) (As := [.int (nI wk), .int (nI k), .int (xs (i + 3))]) (rest := []) (C := R_D) (T := F_D) (N := 36) (ci := 5) X hP hS (c_D_traced B0 w61 md μ β wk k (xs (i + 3)) T hj hD1 hQ hwk hk hT hi9) k_806 k_807 k_808 k_58 k_809 (by decide +kernel) rfl rfl ⟨Nat.le_of_ble_eq_true rfl, Nat.le_of_ble_eq_true rfl⟩ r36 rfl rfl hl.1 rfl (Nat.le_of_ble_eq_true rfl) d_L_law_603 ⟨(show _ ≤ 601024 by omega), (show _ ≤ 7293034 by omega)⟩) hS (fun q _ h => h) (fun q h => h) (fun r w62 tS H locs ht hvm hw hB hz1 hk1 hS => ?_)
      have hP : fw_P (dC, dI) cls_ (AA s) w62 H := by rw [← ht]; exact hB
      obtain ⟨rfl, hM9⟩ := hw
      obtain ⟨μ2, hD2, hQ2, ht2, hR2, ho22⟩ := md_step hDJ hR1 ho11 hf11 hM9
      have r36 := hD2.1
      refine lv_lstore (lv' := [(6, .long (trL T (xs (i + 3)))), (5, .int (nI 0)), (0, .ref b), (1, .ref (AD 27)), (2, .ref (md 36)), (3, .ref ou), (4, .int (nI i))]) hx hb d_L_law_606 hl (by decide) rfl (fun ls hl => ?_)
      refine lv_aload_n hx hb d_L_law_608 rfl (lv_at hl 4 rfl) ?_
      refine va_calli (rn_V (n := 0) (As := []) (rest := []) (C := R_D) (T := F_D) (N := 36) (ci := 5) X hP hS (c_D_thrown B0 w62 md μ2 hj hD2) k_700 k_701 k_702 k_58 k_703 (by decide +kernel) rfl rfl ⟨Nat.le_of_ble_eq_true rfl, Nat.le_of_ble_eq_true rfl⟩ r36 rfl rfl hl.1 rfl (Nat.le_of_ble_eq_true rfl) d_L_law_609 ⟨(show _ ≤ 601024 by omega), (show _ ≤ 7293034 by omega)⟩) hS (fun q _ h => h) (fun q h => h) (fun r w63 tS H locs ht hvm hw hB hz1 hk1 hS => ?_)
      have hP : fw_P (dC, dI) cls_ (AA s) w63 H := by rw [← ht]; exact hB
      obtain ⟨e9, rfl⟩ := hw
      rw [e9] at hP
      rw [ht2]
      refine lv_iload hx hb d_L_law_612 (lv_at hl 1 rfl) ?_
      refine nu_eq (tgt := 619) hx hb (by omega) (by omega) d_L_law_614 (by decide) (fun c1 => ?_) (fun c1 => ?_)
      · refine lv_iload hx hb d_L_law_619 (lv_at hl 1 rfl) ?_
        refine nu_zne (tgt := 635) hx hb (by omega) d_L_law_621 (by decide) (fun c2 => ?_) (fun c2 => ?_)
        · exact absurd c2 (by omega)
        · refine lv_aload_n hx hb d_L_law_624 rfl (lv_at hl 5 rfl) ?_
          refine lv_iconst (v := (nI 0)) hx hb d_L_law_625 (by decide) ?_
          refine fw_lald (tys := tyl dA) hx hb hK hP ho22 1 rfl (j := 0) (by omega) (by decide) d_L_law_626 ?_
          refine lv_lload hx hb d_L_law_627 (lv_at hl 0 rfl) ?_
          refine W.lcmp hx hb d_L_law_629 ?_
          refine lv_if_eq (tgt := 635) hx hb d_L_law_630 (by decide) (fun c3 => ?_) (fun c3 => ?_)
          · refine lv_goto (tgt := 794) hx hb d_L_law_635 (by decide) ?_
            refine W.widen (k := cells + 37) (n := slots + 138) (by omega) (by omega) ?_
            exact kk w62 β H locs ls ⟨Fz1, μ2, vp_updL fo 0 (trL T (xs (i + 3))), hR2, hD2, hQ2, hO, ho22, hf11, hf12⟩ hP hS (lv_sub hl [2, 3, 4, 5, 6] rfl)
          · exact absurd ((lg_cmp_eq _ _).mpr (pk_uLs)) c3
      · exact absurd rfl c1
    · have hT9 : ∀ T, b_tr β (wk * 12 + k) = some T → ¬ okI T.2.1.length (xs (i + 3)) := fun T h9 h8 => hTT ⟨T, h9, h8⟩
      refine lv_aload_n hx hb d_L_law_559 rfl (lv_at hl 1 rfl) ?_
      refine lv_aload_n hx hb d_L_law_560 rfl (lv_at hl 0 rfl) ?_
      refine lv_iload hx hb d_L_law_561 (lv_at hl 4 rfl) ?_
      refine lv_iconst (v := (nI 1)) hx hb d_L_law_563 (by decide) ?_
      refine nu_iadd (r := i + 1) hx hb d_L_law_564 (by omega) ?_
      refine sl_ld (v := (nI wk)) hx hb hX hbl hS (by omega) hL hew d_L_law_565 ?_
      refine lv_aload_n hx hb d_L_law_566 rfl (lv_at hl 0 rfl) ?_
      refine lv_iload hx hb d_L_law_567 (lv_at hl 4 rfl) ?_
      refine lv_iconst (v := (nI 2)) hx hb d_L_law_569 (by decide) ?_
      refine nu_iadd (r := i + 2) hx hb d_L_law_570 (by omega) ?_
      refine sl_ld (v := (nI k)) hx hb hX hbl hS (by omega) hL hek d_L_law_571 ?_
      refine lv_aload_n hx hb d_L_law_572 rfl (lv_at hl 0 rfl) ?_
      refine lv_iload hx hb d_L_law_573 (lv_at hl 4 rfl) ?_
      refine lv_iconst (v := (nI 3)) hx hb d_L_law_575 (by decide) ?_
      refine nu_iadd (r := i + 3) hx hb d_L_law_576 (by omega) ?_
      refine sl_ld (v := (xs (i + 3))) hx hb hX hbl hS (by omega) hL rfl d_L_law_577 ?_
      refine lv_aload_n hx hb d_L_law_578 rfl (lv_at hl 3 rfl) ?_
      refine va_calli (rn_SW (n := 5) (As := [.ref (AD 27), .int (nI wk), .int (nI k), .int (xs (i + 3)), .ref ou]) (rest := []) X hP hS (h_tracedN B0 X0 hlt w AD Fz β ou fo wk k (xs (i + 3)) hinj hR ho1 dj2 hf2 hwk hk hT9) k_559 k_560 k_53 k_561 (by decide +kernel) rfl rfl ⟨Nat.le_of_ble_eq_true rfl, Nat.le_of_ble_eq_true rfl⟩ rfl hl.1 rfl (Nat.le_of_ble_eq_true rfl) d_L_law_579 ⟨(show cells + 1 ≤ 601024 by omega), (show slots + 6 ≤ 7293034 by omega)⟩) hS (fun q _ h => h) (fun q h => h) (fun r w64 tS H locs ht hvm hw hB hz1 hk1 hS => ?_)
      have hP : fw_P (dC, dI) cls_ (AA s) w64 H := by rw [← ht]; exact hB
      obtain ⟨rfl, hv8⟩ := hw
      have hv9 : VL dA AD ou Fz w w64 β fo := hv8
      obtain ⟨Fz1, hR1, hD1, ho11, hf11, hf12⟩ := cl_step hDJ hD ho1 hf1 hf2 hv9
      have r36 := hD1.1
      refine lv_istore (lv' := [(5, .int (nI 2)), (0, .ref b), (1, .ref (AD 27)), (2, .ref (md 36)), (3, .ref ou), (4, .int (nI i))]) hx hb d_L_law_582 hl (by decide) rfl (fun ls hl => ?_)
      refine lv_aload_n hx hb d_L_law_584 rfl (lv_at hl 3 rfl) ?_
      refine lv_aload_n hx hb d_L_law_585 rfl (lv_at hl 1 rfl) ?_
      refine lv_iload hx hb d_L_law_586 (lv_at hl 5 rfl) ?_
      refine lv_iconst (v := (nI 1)) hx hb d_L_law_588 (by decide) ?_
      refine nu_iadd (r := i + 1) hx hb d_L_law_589 (by omega) ?_
      refine sl_ld (v := (nI wk)) hx hb hX hbl hS (by omega) hL hew d_L_law_590 ?_
      refine lv_aload_n hx hb d_L_law_591 rfl (lv_at hl 1 rfl) ?_
      refine lv_iload hx hb d_L_law_592 (lv_at hl 5 rfl) ?_
      refine lv_iconst (v := (nI 2)) hx hb d_L_law_594 (by decide) ?_
      refine nu_iadd (r := i + 2) hx hb d_L_law_595 (by omega) ?_
      refine sl_ld (v := (nI k)) hx hb hX hbl hS (by omega) hL hek d_L_law_596 ?_
      refine lv_aload_n hx hb d_L_law_597 rfl (lv_at hl 1 rfl) ?_
      refine lv_iload hx hb d_L_law_598 (lv_at hl 5 rfl) ?_
      refine lv_iconst (v := (nI 3)) hx hb d_L_law_600 (by decide) ?_
      refine nu_iadd (r := i + 3) hx hb d_L_law_601 (by omega) ?_
      refine sl_ld (v := (xs (i + 3))) hx hb hX hbl hS (by omega) hL rfl d_L_law_602 ?_
      refine va_calll (rn_V (n := 3) (As := [.int (nI wk), .int (nI k), .int (xs (i + 3))]) (rest := []) (C := R_D) (T := F_D) (N := 36) (ci := 5) X hP hS (c_D_tracedN B0 w64 md μ β wk k (xs (i + 3)) hj hD1 hQ hwk hk hT9) k_806 k_807 k_808 k_58 k_809 (by decide +kernel) rfl rfl ⟨Nat.le_of_ble_eq_true rfl, Nat.le_of_ble_eq_true rfl⟩ r36 rfl rfl hl.1 rfl (Nat.le_of_ble_eq_true rfl) d_L_law_603 ⟨(show _ ≤ 601024 by omega), (show _ ≤ 7293034 by omega)⟩) hS (fun q _ h => h) (fun q h => h) (fun r w65 tS H locs ht hvm hw hB hz1 hk1 hS => ?_)
      have hP : fw_P (dC, dI) cls_ (AA s) w65 H := by rw [← ht]; exact hB
      have hM9 := hw
      obtain ⟨μ2, hD2, hQ2, ht2, hR2, ho22⟩ := md_step hDJ hR1 ho11 hf11 hM9
      have r36 := hD2.1
      refine lv_lstore (lv' := [(6, .long r), (5, .int (nI 2)), (0, .ref b), (1, .ref (AD 27)), (2, .ref (md 36)), (3, .ref ou), (4, .int (nI i))]) hx hb d_L_law_606 hl (by decide) rfl (fun ls hl => ?_)
      refine lv_aload_n hx hb d_L_law_608 rfl (lv_at hl 4 rfl) ?_
      refine va_calli (rn_V (n := 0) (As := []) (rest := []) (C := R_D) (T := F_D) (N := 36) (ci := 5) X hP hS (c_D_thrown B0 w65 md μ2 hj hD2) k_700 k_701 k_702 k_58 k_703 (by decide +kernel) rfl rfl ⟨Nat.le_of_ble_eq_true rfl, Nat.le_of_ble_eq_true rfl⟩ r36 rfl rfl hl.1 rfl (Nat.le_of_ble_eq_true rfl) d_L_law_609 ⟨(show _ ≤ 601024 by omega), (show _ ≤ 7293034 by omega)⟩) hS (fun q _ h => h) (fun q h => h) (fun r w66 tS H locs ht hvm hw hB hz1 hk1 hS => ?_)
      have hP : fw_P (dC, dI) cls_ (AA s) w66 H := by rw [← ht]; exact hB
      obtain ⟨e9, rfl⟩ := hw
      rw [e9] at hP
      rw [ht2]
      refine lv_iload hx hb d_L_law_612 (lv_at hl 1 rfl) ?_
      refine nu_eq (tgt := 619) hx hb (by omega) (by omega) d_L_law_614 (by decide) (fun c1 => ?_) (fun c1 => ?_)
      · refine lv_iload hx hb d_L_law_619 (lv_at hl 1 rfl) ?_
        refine nu_zne (tgt := 635) hx hb (by omega) d_L_law_621 (by decide) (fun c2 => ?_) (fun c2 => ?_)
        · refine lv_goto (tgt := 794) hx hb d_L_law_635 (by decide) ?_
          refine W.widen (k := cells + 37) (n := slots + 138) (by omega) (by omega) ?_
          exact kk w65 β H locs ls ⟨Fz1, μ2, fo, hR2, hD2, hQ2, hO, ho22, hf11, hf12⟩ hP hS (lv_sub hl [2, 3, 4, 5, 6] rfl)
        · exact absurd c2 (by omega)
      · exact absurd rfl c1
  · refine lv_aload_n hx hb d_L_law_559 rfl (lv_at hl 1 rfl) ?_
    refine lv_aload_n hx hb d_L_law_560 rfl (lv_at hl 0 rfl) ?_
    refine lv_iload hx hb d_L_law_561 (lv_at hl 4 rfl) ?_
    refine lv_iconst (v := (nI 1)) hx hb d_L_law_563 (by decide) ?_
    refine nu_iadd (r := i + 1) hx hb d_L_law_564 (by omega) ?_
    refine sl_ld (v := (xs (i + 1))) hx hb hX hbl hS (by omega) hL rfl d_L_law_565 ?_
    refine lv_aload_n hx hb d_L_law_566 rfl (lv_at hl 0 rfl) ?_
    refine lv_iload hx hb d_L_law_567 (lv_at hl 4 rfl) ?_
    refine lv_iconst (v := (nI 2)) hx hb d_L_law_569 (by decide) ?_
    refine nu_iadd (r := i + 2) hx hb d_L_law_570 (by omega) ?_
    refine sl_ld (v := (xs (i + 2))) hx hb hX hbl hS (by omega) hL rfl d_L_law_571 ?_
    refine lv_aload_n hx hb d_L_law_572 rfl (lv_at hl 0 rfl) ?_
    refine lv_iload hx hb d_L_law_573 (lv_at hl 4 rfl) ?_
    refine lv_iconst (v := (nI 3)) hx hb d_L_law_575 (by decide) ?_
    refine nu_iadd (r := i + 3) hx hb d_L_law_576 (by omega) ?_
    refine sl_ld (v := (xs (i + 3))) hx hb hX hbl hS (by omega) hL rfl d_L_law_577 ?_
    refine lv_aload_n hx hb d_L_law_578 rfl (lv_at hl 3 rfl) ?_
    refine va_calli (rn_SW (n := 5) (As := [.ref (AD 27), .int (xs (i + 1)), .int (xs (i + 2)), .int (xs (i + 3)), .ref ou]) (rest := []) X hP hS (h_tracedX B0 X0 hlt w AD Fz β ou fo (xs (i + 1)) (xs (i + 2)) (xs (i + 3)) hinj hR ho1 dj2 hf2 ho) k_559 k_560 k_53 k_561 (by decide +kernel) rfl rfl ⟨Nat.le_of_ble_eq_true rfl, Nat.le_of_ble_eq_true rfl⟩ rfl hl.1 rfl (Nat.le_of_ble_eq_true rfl) d_L_law_579 ⟨(show cells + 1 ≤ 601024 by omega), (show slots + 6 ≤ 7293034 by omega)⟩) hS (fun q _ h => h) (fun q h => h) (fun r w67 tS H locs ht hvm hw hB hz1 hk1 hS => ?_)
    have hP : fw_P (dC, dI) cls_ (AA s) w67 H := by rw [← ht]; exact hB
    obtain ⟨rfl, hv8⟩ := hw
    have hv9 : VL dA AD ou Fz w w67 β fo := hv8
    obtain ⟨Fz1, hR1, hD1, ho11, hf11, hf12⟩ := cl_step hDJ hD ho1 hf1 hf2 hv9
    have r36 := hD1.1
    refine lv_istore (lv' := [(5, .int (nI 1)), (0, .ref b), (1, .ref (AD 27)), (2, .ref (md 36)), (3, .ref ou), (4, .int (nI i))]) hx hb d_L_law_582 hl (by decide) rfl (fun ls hl => ?_)
    refine lv_aload_n hx hb d_L_law_584 rfl (lv_at hl 3 rfl) ?_
    refine lv_aload_n hx hb d_L_law_585 rfl (lv_at hl 1 rfl) ?_
    refine lv_iload hx hb d_L_law_586 (lv_at hl 5 rfl) ?_
    refine lv_iconst (v := (nI 1)) hx hb d_L_law_588 (by decide) ?_
    refine nu_iadd (r := i + 1) hx hb d_L_law_589 (by omega) ?_
    refine sl_ld (v := (xs (i + 1))) hx hb hX hbl hS (by omega) hL rfl d_L_law_590 ?_
    refine lv_aload_n hx hb d_L_law_591 rfl (lv_at hl 1 rfl) ?_
    refine lv_iload hx hb d_L_law_592 (lv_at hl 5 rfl) ?_
    refine lv_iconst (v := (nI 2)) hx hb d_L_law_594 (by decide) ?_
    refine nu_iadd (r := i + 2) hx hb d_L_law_595 (by omega) ?_
    refine sl_ld (v := (xs (i + 2))) hx hb hX hbl hS (by omega) hL rfl d_L_law_596 ?_
    refine lv_aload_n hx hb d_L_law_597 rfl (lv_at hl 1 rfl) ?_
    refine lv_iload hx hb d_L_law_598 (lv_at hl 5 rfl) ?_
    refine lv_iconst (v := (nI 3)) hx hb d_L_law_600 (by decide) ?_
    refine nu_iadd (r := i + 3) hx hb d_L_law_601 (by omega) ?_
    refine sl_ld (v := (xs (i + 3))) hx hb hX hbl hS (by omega) hL rfl d_L_law_602 ?_
    refine va_calll (rn_V (n := 3) (As := [.int (xs (i + 1)), .int (xs (i + 2)), .int (xs (i + 3))]) (rest := []) (C := R_D) (T := F_D) (N := 36) (ci := 5) X hP hS (c_D_tracedX B0 w67 md μ β (xs (i + 1)) (xs (i + 2)) (xs (i + 3)) hj hD1 hQ ho) k_806 k_807 k_808 k_58 k_809 (by decide +kernel) rfl rfl ⟨Nat.le_of_ble_eq_true rfl, Nat.le_of_ble_eq_true rfl⟩ r36 rfl rfl hl.1 rfl (Nat.le_of_ble_eq_true rfl) d_L_law_603 ⟨(show _ ≤ 601024 by omega), (show _ ≤ 7293034 by omega)⟩) hS (fun q _ h => h) (fun q h => h) (fun r w68 tS H locs ht hvm hw hB hz1 hk1 hS => ?_)
    have hP : fw_P (dC, dI) cls_ (AA s) w68 H := by rw [← ht]; exact hB
    have hM9 := hw
    obtain ⟨μ2, hD2, hQ2, ht2, hR2, ho22⟩ := md_step hDJ hR1 ho11 hf11 hM9
    have r36 := hD2.1
    refine lv_lstore (lv' := [(6, .long r), (5, .int (nI 1)), (0, .ref b), (1, .ref (AD 27)), (2, .ref (md 36)), (3, .ref ou), (4, .int (nI i))]) hx hb d_L_law_606 hl (by decide) rfl (fun ls hl => ?_)
    refine lv_aload_n hx hb d_L_law_608 rfl (lv_at hl 4 rfl) ?_
    refine va_calli (rn_V (n := 0) (As := []) (rest := []) (C := R_D) (T := F_D) (N := 36) (ci := 5) X hP hS (c_D_thrown B0 w68 md μ2 hj hD2) k_700 k_701 k_702 k_58 k_703 (by decide +kernel) rfl rfl ⟨Nat.le_of_ble_eq_true rfl, Nat.le_of_ble_eq_true rfl⟩ r36 rfl rfl hl.1 rfl (Nat.le_of_ble_eq_true rfl) d_L_law_609 ⟨(show _ ≤ 601024 by omega), (show _ ≤ 7293034 by omega)⟩) hS (fun q _ h => h) (fun q h => h) (fun r w69 tS H locs ht hvm hw hB hz1 hk1 hS => ?_)
    have hP : fw_P (dC, dI) cls_ (AA s) w69 H := by rw [← ht]; exact hB
    obtain ⟨e9, rfl⟩ := hw
    rw [e9] at hP
    rw [ht2]
    refine lv_iload hx hb d_L_law_612 (lv_at hl 1 rfl) ?_
    refine nu_eq (tgt := 619) hx hb (by omega) (by omega) d_L_law_614 (by decide) (fun c1 => ?_) (fun c1 => ?_)
    · refine lv_iload hx hb d_L_law_619 (lv_at hl 1 rfl) ?_
      refine nu_zne (tgt := 635) hx hb (by omega) d_L_law_621 (by decide) (fun c2 => ?_) (fun c2 => ?_)
      · refine lv_goto (tgt := 794) hx hb d_L_law_635 (by decide) ?_
        refine W.widen (k := cells + 37) (n := slots + 138) (by omega) (by omega) ?_
        exact kk w68 β H locs ls ⟨Fz1, μ2, fo, hR2, hD2, hQ2, hO, ho22, hf11, hf12⟩ hP hS (lv_sub hl [2, 3, 4, 5, 6] rfl)
      · exact absurd c2 (by omega)
    · exact absurd rfl c1
set_option maxHeartbeats 4000000 in
set_option maxRecDepth 100000 in
theorem lo_cached {p : Program} {l : Launch} {e : Env} {s : State} {m : MethodId} {below : List Frame} {meth : Method} {c : Code} {dC : Nat → ClassId} {dI : Nat → Nat → Nat} {dA : Nat → ClassId} {b L : Nat} {xs : Nat → Int32} {AD md : Nat → Nat} {ou : Nat} (C : LX p l s m meth c dC dI dA b L xs AD md ou) {cells slots : Nat} (hcl : cells + 37 ≤ 601024) (hsl : slots + 138 ≤ 7293034) {i : Nat} (hi : i + 6 ≤ L) {w : fw_W} {β : BS} {H : Heap} {locs : List Loc} {ls : Array Slot} (S0 : LSt dA AD md ou w β) (hP : fw_P (dC, dI) cls_ (AA s) w H) (hS : va_S (AA s) s.heap H locs) (hl : lv_has ls 8 (LLoc AD md ou b i)) (kk : KK p l e s m below meth c dC dI dA b AD md ou i (cells + 37) (slots + 138)) : W p l e room_1 s m #[Value.ref b] below meth c H locs cells slots (lw_Z below #[Value.ref b] s) (F0 m 713 ls []) := by
  obtain ⟨X, B0, X0, hlt, hX, hbl, hL, hDJ⟩ := C
  have X9 := X
  obtain ⟨hx, hb, hr, hml, hown, hg, hK, hn, hE, hlocks, hA⟩ := X9
  obtain ⟨hinj, hj, dj1, dj2, dj3⟩ := (id hDJ)
  obtain ⟨Fz, μ, fo, hR, hD, hQ, hO, ho1, hf1, hf2⟩ := S0
  have hp := RB.pok hR
  have hl : lv_has ls 8 [(0, .ref b), (1, .ref (AD 27)), (2, .ref (md 36)), (3, .ref ou), (4, .int (nI i))] := hl
  by_cases ho : ∃ j, j < (b_cl β).length ∧ (xs (i + 1)) = nI j
  · obtain ⟨j, hjl, hew⟩ := ho
    obtain ⟨T, hT⟩ : ∃ T, (b_cl β)[j]? = some T := ⟨_, List.getElem?_eq_getElem hjl⟩
    refine lv_aload_n hx hb d_L_law_713 rfl (lv_at hl 1 rfl) ?_
    refine lv_aload_n hx hb d_L_law_714 rfl (lv_at hl 0 rfl) ?_
    refine lv_iload hx hb d_L_law_715 (lv_at hl 4 rfl) ?_
    refine lv_iconst (v := (nI 1)) hx hb d_L_law_717 (by decide) ?_
    refine nu_iadd (r := i + 1) hx hb d_L_law_718 (by omega) ?_
    refine sl_ld (v := (nI j)) hx hb hX hbl hS (by omega) hL hew d_L_law_719 ?_
    refine lv_aload_n hx hb d_L_law_720 rfl (lv_at hl 3 rfl) ?_
    refine va_calli (rn_SW (n := 3) (As := [.ref (AD 27), .int (nI j), .ref ou]) (rest := []) X hP hS (h_cached B0 X0 hlt w AD Fz β ou fo j T hinj hR ho1 dj2 hf2 hT) k_577 k_578 k_53 k_579 (by decide +kernel) rfl rfl ⟨Nat.le_of_ble_eq_true rfl, Nat.le_of_ble_eq_true rfl⟩ rfl hl.1 rfl (Nat.le_of_ble_eq_true rfl) d_L_law_721 ⟨(show cells + 0 ≤ 601024 by omega), (show slots + 0 ≤ 7293034 by omega)⟩) hS (fun q _ h => h) (fun q h => h) (fun r w70 tS H locs ht hvm hw hB hz1 hk1 hS => ?_)
    have hP : fw_P (dC, dI) cls_ (AA s) w70 H := by rw [← ht]; exact hB
    obtain ⟨rfl, hv8⟩ := hw
    have hv9 : VL dA AD ou Fz w w70 β (vp_updL fo 0 (nI T.1).toInt64) := hv8
    obtain ⟨Fz1, hR1, hD1, ho11, hf11, hf12⟩ := cl_step hDJ hD ho1 hf1 hf2 hv9
    have r36 := hD1.1
    refine lv_istore (lv' := [(5, .int (nI 0)), (0, .ref b), (1, .ref (AD 27)), (2, .ref (md 36)), (3, .ref ou), (4, .int (nI i))]) hx hb d_L_law_724 hl (by decide) rfl (fun ls hl => ?_)
    refine lv_aload_n hx hb d_L_law_726 rfl (lv_at hl 3 rfl) ?_
    refine lv_aload_n hx hb d_L_law_727 rfl (lv_at hl 1 rfl) ?_
    refine lv_iload hx hb d_L_law_728 (lv_at hl 5 rfl) ?_
    refine lv_iconst (v := (nI 1)) hx hb d_L_law_730 (by decide) ?_
    refine nu_iadd (r := i + 1) hx hb d_L_law_731 (by omega) ?_
    refine sl_ld (v := (nI j)) hx hb hX hbl hS (by omega) hL hew d_L_law_732 ?_
    refine va_calli (rn_V (n := 1) (As := [.int (nI j)]) (rest := []) (C := R_D) (T := F_D) (N := 36) (ci := 5) X hP hS (c_D_cached B0 w70 md μ β j T hj hD1 hQ hT) k_810 k_811 k_812 k_58 k_813 (by decide +kernel) rfl rfl ⟨Nat.le_of_ble_eq_true rfl, Nat.le_of_ble_eq_true rfl⟩ r36 rfl rfl hl.1 rfl (Nat.le_of_ble_eq_true rfl) d_L_law_733 ⟨(show _ ≤ 601024 by omega), (show _ ≤ 7293034 by omega)⟩) hS (fun q _ h => h) (fun q h => h) (fun r w71 tS H locs ht hvm hw hB hz1 hk1 hS => ?_)
    have hP : fw_P (dC, dI) cls_ (AA s) w71 H := by rw [← ht]; exact hB
    obtain ⟨rfl, hM9⟩ := hw
    obtain ⟨μ2, hD2, hQ2, ht2, hR2, ho22⟩ := md_step hDJ hR1 ho11 hf11 hM9
    have r36 := hD2.1
    refine lv_istore (lv' := [(6, .int (nI T.1)), (5, .int (nI 0)), (0, .ref b), (1, .ref (AD 27)), (2, .ref (md 36)), (3, .ref ou), (4, .int (nI i))]) hx hb d_L_law_736 hl (by decide) rfl (fun ls hl => ?_)
    refine lv_aload_n hx hb d_L_law_738 rfl (lv_at hl 4 rfl) ?_
    refine va_calli (rn_V (n := 0) (As := []) (rest := []) (C := R_D) (T := F_D) (N := 36) (ci := 5) X hP hS (c_D_thrown B0 w71 md μ2 hj hD2) k_700 k_701 k_702 k_58 k_703 (by decide +kernel) rfl rfl ⟨Nat.le_of_ble_eq_true rfl, Nat.le_of_ble_eq_true rfl⟩ r36 rfl rfl hl.1 rfl (Nat.le_of_ble_eq_true rfl) d_L_law_739 ⟨(show _ ≤ 601024 by omega), (show _ ≤ 7293034 by omega)⟩) hS (fun q _ h => h) (fun q h => h) (fun r w72 tS H locs ht hvm hw hB hz1 hk1 hS => ?_)
    have hP : fw_P (dC, dI) cls_ (AA s) w72 H := by rw [← ht]; exact hB
    obtain ⟨e9, rfl⟩ := hw
    rw [e9] at hP
    rw [ht2]
    refine lv_iload hx hb d_L_law_742 (lv_at hl 1 rfl) ?_
    refine nu_eq (tgt := 749) hx hb (by omega) (by omega) d_L_law_744 (by decide) (fun c1 => ?_) (fun c1 => ?_)
    · refine lv_iload hx hb d_L_law_749 (lv_at hl 1 rfl) ?_
      refine nu_zne (tgt := 766) hx hb (by omega) d_L_law_751 (by decide) (fun c2 => ?_) (fun c2 => ?_)
      · exact absurd c2 (by omega)
      · refine lv_aload_n hx hb d_L_law_754 rfl (lv_at hl 5 rfl) ?_
        refine lv_iconst (v := (nI 0)) hx hb d_L_law_755 (by decide) ?_
        refine fw_lald (tys := tyl dA) hx hb hK hP ho22 1 rfl (j := 0) (by omega) (by decide) d_L_law_756 ?_
        refine lv_iload hx hb d_L_law_757 (lv_at hl 0 rfl) ?_
        refine lv_i2l (v := ((nI T.1)).toInt64) hx hb d_L_law_759 rfl ?_
        refine W.lcmp hx hb d_L_law_760 ?_
        refine lv_if_eq (tgt := 766) hx hb d_L_law_761 (by decide) (fun c3 => ?_) (fun c3 => ?_)
        · refine lv_goto (tgt := 794) hx hb d_L_law_766 (by decide) ?_
          refine W.widen (k := cells + 37) (n := slots + 138) (by omega) (by omega) ?_
          exact kk w71 β H locs ls ⟨Fz1, μ2, vp_updL fo 0 (nI T.1).toInt64, hR2, hD2, hQ2, hO, ho22, hf11, hf12⟩ hP hS (lv_sub hl [2, 3, 4, 5, 6] rfl)
        · exact absurd ((lg_cmp_eq _ _).mpr (pk_uLs)) c3
    · exact absurd rfl c1
  · refine lv_aload_n hx hb d_L_law_713 rfl (lv_at hl 1 rfl) ?_
    refine lv_aload_n hx hb d_L_law_714 rfl (lv_at hl 0 rfl) ?_
    refine lv_iload hx hb d_L_law_715 (lv_at hl 4 rfl) ?_
    refine lv_iconst (v := (nI 1)) hx hb d_L_law_717 (by decide) ?_
    refine nu_iadd (r := i + 1) hx hb d_L_law_718 (by omega) ?_
    refine sl_ld (v := (xs (i + 1))) hx hb hX hbl hS (by omega) hL rfl d_L_law_719 ?_
    refine lv_aload_n hx hb d_L_law_720 rfl (lv_at hl 3 rfl) ?_
    refine va_calli (rn_SW (n := 3) (As := [.ref (AD 27), .int (xs (i + 1)), .ref ou]) (rest := []) X hP hS (h_cachedX B0 X0 hlt w AD Fz β ou fo (xs (i + 1)) hinj hR ho1 dj2 hf2 ho) k_577 k_578 k_53 k_579 (by decide +kernel) rfl rfl ⟨Nat.le_of_ble_eq_true rfl, Nat.le_of_ble_eq_true rfl⟩ rfl hl.1 rfl (Nat.le_of_ble_eq_true rfl) d_L_law_721 ⟨(show cells + 1 ≤ 601024 by omega), (show slots + 6 ≤ 7293034 by omega)⟩) hS (fun q _ h => h) (fun q h => h) (fun r w73 tS H locs ht hvm hw hB hz1 hk1 hS => ?_)
    have hP : fw_P (dC, dI) cls_ (AA s) w73 H := by rw [← ht]; exact hB
    obtain ⟨rfl, hv8⟩ := hw
    have hv9 : VL dA AD ou Fz w w73 β fo := hv8
    obtain ⟨Fz1, hR1, hD1, ho11, hf11, hf12⟩ := cl_step hDJ hD ho1 hf1 hf2 hv9
    have r36 := hD1.1
    refine lv_istore (lv' := [(5, .int (nI 1)), (0, .ref b), (1, .ref (AD 27)), (2, .ref (md 36)), (3, .ref ou), (4, .int (nI i))]) hx hb d_L_law_724 hl (by decide) rfl (fun ls hl => ?_)
    refine lv_aload_n hx hb d_L_law_726 rfl (lv_at hl 3 rfl) ?_
    refine lv_aload_n hx hb d_L_law_727 rfl (lv_at hl 1 rfl) ?_
    refine lv_iload hx hb d_L_law_728 (lv_at hl 5 rfl) ?_
    refine lv_iconst (v := (nI 1)) hx hb d_L_law_730 (by decide) ?_
    refine nu_iadd (r := i + 1) hx hb d_L_law_731 (by omega) ?_
    refine sl_ld (v := (xs (i + 1))) hx hb hX hbl hS (by omega) hL rfl d_L_law_732 ?_
    refine va_calli (rn_V (n := 1) (As := [.int (xs (i + 1))]) (rest := []) (C := R_D) (T := F_D) (N := 36) (ci := 5) X hP hS (c_D_cachedX B0 w73 md μ β (xs (i + 1)) hj hD1 hQ ho) k_810 k_811 k_812 k_58 k_813 (by decide +kernel) rfl rfl ⟨Nat.le_of_ble_eq_true rfl, Nat.le_of_ble_eq_true rfl⟩ r36 rfl rfl hl.1 rfl (Nat.le_of_ble_eq_true rfl) d_L_law_733 ⟨(show _ ≤ 601024 by omega), (show _ ≤ 7293034 by omega)⟩) hS (fun q _ h => h) (fun q h => h) (fun r w74 tS H locs ht hvm hw hB hz1 hk1 hS => ?_)
    have hP : fw_P (dC, dI) cls_ (AA s) w74 H := by rw [← ht]; exact hB
    have hM9 := hw
    obtain ⟨μ2, hD2, hQ2, ht2, hR2, ho22⟩ := md_step hDJ hR1 ho11 hf11 hM9
    have r36 := hD2.1
    refine lv_istore (lv' := [(6, .int r), (5, .int (nI 1)), (0, .ref b), (1, .ref (AD 27)), (2, .ref (md 36)), (3, .ref ou), (4, .int (nI i))]) hx hb d_L_law_736 hl (by decide) rfl (fun ls hl => ?_)
    refine lv_aload_n hx hb d_L_law_738 rfl (lv_at hl 4 rfl) ?_
    refine va_calli (rn_V (n := 0) (As := []) (rest := []) (C := R_D) (T := F_D) (N := 36) (ci := 5) X hP hS (c_D_thrown B0 w74 md μ2 hj hD2) k_700 k_701 k_702 k_58 k_703 (by decide +kernel) rfl rfl ⟨Nat.le_of_ble_eq_true rfl, Nat.le_of_ble_eq_true rfl⟩ r36 rfl rfl hl.1 rfl (Nat.le_of_ble_eq_true rfl) d_L_law_739 ⟨(show _ ≤ 601024 by omega), (show _ ≤ 7293034 by omega)⟩) hS (fun q _ h => h) (fun q h => h) (fun r w75 tS H locs ht hvm hw hB hz1 hk1 hS => ?_)
    have hP : fw_P (dC, dI) cls_ (AA s) w75 H := by rw [← ht]; exact hB
    obtain ⟨e9, rfl⟩ := hw
    rw [e9] at hP
    rw [ht2]
    refine lv_iload hx hb d_L_law_742 (lv_at hl 1 rfl) ?_
    refine nu_eq (tgt := 749) hx hb (by omega) (by omega) d_L_law_744 (by decide) (fun c1 => ?_) (fun c1 => ?_)
    · refine lv_iload hx hb d_L_law_749 (lv_at hl 1 rfl) ?_
      refine nu_zne (tgt := 766) hx hb (by omega) d_L_law_751 (by decide) (fun c2 => ?_) (fun c2 => ?_)
      · refine lv_goto (tgt := 794) hx hb d_L_law_766 (by decide) ?_
        refine W.widen (k := cells + 37) (n := slots + 138) (by omega) (by omega) ?_
        exact kk w74 β H locs ls ⟨Fz1, μ2, fo, hR2, hD2, hQ2, hO, ho22, hf11, hf12⟩ hP hS (lv_sub hl [2, 3, 4, 5, 6] rfl)
      · exact absurd c2 (by omega)
    · exact absurd rfl c1
set_option maxHeartbeats 4000000 in
set_option maxRecDepth 100000 in
theorem lo_count {p : Program} {l : Launch} {e : Env} {s : State} {m : MethodId} {below : List Frame} {meth : Method} {c : Code} {dC : Nat → ClassId} {dI : Nat → Nat → Nat} {dA : Nat → ClassId} {b L : Nat} {xs : Nat → Int32} {AD md : Nat → Nat} {ou : Nat} (C : LX p l s m meth c dC dI dA b L xs AD md ou) {cells slots : Nat} (hcl : cells + 37 ≤ 601024) (hsl : slots + 138 ≤ 7293034) {i : Nat} (hi : i + 6 ≤ L) {w : fw_W} {β : BS} {H : Heap} {locs : List Loc} {ls : Array Slot} (S0 : LSt dA AD md ou w β) (hP : fw_P (dC, dI) cls_ (AA s) w H) (hS : va_S (AA s) s.heap H locs) (hl : lv_has ls 8 (LLoc AD md ou b i)) (kk : KK p l e s m below meth c dC dI dA b AD md ou i (cells + 37) (slots + 138)) : W p l e room_1 s m #[Value.ref b] below meth c H locs cells slots (lw_Z below #[Value.ref b] s) (F0 m 769 ls []) := by
  obtain ⟨X, B0, X0, hlt, hX, hbl, hL, hDJ⟩ := C
  have X9 := X
  obtain ⟨hx, hb, hr, hml, hown, hg, hK, hn, hE, hlocks, hA⟩ := X9
  obtain ⟨hinj, hj, dj1, dj2, dj3⟩ := (id hDJ)
  obtain ⟨Fz, μ, fo, hR, hD, hQ, hO, ho1, hf1, hf2⟩ := S0
  have hp := RB.pok hR
  have hl : lv_has ls 8 [(0, .ref b), (1, .ref (AD 27)), (2, .ref (md 36)), (3, .ref ou), (4, .int (nI i))] := hl
  by_cases ho : ∃ j, j < 11 ∧ (xs (i + 1)) = nI j
  · obtain ⟨j, hj9, hew⟩ := ho
    have f27 := hR.1
    refine lv_aload_n hx hb d_L_law_769 rfl (lv_at hl 1 rfl) ?_
    refine lv_aload_n hx hb d_L_law_770 rfl (lv_at hl 0 rfl) ?_
    refine lv_iload hx hb d_L_law_771 (lv_at hl 4 rfl) ?_
    refine lv_iconst (v := (nI 1)) hx hb d_L_law_773 (by decide) ?_
    refine nu_iadd (r := i + 1) hx hb d_L_law_774 (by omega) ?_
    refine sl_ld (v := (nI j)) hx hb hX hbl hS (by omega) hL hew d_L_law_775 ?_
    refine va_calli (rn_V (n := 1) (As := [.int (nI j)]) (rest := []) (C := R_B) (T := F_B) (N := 4) (ci := 4) X hP hS (c_B_count B0 w AD Fz β j hinj hR hj9) k_183 k_184 k_185 k_54 k_186 (by decide +kernel) rfl rfl ⟨Nat.le_of_ble_eq_true rfl, Nat.le_of_ble_eq_true rfl⟩ f27 rfl rfl hl.1 rfl (Nat.le_of_ble_eq_true rfl) d_L_law_776 ⟨(show _ ≤ 601024 by omega), (show _ ≤ 7293034 by omega)⟩) hS (fun q _ h => h) (fun q h => h) (fun r w76 tS H locs ht hvm hw hB hz1 hk1 hS => ?_)
    have hP : fw_P (dC, dI) cls_ (AA s) w76 H := by rw [← ht]; exact hB
    obtain ⟨e9, rfl⟩ := hw
    rw [e9] at hP
    have r36 := hD.1
    refine lv_aload_n hx hb d_L_law_779 rfl (lv_at hl 2 rfl) ?_
    refine lv_aload_n hx hb d_L_law_780 rfl (lv_at hl 0 rfl) ?_
    refine lv_iload hx hb d_L_law_781 (lv_at hl 4 rfl) ?_
    refine lv_iconst (v := (nI 1)) hx hb d_L_law_783 (by decide) ?_
    refine nu_iadd (r := i + 1) hx hb d_L_law_784 (by omega) ?_
    refine sl_ld (v := (nI j)) hx hb hX hbl hS (by omega) hL hew d_L_law_785 ?_
    refine va_calli (rn_V (n := 1) (As := [.int (nI j)]) (rest := [.int (bCount j β)]) (C := R_D) (T := F_D) (N := 36) (ci := 5) X hP hS (c_D_count B0 w md μ β j hj hD hQ hj9) k_814 k_815 k_816 k_58 k_817 (by decide +kernel) rfl rfl ⟨Nat.le_of_ble_eq_true rfl, Nat.le_of_ble_eq_true rfl⟩ r36 rfl rfl hl.1 rfl (Nat.le_of_ble_eq_true rfl) d_L_law_786 ⟨(show _ ≤ 601024 by omega), (show _ ≤ 7293034 by omega)⟩) hS (fun q _ h => h) (fun q h => h) (fun r w77 tS H locs ht hvm hw hB hz1 hk1 hS => ?_)
    have hP : fw_P (dC, dI) cls_ (AA s) w77 H := by rw [← ht]; exact hB
    obtain ⟨rfl, hM9⟩ := hw
    obtain ⟨μ2, hD2, hQ2, ht2, hR2, ho22⟩ := md_step hDJ hR ho1 hf1 hM9
    refine lv_icmp_eq (tgt := 794) hx hb d_L_law_789 (by decide) (fun c1 => ?_) (fun c1 => ?_)
    · refine W.widen (k := cells + 37) (n := slots + 138) (by omega) (by omega) ?_
      exact kk w77 β H locs ls ⟨Fz, μ2, fo, hR2, hD2, hQ2, hO, ho22, hf1, hf2⟩ hP hS (lv_sub hl [0, 1, 2, 3, 4] rfl)
    · exact absurd rfl c1
  · have f27 := hR.1
    refine lv_aload_n hx hb d_L_law_769 rfl (lv_at hl 1 rfl) ?_
    refine lv_aload_n hx hb d_L_law_770 rfl (lv_at hl 0 rfl) ?_
    refine lv_iload hx hb d_L_law_771 (lv_at hl 4 rfl) ?_
    refine lv_iconst (v := (nI 1)) hx hb d_L_law_773 (by decide) ?_
    refine nu_iadd (r := i + 1) hx hb d_L_law_774 (by omega) ?_
    refine sl_ld (v := (xs (i + 1))) hx hb hX hbl hS (by omega) hL rfl d_L_law_775 ?_
    refine va_calli (rn_V (n := 1) (As := [.int (xs (i + 1))]) (rest := []) (C := R_B) (T := F_B) (N := 4) (ci := 4) X hP hS (c_B_countNo B0 w (AD 27) (xs (i + 1)) ho) k_183 k_184 k_185 k_54 k_186 (by decide +kernel) rfl rfl ⟨Nat.le_of_ble_eq_true rfl, Nat.le_of_ble_eq_true rfl⟩ f27 rfl rfl hl.1 rfl (Nat.le_of_ble_eq_true rfl) d_L_law_776 ⟨(show _ ≤ 601024 by omega), (show _ ≤ 7293034 by omega)⟩) hS (fun q _ h => h) (fun q h => h) (fun r w78 tS H locs ht hvm hw hB hz1 hk1 hS => ?_)
    have hP : fw_P (dC, dI) cls_ (AA s) w78 H := by rw [← ht]; exact hB
    obtain ⟨e9, rfl⟩ := hw
    rw [e9] at hP
    have r36 := hD.1
    refine lv_aload_n hx hb d_L_law_779 rfl (lv_at hl 2 rfl) ?_
    refine lv_aload_n hx hb d_L_law_780 rfl (lv_at hl 0 rfl) ?_
    refine lv_iload hx hb d_L_law_781 (lv_at hl 4 rfl) ?_
    refine lv_iconst (v := (nI 1)) hx hb d_L_law_783 (by decide) ?_
    refine nu_iadd (r := i + 1) hx hb d_L_law_784 (by omega) ?_
    refine sl_ld (v := (xs (i + 1))) hx hb hX hbl hS (by omega) hL rfl d_L_law_785 ?_
    refine va_calli (rn_V (n := 1) (As := [.int (xs (i + 1))]) (rest := [.int (-1)]) (C := R_D) (T := F_D) (N := 36) (ci := 5) X hP hS (c_D_countNo B0 w md μ β (xs (i + 1)) hj hD hQ ho) k_814 k_815 k_816 k_58 k_817 (by decide +kernel) rfl rfl ⟨Nat.le_of_ble_eq_true rfl, Nat.le_of_ble_eq_true rfl⟩ r36 rfl rfl hl.1 rfl (Nat.le_of_ble_eq_true rfl) d_L_law_786 ⟨(show _ ≤ 601024 by omega), (show _ ≤ 7293034 by omega)⟩) hS (fun q _ h => h) (fun q h => h) (fun r w79 tS H locs ht hvm hw hB hz1 hk1 hS => ?_)
    have hP : fw_P (dC, dI) cls_ (AA s) w79 H := by rw [← ht]; exact hB
    obtain ⟨rfl, hM9⟩ := hw
    obtain ⟨μ2, hD2, hQ2, ht2, hR2, ho22⟩ := md_step hDJ hR ho1 hf1 hM9
    refine lv_icmp_eq (tgt := 794) hx hb d_L_law_789 (by decide) (fun c1 => ?_) (fun c1 => ?_)
    · refine W.widen (k := cells + 37) (n := slots + 138) (by omega) (by omega) ?_
      exact kk w79 β H locs ls ⟨Fz, μ2, fo, hR2, hD2, hQ2, hO, ho22, hf1, hf2⟩ hP hS (lv_sub hl [0, 1, 2, 3, 4] rfl)
    · exact absurd rfl c1
