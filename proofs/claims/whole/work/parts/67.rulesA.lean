set_option maxHeartbeats 4000000 in
set_option maxRecDepth 100000 in
theorem c_S_quotient {l : Launch} {s0 : State} {dC : Nat → ClassId} {dI : Nat → Nat → Nat} {dA : Nat → ClassId} (B0 : BB s0 dC dI dA) (w : fw_W) (ad : Nat → Nat) (Fz : Nat → Prop) (P : PD) (wk : Nat) (rows : Nat → Option Nat) (h kt vt k : Nat) (x : XS)  (n0 : Nat) (IH : VO l s0 dC dI dA ad P wk n0) (hfr0 : fr12 x.2 ≤ n0) (hinj : Inj ad) (hU : RU dA ad P wk h kt vt k Fz rows w x) (hk : k < 12) (hpo : p_ok P) (hkd : p_kd P k = 2) (hrl : p_rl P k = 3) : Met l y_S_quotient [.code y_S_quotient b_S_quotient 6 (some .long)] ({ frames := 7 * n0 + 7, cells := 3 * (dm x.2 (if (askV (sv P wk (n0 + 1)) (p_pt P k 1) (askV (sv P wk (n0 + 1)) (p_pt P k 0) x).2).1 = 0 then failV 2 (askV (sv P wk (n0 + 1)) (p_pt P k 1) (askV (sv P wk (n0 + 1)) (p_pt P k 0) x).2).2 else ((askV (sv P wk (n0 + 1)) (p_pt P k 0) x).1 / (askV (sv P wk (n0 + 1)) (p_pt P k 1) (askV (sv P wk (n0 + 1)) (p_pt P k 0) x).2).1, (askV (sv P wk (n0 + 1)) (p_pt P k 1) (askV (sv P wk (n0 + 1)) (p_pt P k 0) x).2).2)).2.2), slots := 11 * (dm x.2 (if (askV (sv P wk (n0 + 1)) (p_pt P k 1) (askV (sv P wk (n0 + 1)) (p_pt P k 0) x).2).1 = 0 then failV 2 (askV (sv P wk (n0 + 1)) (p_pt P k 1) (askV (sv P wk (n0 + 1)) (p_pt P k 0) x).2).2 else ((askV (sv P wk (n0 + 1)) (p_pt P k 0) x).1 / (askV (sv P wk (n0 + 1)) (p_pt P k 1) (askV (sv P wk (n0 + 1)) (p_pt P k 0) x).2).1, (askV (sv P wk (n0 + 1)) (p_pt P k 1) (askV (sv P wk (n0 + 1)) (p_pt P k 0) x).2).2)).2.2), locals := 210 * n0 + 150 }) (mP s0 dC dI w [.ref (ad 0), .ref h]) (mQl s0 dC dI (fun r w' => r = (if (askV (sv P wk (n0 + 1)) (p_pt P k 1) (askV (sv P wk (n0 + 1)) (p_pt P k 0) x).2).1 = 0 then failV 2 (askV (sv P wk (n0 + 1)) (p_pt P k 1) (askV (sv P wk (n0 + 1)) (p_pt P k 0) x).2).2 else ((askV (sv P wk (n0 + 1)) (p_pt P k 0) x).1 / (askV (sv P wk (n0 + 1)) (p_pt P k 1) (askV (sv P wk (n0 + 1)) (p_pt P k 0) x).2).1, (askV (sv P wk (n0 + 1)) (p_pt P k 1) (askV (sv P wk (n0 + 1)) (p_pt P k 0) x).2).2)).1 ∧ ∃ (Fz' : Nat → Prop) (rows' : Nat → Option Nat), VX dA ad P wk h kt vt k Fz rows w x Fz' rows' w' (if (askV (sv P wk (n0 + 1)) (p_pt P k 1) (askV (sv P wk (n0 + 1)) (p_pt P k 0) x).2).1 = 0 then failV 2 (askV (sv P wk (n0 + 1)) (p_pt P k 1) (askV (sv P wk (n0 + 1)) (p_pt P k 0) x).2).2 else ((askV (sv P wk (n0 + 1)) (p_pt P k 0) x).1 / (askV (sv P wk (n0 + 1)) (p_pt P k 1) (askV (sv P wk (n0 + 1)) (p_pt P k 0) x).2).1, (askV (sv P wk (n0 + 1)) (p_pt P k 1) (askV (sv P wk (n0 + 1)) (p_pt P k 0) x).2).2)).2)) (3 * (dm x.2 (if (askV (sv P wk (n0 + 1)) (p_pt P k 1) (askV (sv P wk (n0 + 1)) (p_pt P k 0) x).2).1 = 0 then failV 2 (askV (sv P wk (n0 + 1)) (p_pt P k 1) (askV (sv P wk (n0 + 1)) (p_pt P k 0) x).2).2 else ((askV (sv P wk (n0 + 1)) (p_pt P k 0) x).1 / (askV (sv P wk (n0 + 1)) (p_pt P k 1) (askV (sv P wk (n0 + 1)) (p_pt P k 0) x).2).1, (askV (sv P wk (n0 + 1)) (p_pt P k 1) (askV (sv P wk (n0 + 1)) (p_pt P k 0) x).2).2)).2.2)) (11 * (dm x.2 (if (askV (sv P wk (n0 + 1)) (p_pt P k 1) (askV (sv P wk (n0 + 1)) (p_pt P k 0) x).2).1 = 0 then failV 2 (askV (sv P wk (n0 + 1)) (p_pt P k 1) (askV (sv P wk (n0 + 1)) (p_pt P k 0) x).2).2 else ((askV (sv P wk (n0 + 1)) (p_pt P k 0) x).1 / (askV (sv P wk (n0 + 1)) (p_pt P k 1) (askV (sv P wk (n0 + 1)) (p_pt P k 0) x).2).1, (askV (sv P wk (n0 + 1)) (p_pt P k 1) (askV (sv P wk (n0 + 1)) (p_pt P k 0) x).2).2)).2.2)) (AA s0) := by
  have hpk := (hpo k hk).2 hkd
  have hc3 := hpk.2.1
  have hcn : 2 ≤ p_cn P k := by have h9 := hpk.2.2.1; rw [hrl] at h9; exact h9
  have hK1 := Kp_ask (Kp_sv P wk (n0 + 1)) (p_pt P k 0) x
  have hK2 := Kp_ask (Kp_sv P wk (n0 + 1)) (p_pt P k 1) (askV (sv P wk (n0 + 1)) (p_pt P k 0) x).2
  have cA := fun hi => c_S_askPart B0 w ad Fz P wk rows h kt vt k x 0 n0 IH hfr0 hinj hU hk hpo hkd hi
  generalize hA : askV (sv P wk (n0 + 1)) (p_pt P k 0) x = A9 at hK1 hK2 cA ⊢
  generalize hBq : askV (sv P wk (n0 + 1)) (p_pt P k 1) A9.2 = B9 at hK2 ⊢
  have hm1 := hK1.2.2.1
  have hm2 := hK2.2.2.1
  have hfrA := Nat.le_trans hK1.fr hfr0
  refine mt_ofW B0 (by decide) (Nat.le_of_ble_eq_true rfl) (fun p e s m args below meth c ls hargs X hin hl hP => ?_)
  have X9 := X
  obtain ⟨hx, hb, hr, hml, hown, hg, hK, hn, hE, hlocks, hA⟩ := X9
  have hS : va_S (AA s0) s.heap s.heap [] := va_S.rf
  have hl : lv_has ls 6 [(0, .ref (ad 0)), (1, .ref h)] := hl
  obtain ⟨⟨g0, g1, g2, ⟨vf, g3, hvf⟩, g4⟩, hM4, hP6, hnF, hfl⟩ := (id hU.1)
  have hmF : s_md (sFail 2 B9.2.2) = s_md B9.2.2 := rfl
  rcases Classical.em (B9.1 = 0) with hz | hz
  · rw [if_pos hz]
    refine lv_aload_n hx hb d_S_quotient_0 rfl (lv_at hl 0 rfl) ?_
    refine lv_aload_n hx hb d_S_quotient_1 rfl (lv_at hl 1 rfl) ?_
    refine lv_iconst (v := (nI 0)) hx hb d_S_quotient_2 (by decide) ?_
    refine va_calll (rn_V (n := 2) (As := [.ref h, .int (nI 0)]) (rest := []) (C := R_S) (T := F_S) (N := 9) (ci := 2) X hP hS (cA (by omega)) k_436 k_438 k_23 k_57 k_439 (by decide +kernel) rfl rfl ⟨by dsimp only; omega, by dsimp only; omega⟩ g0 rfl rfl hl.1 rfl (Nat.le_of_ble_eq_true rfl) d_S_quotient_3 ⟨by dsimp only [dm, failV]; omega, by dsimp only [dm, failV]; omega⟩) hS (fun q _ h => h) (fun q h => h) (fun r w22 tS H locs ht hvm hw hB hz1 hk1 hS => ?_)
    have hP : fw_P (dC, dI) cls_ (AA s0) w22 H := by rw [← ht]; exact hB
    obtain ⟨rfl, Fz1, rows1, hX1⟩ := hw
    refine lv_lstore_n (lv' := [(2, .long A9.1), (0, .ref (ad 0)), (1, .ref h)]) hx hb d_S_quotient_6 rfl hl (by decide) rfl (fun ls hl => ?_)
    refine lv_aload_n hx hb d_S_quotient_7 rfl (lv_at hl 1 rfl) ?_
    refine lv_aload_n hx hb d_S_quotient_8 rfl (lv_at hl 2 rfl) ?_
    refine lv_iconst (v := (nI 1)) hx hb d_S_quotient_9 (by decide) ?_
    obtain ⟨⟨g0, -⟩, -⟩ := id hX1.1.1
    have cB := c_S_askPart B0 w22 ad Fz1 P wk rows1 h kt vt k A9.2 1 n0 IH hfrA hinj hX1.1 hk hpo hkd (by omega)
    rw [hBq] at cB
    refine va_calll (rn_V (n := 2) (As := [.ref h, .int (nI 1)]) (rest := []) (C := R_S) (T := F_S) (N := 9) (ci := 2) X hP hS (cB) k_436 k_438 k_23 k_57 k_439 (by decide +kernel) rfl rfl ⟨by dsimp only; omega, by dsimp only; omega⟩ g0 rfl rfl hl.1 rfl (Nat.le_of_ble_eq_true rfl) d_S_quotient_10 ⟨by dsimp only [dm, failV]; omega, by dsimp only [dm, failV]; omega⟩) hS (fun q _ h => h) (fun q h => h) (fun r w23 tS H locs ht hvm hw hB hz1 hk1 hS => ?_)
    have hP : fw_P (dC, dI) cls_ (AA s0) w23 H := by rw [← ht]; exact hB
    obtain ⟨rfl, Fz2, rows2, hX2⟩ := hw
    have hX3 := VX.tr hX1 hX2 hK1.1
    obtain ⟨⟨g0, -⟩, -⟩ := id hX3.1.1
    refine lv_lstore (lv' := [(4, .long B9.1), (2, .long A9.1), (0, .ref (ad 0)), (1, .ref h)]) hx hb d_S_quotient_13 hl (by decide) rfl (fun ls hl => ?_)
    refine lv_lload hx hb d_S_quotient_15 (lv_at hl 0 rfl) ?_
    refine lv_lconst (v := 0) hx hb d_S_quotient_17 (by decide) ?_
    refine W.lcmp hx hb d_S_quotient_18 ?_
    refine lv_if_ne (tgt := 30) hx hb d_S_quotient_19 (by decide) (fun c1 => ?_) (fun c1 => ?_)
    · exact absurd ((lg_cmp_eq _ _).mpr hz) c1
    · refine lv_aload_n hx hb d_S_quotient_22 rfl (lv_at hl 2 rfl) ?_
      refine lv_iconst (v := (nI 2)) hx hb d_S_quotient_23 (by decide) ?_
      refine va_calll (rn_V (n := 1) (As := [.int (nI 2)]) (rest := []) (C := R_S) (T := F_S) (N := 9) (ci := 2) X hP hS (c_S_fail B0 w23 ad Fz2 P wk rows2 B9.2.2 2 hinj hX3.1.1 (by decide)) k_360 k_362 k_12 k_57 k_363 (by decide +kernel) rfl rfl ⟨by dsimp only; omega, by dsimp only; omega⟩ g0 rfl rfl hl.1 rfl (Nat.le_of_ble_eq_true rfl) d_S_quotient_24 ⟨by dsimp only [dm, failV]; omega, by dsimp only [dm, failV]; omega⟩) hS (fun q _ h => h) (fun q h => h) (fun r w24 tS H locs ht hvm hw hB hz1 hk1 hS => ?_)
      have hP : fw_P (dC, dI) cls_ (AA s0) w24 H := by rw [← ht]; exact hB
      obtain ⟨rfl, hRf, hof⟩ := hw
      have hX4 := VX.tr hX3 (hX3.1.step (VQ.of (σ := B9.2.2) hRf hof)) (fun j hj => (hK1.tr hK2).1 j hj)
      refine lv_goto (tgt := 34) hx hb d_S_quotient_27 (by decide) ?_
      refine W.widen (k := 3 * dm x.2 (failV 2 B9.2).2.2) (n := 11 * dm x.2 (failV 2 B9.2).2.2) (by dsimp only [dm, failV]; omega) (by dsimp only [dm, failV]; omega) ?_
      exact W.lret (v := 0) hx hb hr (fun tS ht hW => ⟨⟨0, w24, rfl, ⟨rfl, Fz2, rows2, hX4⟩, mB_of ht hP⟩, hS.F ht⟩) hS.2.2 d_S_quotient_34
  · rw [if_neg hz]
    refine lv_aload_n hx hb d_S_quotient_0 rfl (lv_at hl 0 rfl) ?_
    refine lv_aload_n hx hb d_S_quotient_1 rfl (lv_at hl 1 rfl) ?_
    refine lv_iconst (v := (nI 0)) hx hb d_S_quotient_2 (by decide) ?_
    refine va_calll (rn_V (n := 2) (As := [.ref h, .int (nI 0)]) (rest := []) (C := R_S) (T := F_S) (N := 9) (ci := 2) X hP hS (cA (by omega)) k_436 k_438 k_23 k_57 k_439 (by decide +kernel) rfl rfl ⟨by dsimp only; omega, by dsimp only; omega⟩ g0 rfl rfl hl.1 rfl (Nat.le_of_ble_eq_true rfl) d_S_quotient_3 ⟨by dsimp only [dm]; omega, by dsimp only [dm]; omega⟩) hS (fun q _ h => h) (fun q h => h) (fun r w25 tS H locs ht hvm hw hB hz1 hk1 hS => ?_)
    have hP : fw_P (dC, dI) cls_ (AA s0) w25 H := by rw [← ht]; exact hB
    obtain ⟨rfl, Fz1, rows1, hX1⟩ := hw
    refine lv_lstore_n (lv' := [(2, .long A9.1), (0, .ref (ad 0)), (1, .ref h)]) hx hb d_S_quotient_6 rfl hl (by decide) rfl (fun ls hl => ?_)
    refine lv_aload_n hx hb d_S_quotient_7 rfl (lv_at hl 1 rfl) ?_
    refine lv_aload_n hx hb d_S_quotient_8 rfl (lv_at hl 2 rfl) ?_
    refine lv_iconst (v := (nI 1)) hx hb d_S_quotient_9 (by decide) ?_
    obtain ⟨⟨g0, -⟩, -⟩ := id hX1.1.1
    have cB := c_S_askPart B0 w25 ad Fz1 P wk rows1 h kt vt k A9.2 1 n0 IH hfrA hinj hX1.1 hk hpo hkd (by omega)
    rw [hBq] at cB
    refine va_calll (rn_V (n := 2) (As := [.ref h, .int (nI 1)]) (rest := []) (C := R_S) (T := F_S) (N := 9) (ci := 2) X hP hS (cB) k_436 k_438 k_23 k_57 k_439 (by decide +kernel) rfl rfl ⟨by dsimp only; omega, by dsimp only; omega⟩ g0 rfl rfl hl.1 rfl (Nat.le_of_ble_eq_true rfl) d_S_quotient_10 ⟨by dsimp only [dm]; omega, by dsimp only [dm]; omega⟩) hS (fun q _ h => h) (fun q h => h) (fun r w26 tS H locs ht hvm hw hB hz1 hk1 hS => ?_)
    have hP : fw_P (dC, dI) cls_ (AA s0) w26 H := by rw [← ht]; exact hB
    obtain ⟨rfl, Fz2, rows2, hX2⟩ := hw
    have hX3 := VX.tr hX1 hX2 hK1.1
    obtain ⟨⟨g0, -⟩, -⟩ := id hX3.1.1
    refine lv_lstore (lv' := [(4, .long B9.1), (2, .long A9.1), (0, .ref (ad 0)), (1, .ref h)]) hx hb d_S_quotient_13 hl (by decide) rfl (fun ls hl => ?_)
    refine lv_lload hx hb d_S_quotient_15 (lv_at hl 0 rfl) ?_
    refine lv_lconst (v := 0) hx hb d_S_quotient_17 (by decide) ?_
    refine W.lcmp hx hb d_S_quotient_18 ?_
    refine lv_if_ne (tgt := 30) hx hb d_S_quotient_19 (by decide) (fun c1 => ?_) (fun c1 => ?_)
    · refine lv_lload_n hx hb d_S_quotient_30 rfl (lv_at hl 1 rfl) ?_
      refine lv_lload hx hb d_S_quotient_31 (lv_at hl 0 rfl) ?_
      refine lv_ldiv hx hb d_S_quotient_33 hz ?_
      refine W.widen (k := 3 * dm x.2 B9.2.2) (n := 11 * dm x.2 B9.2.2) (by unfold dm; omega) (by unfold dm; omega) ?_
      exact W.lret (v := A9.1 / B9.1) hx hb hr (fun tS ht hW => ⟨⟨A9.1 / B9.1, w26, rfl, ⟨rfl, Fz2, rows2, hX3⟩, mB_of ht hP⟩, hS.F ht⟩) hS.2.2 d_S_quotient_34
    · exact absurd ((lg_cmp_eq _ _).mp c1) hz
set_option maxHeartbeats 4000000 in
set_option maxRecDepth 100000 in
theorem c_S_rest {l : Launch} {s0 : State} {dC : Nat → ClassId} {dI : Nat → Nat → Nat} {dA : Nat → ClassId} (B0 : BB s0 dC dI dA) (w : fw_W) (ad : Nat → Nat) (Fz : Nat → Prop) (P : PD) (wk : Nat) (rows : Nat → Option Nat) (h kt vt k : Nat) (x : XS)  (n0 : Nat) (IH : VO l s0 dC dI dA ad P wk n0) (hfr0 : fr12 x.2 ≤ n0) (hinj : Inj ad) (hU : RU dA ad P wk h kt vt k Fz rows w x) (hk : k < 12) (hpo : p_ok P) (hkd : p_kd P k = 2) (hrl : p_rl P k = 5) : Met l y_S_rest [.code y_S_rest b_S_rest 6 (some .long)] ({ frames := 7 * n0 + 7, cells := 3 * (dm x.2 (if (askV (sv P wk (n0 + 1)) (p_pt P k 1) (askV (sv P wk (n0 + 1)) (p_pt P k 0) x).2).1 = 0 then failV 2 (askV (sv P wk (n0 + 1)) (p_pt P k 1) (askV (sv P wk (n0 + 1)) (p_pt P k 0) x).2).2 else ((askV (sv P wk (n0 + 1)) (p_pt P k 0) x).1 - (askV (sv P wk (n0 + 1)) (p_pt P k 0) x).1 / (askV (sv P wk (n0 + 1)) (p_pt P k 1) (askV (sv P wk (n0 + 1)) (p_pt P k 0) x).2).1 * (askV (sv P wk (n0 + 1)) (p_pt P k 1) (askV (sv P wk (n0 + 1)) (p_pt P k 0) x).2).1, (askV (sv P wk (n0 + 1)) (p_pt P k 1) (askV (sv P wk (n0 + 1)) (p_pt P k 0) x).2).2)).2.2), slots := 11 * (dm x.2 (if (askV (sv P wk (n0 + 1)) (p_pt P k 1) (askV (sv P wk (n0 + 1)) (p_pt P k 0) x).2).1 = 0 then failV 2 (askV (sv P wk (n0 + 1)) (p_pt P k 1) (askV (sv P wk (n0 + 1)) (p_pt P k 0) x).2).2 else ((askV (sv P wk (n0 + 1)) (p_pt P k 0) x).1 - (askV (sv P wk (n0 + 1)) (p_pt P k 0) x).1 / (askV (sv P wk (n0 + 1)) (p_pt P k 1) (askV (sv P wk (n0 + 1)) (p_pt P k 0) x).2).1 * (askV (sv P wk (n0 + 1)) (p_pt P k 1) (askV (sv P wk (n0 + 1)) (p_pt P k 0) x).2).1, (askV (sv P wk (n0 + 1)) (p_pt P k 1) (askV (sv P wk (n0 + 1)) (p_pt P k 0) x).2).2)).2.2), locals := 210 * n0 + 150 }) (mP s0 dC dI w [.ref (ad 0), .ref h]) (mQl s0 dC dI (fun r w' => r = (if (askV (sv P wk (n0 + 1)) (p_pt P k 1) (askV (sv P wk (n0 + 1)) (p_pt P k 0) x).2).1 = 0 then failV 2 (askV (sv P wk (n0 + 1)) (p_pt P k 1) (askV (sv P wk (n0 + 1)) (p_pt P k 0) x).2).2 else ((askV (sv P wk (n0 + 1)) (p_pt P k 0) x).1 - (askV (sv P wk (n0 + 1)) (p_pt P k 0) x).1 / (askV (sv P wk (n0 + 1)) (p_pt P k 1) (askV (sv P wk (n0 + 1)) (p_pt P k 0) x).2).1 * (askV (sv P wk (n0 + 1)) (p_pt P k 1) (askV (sv P wk (n0 + 1)) (p_pt P k 0) x).2).1, (askV (sv P wk (n0 + 1)) (p_pt P k 1) (askV (sv P wk (n0 + 1)) (p_pt P k 0) x).2).2)).1 ∧ ∃ (Fz' : Nat → Prop) (rows' : Nat → Option Nat), VX dA ad P wk h kt vt k Fz rows w x Fz' rows' w' (if (askV (sv P wk (n0 + 1)) (p_pt P k 1) (askV (sv P wk (n0 + 1)) (p_pt P k 0) x).2).1 = 0 then failV 2 (askV (sv P wk (n0 + 1)) (p_pt P k 1) (askV (sv P wk (n0 + 1)) (p_pt P k 0) x).2).2 else ((askV (sv P wk (n0 + 1)) (p_pt P k 0) x).1 - (askV (sv P wk (n0 + 1)) (p_pt P k 0) x).1 / (askV (sv P wk (n0 + 1)) (p_pt P k 1) (askV (sv P wk (n0 + 1)) (p_pt P k 0) x).2).1 * (askV (sv P wk (n0 + 1)) (p_pt P k 1) (askV (sv P wk (n0 + 1)) (p_pt P k 0) x).2).1, (askV (sv P wk (n0 + 1)) (p_pt P k 1) (askV (sv P wk (n0 + 1)) (p_pt P k 0) x).2).2)).2)) (3 * (dm x.2 (if (askV (sv P wk (n0 + 1)) (p_pt P k 1) (askV (sv P wk (n0 + 1)) (p_pt P k 0) x).2).1 = 0 then failV 2 (askV (sv P wk (n0 + 1)) (p_pt P k 1) (askV (sv P wk (n0 + 1)) (p_pt P k 0) x).2).2 else ((askV (sv P wk (n0 + 1)) (p_pt P k 0) x).1 - (askV (sv P wk (n0 + 1)) (p_pt P k 0) x).1 / (askV (sv P wk (n0 + 1)) (p_pt P k 1) (askV (sv P wk (n0 + 1)) (p_pt P k 0) x).2).1 * (askV (sv P wk (n0 + 1)) (p_pt P k 1) (askV (sv P wk (n0 + 1)) (p_pt P k 0) x).2).1, (askV (sv P wk (n0 + 1)) (p_pt P k 1) (askV (sv P wk (n0 + 1)) (p_pt P k 0) x).2).2)).2.2)) (11 * (dm x.2 (if (askV (sv P wk (n0 + 1)) (p_pt P k 1) (askV (sv P wk (n0 + 1)) (p_pt P k 0) x).2).1 = 0 then failV 2 (askV (sv P wk (n0 + 1)) (p_pt P k 1) (askV (sv P wk (n0 + 1)) (p_pt P k 0) x).2).2 else ((askV (sv P wk (n0 + 1)) (p_pt P k 0) x).1 - (askV (sv P wk (n0 + 1)) (p_pt P k 0) x).1 / (askV (sv P wk (n0 + 1)) (p_pt P k 1) (askV (sv P wk (n0 + 1)) (p_pt P k 0) x).2).1 * (askV (sv P wk (n0 + 1)) (p_pt P k 1) (askV (sv P wk (n0 + 1)) (p_pt P k 0) x).2).1, (askV (sv P wk (n0 + 1)) (p_pt P k 1) (askV (sv P wk (n0 + 1)) (p_pt P k 0) x).2).2)).2.2)) (AA s0) := by
  have hpk := (hpo k hk).2 hkd
  have hc3 := hpk.2.1
  have hcn : 2 ≤ p_cn P k := by have h9 := hpk.2.2.1; rw [hrl] at h9; exact h9
  have hK1 := Kp_ask (Kp_sv P wk (n0 + 1)) (p_pt P k 0) x
  have hK2 := Kp_ask (Kp_sv P wk (n0 + 1)) (p_pt P k 1) (askV (sv P wk (n0 + 1)) (p_pt P k 0) x).2
  have cA := fun hi => c_S_askPart B0 w ad Fz P wk rows h kt vt k x 0 n0 IH hfr0 hinj hU hk hpo hkd hi
  generalize hA : askV (sv P wk (n0 + 1)) (p_pt P k 0) x = A9 at hK1 hK2 cA ⊢
  generalize hBq : askV (sv P wk (n0 + 1)) (p_pt P k 1) A9.2 = B9 at hK2 ⊢
  have hm1 := hK1.2.2.1
  have hm2 := hK2.2.2.1
  have hfrA := Nat.le_trans hK1.fr hfr0
  refine mt_ofW B0 (by decide) (Nat.le_of_ble_eq_true rfl) (fun p e s m args below meth c ls hargs X hin hl hP => ?_)
  have X9 := X
  obtain ⟨hx, hb, hr, hml, hown, hg, hK, hn, hE, hlocks, hA⟩ := X9
  have hS : va_S (AA s0) s.heap s.heap [] := va_S.rf
  have hl : lv_has ls 6 [(0, .ref (ad 0)), (1, .ref h)] := hl
  obtain ⟨⟨g0, g1, g2, ⟨vf, g3, hvf⟩, g4⟩, hM4, hP6, hnF, hfl⟩ := (id hU.1)
  have hmF : s_md (sFail 2 B9.2.2) = s_md B9.2.2 := rfl
  rcases Classical.em (B9.1 = 0) with hz | hz
  · rw [if_pos hz]
    refine lv_aload_n hx hb d_S_rest_0 rfl (lv_at hl 0 rfl) ?_
    refine lv_aload_n hx hb d_S_rest_1 rfl (lv_at hl 1 rfl) ?_
    refine lv_iconst (v := (nI 0)) hx hb d_S_rest_2 (by decide) ?_
    refine va_calll (rn_V (n := 2) (As := [.ref h, .int (nI 0)]) (rest := []) (C := R_S) (T := F_S) (N := 9) (ci := 2) X hP hS (cA (by omega)) k_436 k_438 k_23 k_57 k_439 (by decide +kernel) rfl rfl ⟨by dsimp only; omega, by dsimp only; omega⟩ g0 rfl rfl hl.1 rfl (Nat.le_of_ble_eq_true rfl) d_S_rest_3 ⟨by dsimp only [dm, failV]; omega, by dsimp only [dm, failV]; omega⟩) hS (fun q _ h => h) (fun q h => h) (fun r w27 tS H locs ht hvm hw hB hz1 hk1 hS => ?_)
    have hP : fw_P (dC, dI) cls_ (AA s0) w27 H := by rw [← ht]; exact hB
    obtain ⟨rfl, Fz1, rows1, hX1⟩ := hw
    refine lv_lstore_n (lv' := [(2, .long A9.1), (0, .ref (ad 0)), (1, .ref h)]) hx hb d_S_rest_6 rfl hl (by decide) rfl (fun ls hl => ?_)
    refine lv_aload_n hx hb d_S_rest_7 rfl (lv_at hl 1 rfl) ?_
    refine lv_aload_n hx hb d_S_rest_8 rfl (lv_at hl 2 rfl) ?_
    refine lv_iconst (v := (nI 1)) hx hb d_S_rest_9 (by decide) ?_
    obtain ⟨⟨g0, -⟩, -⟩ := id hX1.1.1
    have cB := c_S_askPart B0 w27 ad Fz1 P wk rows1 h kt vt k A9.2 1 n0 IH hfrA hinj hX1.1 hk hpo hkd (by omega)
    rw [hBq] at cB
    refine va_calll (rn_V (n := 2) (As := [.ref h, .int (nI 1)]) (rest := []) (C := R_S) (T := F_S) (N := 9) (ci := 2) X hP hS (cB) k_436 k_438 k_23 k_57 k_439 (by decide +kernel) rfl rfl ⟨by dsimp only; omega, by dsimp only; omega⟩ g0 rfl rfl hl.1 rfl (Nat.le_of_ble_eq_true rfl) d_S_rest_10 ⟨by dsimp only [dm, failV]; omega, by dsimp only [dm, failV]; omega⟩) hS (fun q _ h => h) (fun q h => h) (fun r w28 tS H locs ht hvm hw hB hz1 hk1 hS => ?_)
    have hP : fw_P (dC, dI) cls_ (AA s0) w28 H := by rw [← ht]; exact hB
    obtain ⟨rfl, Fz2, rows2, hX2⟩ := hw
    have hX3 := VX.tr hX1 hX2 hK1.1
    obtain ⟨⟨g0, -⟩, -⟩ := id hX3.1.1
    refine lv_lstore (lv' := [(4, .long B9.1), (2, .long A9.1), (0, .ref (ad 0)), (1, .ref h)]) hx hb d_S_rest_13 hl (by decide) rfl (fun ls hl => ?_)
    refine lv_lload hx hb d_S_rest_15 (lv_at hl 0 rfl) ?_
    refine lv_lconst (v := 0) hx hb d_S_rest_17 (by decide) ?_
    refine W.lcmp hx hb d_S_rest_18 ?_
    refine lv_if_ne (tgt := 30) hx hb d_S_rest_19 (by decide) (fun c1 => ?_) (fun c1 => ?_)
    · exact absurd ((lg_cmp_eq _ _).mpr hz) c1
    · refine lv_aload_n hx hb d_S_rest_22 rfl (lv_at hl 2 rfl) ?_
      refine lv_iconst (v := (nI 2)) hx hb d_S_rest_23 (by decide) ?_
      refine va_calll (rn_V (n := 1) (As := [.int (nI 2)]) (rest := []) (C := R_S) (T := F_S) (N := 9) (ci := 2) X hP hS (c_S_fail B0 w28 ad Fz2 P wk rows2 B9.2.2 2 hinj hX3.1.1 (by decide)) k_360 k_362 k_12 k_57 k_363 (by decide +kernel) rfl rfl ⟨by dsimp only; omega, by dsimp only; omega⟩ g0 rfl rfl hl.1 rfl (Nat.le_of_ble_eq_true rfl) d_S_rest_24 ⟨by dsimp only [dm, failV]; omega, by dsimp only [dm, failV]; omega⟩) hS (fun q _ h => h) (fun q h => h) (fun r w29 tS H locs ht hvm hw hB hz1 hk1 hS => ?_)
      have hP : fw_P (dC, dI) cls_ (AA s0) w29 H := by rw [← ht]; exact hB
      obtain ⟨rfl, hRf, hof⟩ := hw
      have hX4 := VX.tr hX3 (hX3.1.step (VQ.of (σ := B9.2.2) hRf hof)) (fun j hj => (hK1.tr hK2).1 j hj)
      refine lv_goto (tgt := 34) hx hb d_S_rest_27 (by decide) ?_
      refine W.widen (k := 3 * dm x.2 (failV 2 B9.2).2.2) (n := 11 * dm x.2 (failV 2 B9.2).2.2) (by dsimp only [dm, failV]; omega) (by dsimp only [dm, failV]; omega) ?_
      exact W.lret (v := 0) hx hb hr (fun tS ht hW => ⟨⟨0, w29, rfl, ⟨rfl, Fz2, rows2, hX4⟩, mB_of ht hP⟩, hS.F ht⟩) hS.2.2 d_S_rest_34
  · rw [if_neg hz]
    refine lv_aload_n hx hb d_S_rest_0 rfl (lv_at hl 0 rfl) ?_
    refine lv_aload_n hx hb d_S_rest_1 rfl (lv_at hl 1 rfl) ?_
    refine lv_iconst (v := (nI 0)) hx hb d_S_rest_2 (by decide) ?_
    refine va_calll (rn_V (n := 2) (As := [.ref h, .int (nI 0)]) (rest := []) (C := R_S) (T := F_S) (N := 9) (ci := 2) X hP hS (cA (by omega)) k_436 k_438 k_23 k_57 k_439 (by decide +kernel) rfl rfl ⟨by dsimp only; omega, by dsimp only; omega⟩ g0 rfl rfl hl.1 rfl (Nat.le_of_ble_eq_true rfl) d_S_rest_3 ⟨by dsimp only [dm]; omega, by dsimp only [dm]; omega⟩) hS (fun q _ h => h) (fun q h => h) (fun r w30 tS H locs ht hvm hw hB hz1 hk1 hS => ?_)
    have hP : fw_P (dC, dI) cls_ (AA s0) w30 H := by rw [← ht]; exact hB
    obtain ⟨rfl, Fz1, rows1, hX1⟩ := hw
    refine lv_lstore_n (lv' := [(2, .long A9.1), (0, .ref (ad 0)), (1, .ref h)]) hx hb d_S_rest_6 rfl hl (by decide) rfl (fun ls hl => ?_)
    refine lv_aload_n hx hb d_S_rest_7 rfl (lv_at hl 1 rfl) ?_
    refine lv_aload_n hx hb d_S_rest_8 rfl (lv_at hl 2 rfl) ?_
    refine lv_iconst (v := (nI 1)) hx hb d_S_rest_9 (by decide) ?_
    obtain ⟨⟨g0, -⟩, -⟩ := id hX1.1.1
    have cB := c_S_askPart B0 w30 ad Fz1 P wk rows1 h kt vt k A9.2 1 n0 IH hfrA hinj hX1.1 hk hpo hkd (by omega)
    rw [hBq] at cB
    refine va_calll (rn_V (n := 2) (As := [.ref h, .int (nI 1)]) (rest := []) (C := R_S) (T := F_S) (N := 9) (ci := 2) X hP hS (cB) k_436 k_438 k_23 k_57 k_439 (by decide +kernel) rfl rfl ⟨by dsimp only; omega, by dsimp only; omega⟩ g0 rfl rfl hl.1 rfl (Nat.le_of_ble_eq_true rfl) d_S_rest_10 ⟨by dsimp only [dm]; omega, by dsimp only [dm]; omega⟩) hS (fun q _ h => h) (fun q h => h) (fun r w31 tS H locs ht hvm hw hB hz1 hk1 hS => ?_)
    have hP : fw_P (dC, dI) cls_ (AA s0) w31 H := by rw [← ht]; exact hB
    obtain ⟨rfl, Fz2, rows2, hX2⟩ := hw
    have hX3 := VX.tr hX1 hX2 hK1.1
    obtain ⟨⟨g0, -⟩, -⟩ := id hX3.1.1
    refine lv_lstore (lv' := [(4, .long B9.1), (2, .long A9.1), (0, .ref (ad 0)), (1, .ref h)]) hx hb d_S_rest_13 hl (by decide) rfl (fun ls hl => ?_)
    refine lv_lload hx hb d_S_rest_15 (lv_at hl 0 rfl) ?_
    refine lv_lconst (v := 0) hx hb d_S_rest_17 (by decide) ?_
    refine W.lcmp hx hb d_S_rest_18 ?_
    refine lv_if_ne (tgt := 30) hx hb d_S_rest_19 (by decide) (fun c1 => ?_) (fun c1 => ?_)
    · refine lv_lload_n hx hb d_S_rest_30 rfl (lv_at hl 1 rfl) ?_
      refine lv_lload hx hb d_S_rest_31 (lv_at hl 0 rfl) ?_
      refine lv_lrem hx hb d_S_rest_33 hz ?_
      refine W.widen (k := 3 * dm x.2 B9.2.2) (n := 11 * dm x.2 B9.2.2) (by unfold dm; omega) (by unfold dm; omega) ?_
      exact W.lret (v := A9.1 - A9.1 / B9.1 * B9.1) hx hb hr (fun tS ht hW => ⟨⟨A9.1 - A9.1 / B9.1 * B9.1, w31, rfl, ⟨rfl, Fz2, rows2, hX3⟩, mB_of ht hP⟩, hS.F ht⟩) hS.2.2 d_S_rest_34
    · exact absurd ((lg_cmp_eq _ _).mp c1) hz
set_option maxHeartbeats 4000000 in
set_option maxRecDepth 100000 in
theorem c_S_limit {l : Launch} {s0 : State} {dC : Nat → ClassId} {dI : Nat → Nat → Nat} {dA : Nat → ClassId} (B0 : BB s0 dC dI dA) (w : fw_W) (ad : Nat → Nat) (Fz : Nat → Prop) (P : PD) (wk : Nat) (rows : Nat → Option Nat) (h kt vt k : Nat) (x : XS)  (n0 : Nat) (IH : VO l s0 dC dI dA ad P wk n0) (hfr0 : fr12 x.2 ≤ n0) (hinj : Inj ad) (hU : RU dA ad P wk h kt vt k Fz rows w x) (hk : k < 12) (hpo : p_ok P) (hkd : p_kd P k = 2) (hrl : p_rl P k = 9) : Met l y_S_limit [.code y_S_limit b_S_limit 6 (some .long)] ({ frames := 7 * n0 + 7, cells := 3 * (dm x.2 (if (askV (sv P wk (n0 + 1)) (p_pt P k 1) (askV (sv P wk (n0 + 1)) (p_pt P k 0) x).2).1 < (askV (sv P wk (n0 + 1)) (p_pt P k 0) x).1 then failV 3 (askV (sv P wk (n0 + 1)) (p_pt P k 1) (askV (sv P wk (n0 + 1)) (p_pt P k 0) x).2).2 else ((askV (sv P wk (n0 + 1)) (p_pt P k 0) x).1, (askV (sv P wk (n0 + 1)) (p_pt P k 1) (askV (sv P wk (n0 + 1)) (p_pt P k 0) x).2).2)).2.2), slots := 11 * (dm x.2 (if (askV (sv P wk (n0 + 1)) (p_pt P k 1) (askV (sv P wk (n0 + 1)) (p_pt P k 0) x).2).1 < (askV (sv P wk (n0 + 1)) (p_pt P k 0) x).1 then failV 3 (askV (sv P wk (n0 + 1)) (p_pt P k 1) (askV (sv P wk (n0 + 1)) (p_pt P k 0) x).2).2 else ((askV (sv P wk (n0 + 1)) (p_pt P k 0) x).1, (askV (sv P wk (n0 + 1)) (p_pt P k 1) (askV (sv P wk (n0 + 1)) (p_pt P k 0) x).2).2)).2.2), locals := 210 * n0 + 150 }) (mP s0 dC dI w [.ref (ad 0), .ref h]) (mQl s0 dC dI (fun r w' => r = (if (askV (sv P wk (n0 + 1)) (p_pt P k 1) (askV (sv P wk (n0 + 1)) (p_pt P k 0) x).2).1 < (askV (sv P wk (n0 + 1)) (p_pt P k 0) x).1 then failV 3 (askV (sv P wk (n0 + 1)) (p_pt P k 1) (askV (sv P wk (n0 + 1)) (p_pt P k 0) x).2).2 else ((askV (sv P wk (n0 + 1)) (p_pt P k 0) x).1, (askV (sv P wk (n0 + 1)) (p_pt P k 1) (askV (sv P wk (n0 + 1)) (p_pt P k 0) x).2).2)).1 ∧ ∃ (Fz' : Nat → Prop) (rows' : Nat → Option Nat), VX dA ad P wk h kt vt k Fz rows w x Fz' rows' w' (if (askV (sv P wk (n0 + 1)) (p_pt P k 1) (askV (sv P wk (n0 + 1)) (p_pt P k 0) x).2).1 < (askV (sv P wk (n0 + 1)) (p_pt P k 0) x).1 then failV 3 (askV (sv P wk (n0 + 1)) (p_pt P k 1) (askV (sv P wk (n0 + 1)) (p_pt P k 0) x).2).2 else ((askV (sv P wk (n0 + 1)) (p_pt P k 0) x).1, (askV (sv P wk (n0 + 1)) (p_pt P k 1) (askV (sv P wk (n0 + 1)) (p_pt P k 0) x).2).2)).2)) (3 * (dm x.2 (if (askV (sv P wk (n0 + 1)) (p_pt P k 1) (askV (sv P wk (n0 + 1)) (p_pt P k 0) x).2).1 < (askV (sv P wk (n0 + 1)) (p_pt P k 0) x).1 then failV 3 (askV (sv P wk (n0 + 1)) (p_pt P k 1) (askV (sv P wk (n0 + 1)) (p_pt P k 0) x).2).2 else ((askV (sv P wk (n0 + 1)) (p_pt P k 0) x).1, (askV (sv P wk (n0 + 1)) (p_pt P k 1) (askV (sv P wk (n0 + 1)) (p_pt P k 0) x).2).2)).2.2)) (11 * (dm x.2 (if (askV (sv P wk (n0 + 1)) (p_pt P k 1) (askV (sv P wk (n0 + 1)) (p_pt P k 0) x).2).1 < (askV (sv P wk (n0 + 1)) (p_pt P k 0) x).1 then failV 3 (askV (sv P wk (n0 + 1)) (p_pt P k 1) (askV (sv P wk (n0 + 1)) (p_pt P k 0) x).2).2 else ((askV (sv P wk (n0 + 1)) (p_pt P k 0) x).1, (askV (sv P wk (n0 + 1)) (p_pt P k 1) (askV (sv P wk (n0 + 1)) (p_pt P k 0) x).2).2)).2.2)) (AA s0) := by
  have hpk := (hpo k hk).2 hkd
  have hc3 := hpk.2.1
  have hcn : 2 ≤ p_cn P k := by have h9 := hpk.2.2.1; rw [hrl] at h9; exact h9
  have hK1 := Kp_ask (Kp_sv P wk (n0 + 1)) (p_pt P k 0) x
  have hK2 := Kp_ask (Kp_sv P wk (n0 + 1)) (p_pt P k 1) (askV (sv P wk (n0 + 1)) (p_pt P k 0) x).2
  have cA := fun hi => c_S_askPart B0 w ad Fz P wk rows h kt vt k x 0 n0 IH hfr0 hinj hU hk hpo hkd hi
  generalize hA : askV (sv P wk (n0 + 1)) (p_pt P k 0) x = A9 at hK1 hK2 cA ⊢
  generalize hBq : askV (sv P wk (n0 + 1)) (p_pt P k 1) A9.2 = B9 at hK2 ⊢
  have hm1 := hK1.2.2.1
  have hm2 := hK2.2.2.1
  have hfrA := Nat.le_trans hK1.fr hfr0
  refine mt_ofW B0 (by decide) (Nat.le_of_ble_eq_true rfl) (fun p e s m args below meth c ls hargs X hin hl hP => ?_)
  have X9 := X
  obtain ⟨hx, hb, hr, hml, hown, hg, hK, hn, hE, hlocks, hA⟩ := X9
  have hS : va_S (AA s0) s.heap s.heap [] := va_S.rf
  have hl : lv_has ls 6 [(0, .ref (ad 0)), (1, .ref h)] := hl
  obtain ⟨⟨g0, g1, g2, ⟨vf, g3, hvf⟩, g4⟩, hM4, hP6, hnF, hfl⟩ := (id hU.1)
  have hmF : s_md (sFail 3 B9.2.2) = s_md B9.2.2 := rfl
  rcases Classical.em (B9.1 < A9.1) with hz | hz
  · rw [if_pos hz]
    refine lv_aload_n hx hb d_S_limit_0 rfl (lv_at hl 0 rfl) ?_
    refine lv_aload_n hx hb d_S_limit_1 rfl (lv_at hl 1 rfl) ?_
    refine lv_iconst (v := (nI 0)) hx hb d_S_limit_2 (by decide) ?_
    refine va_calll (rn_V (n := 2) (As := [.ref h, .int (nI 0)]) (rest := []) (C := R_S) (T := F_S) (N := 9) (ci := 2) X hP hS (cA (by omega)) k_436 k_438 k_23 k_57 k_439 (by decide +kernel) rfl rfl ⟨by dsimp only; omega, by dsimp only; omega⟩ g0 rfl rfl hl.1 rfl (Nat.le_of_ble_eq_true rfl) d_S_limit_3 ⟨by dsimp only [dm, failV]; omega, by dsimp only [dm, failV]; omega⟩) hS (fun q _ h => h) (fun q h => h) (fun r w32 tS H locs ht hvm hw hB hz1 hk1 hS => ?_)
    have hP : fw_P (dC, dI) cls_ (AA s0) w32 H := by rw [← ht]; exact hB
    obtain ⟨rfl, Fz1, rows1, hX1⟩ := hw
    refine lv_lstore_n (lv' := [(2, .long A9.1), (0, .ref (ad 0)), (1, .ref h)]) hx hb d_S_limit_6 rfl hl (by decide) rfl (fun ls hl => ?_)
    refine lv_aload_n hx hb d_S_limit_7 rfl (lv_at hl 1 rfl) ?_
    refine lv_aload_n hx hb d_S_limit_8 rfl (lv_at hl 2 rfl) ?_
    refine lv_iconst (v := (nI 1)) hx hb d_S_limit_9 (by decide) ?_
    obtain ⟨⟨g0, -⟩, -⟩ := id hX1.1.1
    have cB := c_S_askPart B0 w32 ad Fz1 P wk rows1 h kt vt k A9.2 1 n0 IH hfrA hinj hX1.1 hk hpo hkd (by omega)
    rw [hBq] at cB
    refine va_calll (rn_V (n := 2) (As := [.ref h, .int (nI 1)]) (rest := []) (C := R_S) (T := F_S) (N := 9) (ci := 2) X hP hS (cB) k_436 k_438 k_23 k_57 k_439 (by decide +kernel) rfl rfl ⟨by dsimp only; omega, by dsimp only; omega⟩ g0 rfl rfl hl.1 rfl (Nat.le_of_ble_eq_true rfl) d_S_limit_10 ⟨by dsimp only [dm, failV]; omega, by dsimp only [dm, failV]; omega⟩) hS (fun q _ h => h) (fun q h => h) (fun r w33 tS H locs ht hvm hw hB hz1 hk1 hS => ?_)
    have hP : fw_P (dC, dI) cls_ (AA s0) w33 H := by rw [← ht]; exact hB
    obtain ⟨rfl, Fz2, rows2, hX2⟩ := hw
    have hX3 := VX.tr hX1 hX2 hK1.1
    obtain ⟨⟨g0, -⟩, -⟩ := id hX3.1.1
    refine lv_lstore (lv' := [(4, .long B9.1), (2, .long A9.1), (0, .ref (ad 0)), (1, .ref h)]) hx hb d_S_limit_13 hl (by decide) rfl (fun ls hl => ?_)
    refine lv_lload_n hx hb d_S_limit_15 rfl (lv_at hl 1 rfl) ?_
    refine lv_lload hx hb d_S_limit_16 (lv_at hl 0 rfl) ?_
    refine W.lcmp hx hb d_S_limit_18 ?_
    refine lv_if_le (tgt := 30) hx hb d_S_limit_19 (by decide) (fun c1 => ?_) (fun c1 => ?_)
    · exact absurd ((lg_cmp_le _ _).mp c1) (Int64.not_le.mpr hz)
    · refine lv_aload_n hx hb d_S_limit_22 rfl (lv_at hl 2 rfl) ?_
      refine lv_iconst (v := (nI 3)) hx hb d_S_limit_23 (by decide) ?_
      refine va_calll (rn_V (n := 1) (As := [.int (nI 3)]) (rest := []) (C := R_S) (T := F_S) (N := 9) (ci := 2) X hP hS (c_S_fail B0 w33 ad Fz2 P wk rows2 B9.2.2 3 hinj hX3.1.1 (by decide)) k_360 k_362 k_12 k_57 k_363 (by decide +kernel) rfl rfl ⟨by dsimp only; omega, by dsimp only; omega⟩ g0 rfl rfl hl.1 rfl (Nat.le_of_ble_eq_true rfl) d_S_limit_24 ⟨by dsimp only [dm, failV]; omega, by dsimp only [dm, failV]; omega⟩) hS (fun q _ h => h) (fun q h => h) (fun r w34 tS H locs ht hvm hw hB hz1 hk1 hS => ?_)
      have hP : fw_P (dC, dI) cls_ (AA s0) w34 H := by rw [← ht]; exact hB
      obtain ⟨rfl, hRf, hof⟩ := hw
      have hX4 := VX.tr hX3 (hX3.1.step (VQ.of (σ := B9.2.2) hRf hof)) (fun j hj => (hK1.tr hK2).1 j hj)
      refine lv_goto (tgt := 31) hx hb d_S_limit_27 (by decide) ?_
      refine W.widen (k := 3 * dm x.2 (failV 3 B9.2).2.2) (n := 11 * dm x.2 (failV 3 B9.2).2.2) (by dsimp only [dm, failV]; omega) (by dsimp only [dm, failV]; omega) ?_
      exact W.lret (v := 0) hx hb hr (fun tS ht hW => ⟨⟨0, w34, rfl, ⟨rfl, Fz2, rows2, hX4⟩, mB_of ht hP⟩, hS.F ht⟩) hS.2.2 d_S_limit_31
  · rw [if_neg hz]
    refine lv_aload_n hx hb d_S_limit_0 rfl (lv_at hl 0 rfl) ?_
    refine lv_aload_n hx hb d_S_limit_1 rfl (lv_at hl 1 rfl) ?_
    refine lv_iconst (v := (nI 0)) hx hb d_S_limit_2 (by decide) ?_
    refine va_calll (rn_V (n := 2) (As := [.ref h, .int (nI 0)]) (rest := []) (C := R_S) (T := F_S) (N := 9) (ci := 2) X hP hS (cA (by omega)) k_436 k_438 k_23 k_57 k_439 (by decide +kernel) rfl rfl ⟨by dsimp only; omega, by dsimp only; omega⟩ g0 rfl rfl hl.1 rfl (Nat.le_of_ble_eq_true rfl) d_S_limit_3 ⟨by dsimp only [dm]; omega, by dsimp only [dm]; omega⟩) hS (fun q _ h => h) (fun q h => h) (fun r w35 tS H locs ht hvm hw hB hz1 hk1 hS => ?_)
    have hP : fw_P (dC, dI) cls_ (AA s0) w35 H := by rw [← ht]; exact hB
    obtain ⟨rfl, Fz1, rows1, hX1⟩ := hw
    refine lv_lstore_n (lv' := [(2, .long A9.1), (0, .ref (ad 0)), (1, .ref h)]) hx hb d_S_limit_6 rfl hl (by decide) rfl (fun ls hl => ?_)
    refine lv_aload_n hx hb d_S_limit_7 rfl (lv_at hl 1 rfl) ?_
    refine lv_aload_n hx hb d_S_limit_8 rfl (lv_at hl 2 rfl) ?_
    refine lv_iconst (v := (nI 1)) hx hb d_S_limit_9 (by decide) ?_
    obtain ⟨⟨g0, -⟩, -⟩ := id hX1.1.1
    have cB := c_S_askPart B0 w35 ad Fz1 P wk rows1 h kt vt k A9.2 1 n0 IH hfrA hinj hX1.1 hk hpo hkd (by omega)
    rw [hBq] at cB
    refine va_calll (rn_V (n := 2) (As := [.ref h, .int (nI 1)]) (rest := []) (C := R_S) (T := F_S) (N := 9) (ci := 2) X hP hS (cB) k_436 k_438 k_23 k_57 k_439 (by decide +kernel) rfl rfl ⟨by dsimp only; omega, by dsimp only; omega⟩ g0 rfl rfl hl.1 rfl (Nat.le_of_ble_eq_true rfl) d_S_limit_10 ⟨by dsimp only [dm]; omega, by dsimp only [dm]; omega⟩) hS (fun q _ h => h) (fun q h => h) (fun r w36 tS H locs ht hvm hw hB hz1 hk1 hS => ?_)
    have hP : fw_P (dC, dI) cls_ (AA s0) w36 H := by rw [← ht]; exact hB
    obtain ⟨rfl, Fz2, rows2, hX2⟩ := hw
    have hX3 := VX.tr hX1 hX2 hK1.1
    obtain ⟨⟨g0, -⟩, -⟩ := id hX3.1.1
    refine lv_lstore (lv' := [(4, .long B9.1), (2, .long A9.1), (0, .ref (ad 0)), (1, .ref h)]) hx hb d_S_limit_13 hl (by decide) rfl (fun ls hl => ?_)
    refine lv_lload_n hx hb d_S_limit_15 rfl (lv_at hl 1 rfl) ?_
    refine lv_lload hx hb d_S_limit_16 (lv_at hl 0 rfl) ?_
    refine W.lcmp hx hb d_S_limit_18 ?_
    refine lv_if_le (tgt := 30) hx hb d_S_limit_19 (by decide) (fun c1 => ?_) (fun c1 => ?_)
    · refine lv_lload_n hx hb d_S_limit_30 rfl (lv_at hl 1 rfl) ?_
      refine W.widen (k := 3 * dm x.2 B9.2.2) (n := 11 * dm x.2 B9.2.2) (by unfold dm; omega) (by unfold dm; omega) ?_
      exact W.lret (v := A9.1) hx hb hr (fun tS ht hW => ⟨⟨A9.1, w36, rfl, ⟨rfl, Fz2, rows2, hX3⟩, mB_of ht hP⟩, hS.F ht⟩) hS.2.2 d_S_limit_31
    · exact absurd ((lg_cmp_le _ _).mpr (Int64.not_lt.mp hz)) c1
