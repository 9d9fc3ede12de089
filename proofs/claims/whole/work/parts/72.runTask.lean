set_option maxHeartbeats 4000000 in
set_option maxRecDepth 100000 in
theorem c_S_runTask {l : Launch} {s0 : State} {dC : Nat → ClassId} {dI : Nat → Nat → Nat} {dA : Nat → ClassId} (B0 : BB s0 dC dI dA) (w : fw_W) (ad : Nat → Nat) (Fz : Nat → Prop) (P : PD) (wk : Nat) (rows : Nat → Option Nat) (σ : SS) (k : Nat) (n0 : Nat) (IH : VO l s0 dC dI dA ad P wk n0) (hfr0 : fr12 σ ≤ n0) (hinj : Inj ad) (hR : RS dA ad Fz P wk rows w σ) (hk : k < 12) (hpo : p_ok P) (hkd : p_kd P k = 2) (hwk : wk < 2) : Met l y_S_runTask [.code y_S_runTask b_S_runTask 3 (some .long)] ({ frames := 7 * n0 + 9, cells := 3 * (dm σ (runV (sv P wk (n0 + 1)) P wk k σ).2), slots := 11 * (dm σ (runV (sv P wk (n0 + 1)) P wk k σ).2), locals := 210 * n0 + 210 }) (mP s0 dC dI w [.ref (ad 0), .int (nI k)]) (mQl s0 dC dI (fun r w' => r = (runV (sv P wk (n0 + 1)) P wk k σ).1 ∧ VP dA ad P wk Fz rows w σ w' (runV (sv P wk (n0 + 1)) P wk k σ).2)) (3 * (dm σ (runV (sv P wk (n0 + 1)) P wk k σ).2)) (11 * (dm σ (runV (sv P wk (n0 + 1)) P wk k σ).2)) (AA s0) := by
  have hR0 := hR
  have hKr : Kp (sRan σ) (ruleV (sv P wk (n0 + 1)) P k ([], sRan σ)).2.2 := Kp_rule (Kp_sv P wk (n0 + 1)) P k ([], sRan σ)
  have cR := fun (w9 : fw_W) (q9 kt9 vt9 : Nat) (hU9 : RU dA ad P wk q9 kt9 vt9 k Fz rows w9 ([], sRan σ)) => c_S_ruleValue B0 w9 ad Fz P wk rows q9 kt9 vt9 k ([], sRan σ) n0 IH (by rw [show fr12 (([], sRan σ) : XS).2 = fr12 σ from frS_same rfl rfl 12]; exact hfr0) hinj hU9 hk hpo hkd
  unfold runV
  generalize hF : ruleV (sv P wk (n0 + 1)) P k ([], sRan σ) = F9 at hKr cR ⊢
  have hmr : s_md σ + 1 ≤ s_md F9.2.2 := hKr.2.2.1
  have hms : s_md (sRan σ) = s_md σ + 1 := rfl
  generalize hG : (if s_fl F9.2.2 = 0 then (F9.1, sFin k F9.1 (sApp (k, F9.2.1, F9.1) (sGive (wk * 12 + k) (k, F9.2.1, F9.1) (sTal 3 F9.2.2)))) else ((0 : Int64), sTal 4 F9.2.2)) = G9
  have hmg : s_md G9.2 = s_md F9.2.2 := by rw [← hG]; split <;> rfl
  refine mt_ofW B0 (by decide) (Nat.le_of_ble_eq_true rfl) (fun p e s m args below meth c ls hargs X hin hl hP => ?_)
  have X9 := X
  obtain ⟨hx, hb, hr, hml, hown, hg, hK, hn, hE, hlocks, hA⟩ := X9
  have hS : va_S (AA s0) s.heap s.heap [] := va_S.rf
  have hl : lv_has ls 3 [(0, .ref (ad 0)), (1, .int (nI k))] := hl
  obtain ⟨⟨g0, g1, g2, ⟨vf, g3, hvf⟩, g4⟩, hM4, hP6, hnF, hfl⟩ := hR
  refine lv_aload_n hx hb d_S_runTask_0 rfl (lv_at hl 0 rfl) ?_
  refine lv_iconst (v := (nI 1)) hx hb d_S_runTask_1 (by decide) ?_
  refine fw_put (D := (dC, dI)) (ci := 2) (v := .int (nI 1)) (ty := .boolean) (C := R_S) (T := F_S) (N := 9) hx hb hg in_S ft_S ft_S_ok n_S hown hK hP hS g0 rfl 7 (by decide) (hg _ k_146) (fun _ h9 => h9) rfl (by decide +kernel) (by decide) (by decide) (Nat.le_of_ble_eq_true rfl) d_S_runTask_2 (fun w61 H locs ew62 hP hS => ?_)
  have g1 : w61 (ad 1) = some (.inl (dA 2, 12, .inl (zf (s_fin σ)))) := by rw [ew62, va_up_ne _ _ (hinj.ne (i := 1) (j := 0) (by decide) (by decide) (by decide))]; exact g1
  have g2 : w61 (ad 2) = some (.inl (dA 2, 12, .inl (zf (s_opn σ)))) := by rw [ew62, va_up_ne _ _ (hinj.ne (i := 2) (j := 0) (by decide) (by decide) (by decide))]; exact g2
  have g3 : w61 (ad 3) = some (.inl (dA 1, 12, .inr (.inl vf))) := by rw [ew62, va_up_ne _ _ (hinj.ne (i := 3) (j := 0) (by decide) (by decide) (by decide))]; exact g3
  have g4 : w61 (ad 4) = some (.inl (dA 3, 192, .inr (.inr (.inr (.inr rows))))) := by rw [ew62, va_up_ne _ _ (hinj.ne (i := 4) (j := 0) (by decide) (by decide) (by decide))]; exact g4
  have g0 : w61 (ad 0) = some (.inr (2, [.ref (ad 9), .ref (ad 5), .int (nI wk), .ref (ad 1), .ref (ad 2), .ref (ad 3), .ref (ad 4), .int (nI 1), .int (nI (s_fl σ))])) := by rw [ew62]; exact va_up_self _ _ _
  have hfr1 : ∀ z, z ≠ ad 0 → w61 z = w z := fun z hz => by rw [ew62, va_up_ne _ _ hz]
  have ho1 : Out ad w w61 := fun z hz => hfr1 z (hz 0 (by decide))
  have hR1 : RS dA ad Fz P wk rows w61 (sRan σ) := ⟨⟨g0, g1, g2, ⟨vf, g3, hvf⟩, g4⟩, hM4.kept (fun i h1 h2 => hfr1 _ (hinj.ne (by omega) (by decide) (by omega))) (hR0.fz ho1) (fun _ h => h), hP6.kept (fun i h1 h2 => hfr1 _ (hinj.ne h2 (by decide) (by omega))), ⟨hnF.1, fd_kept (hR0.fz ho1) hnF.2⟩, hfl⟩
  refine fw_new (D := (dC, dI)) (ci := 3) (fs := [.int 0, .null, .null, .int 0, .long 0]) (C := R_T) (T := F_T) (N := 5) hx hb hg in_T ft_T ft_T_ok hown (hg _ k_138) (hg _ k_397) (hg _ k_64) hK hP hS hA rfl (fun j hj => by rcases (show j = 0 ∨ j = 1 ∨ j = 2 ∨ j = 3 ∨ j = 4 by omega) with rfl | rfl | rfl | rfl | rfl <;> rfl) (by dsimp only [dm]; omega) (by dsimp only [dm]; omega) d_S_runTask_5 (fun q63 w64 H hn66 ew65 hP hS => ?_)
  have g0 : w64 (ad 0) = some (.inr (2, [.ref (ad 9), .ref (ad 5), .int (nI wk), .ref (ad 1), .ref (ad 2), .ref (ad 3), .ref (ad 4), .int (nI 1), .int (nI (s_fl σ))])) := by rw [ew65, va_up_ne _ _ (fw_neN g0 hn66)]; exact g0
  have g1 : w64 (ad 1) = some (.inl (dA 2, 12, .inl (zf (s_fin σ)))) := by rw [ew65, va_up_ne _ _ (fw_neN g1 hn66)]; exact g1
  have g2 : w64 (ad 2) = some (.inl (dA 2, 12, .inl (zf (s_opn σ)))) := by rw [ew65, va_up_ne _ _ (fw_neN g2 hn66)]; exact g2
  have g3 : w64 (ad 3) = some (.inl (dA 1, 12, .inr (.inl vf))) := by rw [ew65, va_up_ne _ _ (fw_neN g3 hn66)]; exact g3
  have g4 : w64 (ad 4) = some (.inl (dA 3, 192, .inr (.inr (.inr (.inr rows))))) := by rw [ew65, va_up_ne _ _ (fw_neN g4 hn66)]; exact g4
  have f67 : w64 q63 = some (.inr (3, [.int 0, .null, .null, .int 0, .long 0])) := by rw [ew65]; exact va_up_self _ _ _
  refine lv_dup hx hb d_S_runTask_8 rfl ?_
  refine lv_iload_n hx hb d_S_runTask_9 rfl (lv_at hl 1 rfl) ?_
  refine va_callv (rn_IN (n := 1) (As := [.int (nI k)]) (rest := [.ref q63]) X hP hS (c_T_init B0 w64 q63 (nI k) f67) u_398 k_399 k_64 k_400 rfl (by decide +kernel) rfl rfl ⟨by dsimp only; omega, by dsimp only; omega⟩ rfl hl.1 rfl (Nat.le_of_ble_eq_true rfl) d_S_runTask_10 ⟨by dsimp only [dm]; omega, by dsimp only [dm]; omega⟩) hS (fun q _ h => h) (fun q h => h) (fun w68 tS H locs ht hvm hw hB hz1 hk1 hS => ?_)
  have hP : fw_P (dC, dI) cls_ (AA s0) w68 H := by rw [← ht]; exact hB
  obtain ⟨kt, vt, hkt, hvt, hkv, a1, a2, a3, hfr3⟩ := hw
  have nkt : kt ≠ q63 := Ne.symm (fw_neN f67 hkt)
  have nvt : vt ≠ q63 := Ne.symm (fw_neN f67 hvt)
  rw [ew65, va_up_ne _ _ nkt] at hkt
  rw [ew65, va_up_ne _ _ nvt] at hvt
  have hfr4 : ∀ z, z ≠ q63 → z ≠ kt → z ≠ vt → w68 z = w61 z := fun z z1 z2 z3 => by rw [hfr3 z z1 z2 z3, ew65, va_up_ne _ _ z1]
  have hT3 : aT dA w68 q63 kt vt k [] 0 := ⟨_, _, a1, a2, a3, by decide, fun i q9 h9 => by simp at h9⟩
  have hU3 := RU.make hR1 hn66 hkt hvt hT3 hfr4
  obtain ⟨⟨g0, -⟩, -⟩ := id hU3.1
  refine lv_astore_n (lv' := [(2, .ref q63), (0, .ref (ad 0)), (1, .int (nI k))]) hx hb d_S_runTask_13 rfl hl (by decide) rfl (fun ls hl => ?_)
  refine lv_aload_n hx hb d_S_runTask_14 rfl (lv_at hl 0 rfl) ?_
  refine lv_aload_n hx hb d_S_runTask_15 rfl (lv_at hl 1 rfl) ?_
  refine lv_aload_n hx hb d_S_runTask_16 rfl (lv_at hl 0 rfl) ?_
  refine va_calll (rn_V (n := 1) (As := [.ref q63]) (rest := [.ref q63]) (C := R_S) (T := F_S) (N := 9) (ci := 2) X hP hS (cR w68 q63 kt vt hU3) k_428 k_430 k_21 k_57 k_431 (by decide +kernel) rfl rfl ⟨by dsimp only; omega, by dsimp only; omega⟩ g0 rfl rfl hl.1 rfl (Nat.le_of_ble_eq_true rfl) d_S_runTask_17 ⟨by dsimp only [dm]; omega, by dsimp only [dm]; omega⟩) hS (fun q _ h => h) (fun q h => h) (fun r w69 tS H locs ht hvm hw hB hz1 hk1 hS => ?_)
  have hP : fw_P (dC, dI) cls_ (AA s0) w69 H := by rw [← ht]; exact hB
  obtain ⟨rfl, Fz4, rows4, hX4⟩ := hw
  obtain ⟨fk, fv, f1, f2, f3, hl3, hL⟩ := id hX4.1.2.1
  refine fw_putN (D := (dC, dI)) (ci := 3) (v := .long F9.1) (ty := .long) (C := R_T) (T := F_T) (N := 5) hx hb hg in_T ft_T ft_T_ok n_T hown hK hP hS f1 rfl 4 (by decide) (hn _ u_415) (fun _ h9 => h9) rfl (by decide +kernel) rfl rfl (Nat.le_of_ble_eq_true rfl) d_S_runTask_20 (fun w70 H locs ew71 hP hS => ?_)
  have f2 : w70 kt = some (.inl (dA 0, 3, .inl fk)) := by rw [ew71, va_up_ne _ _ (fw_ne f2 f1 (by simp))]; exact f2
  have f3 : w70 vt = some (.inl (dA 1, 3, .inr (.inl fv))) := by rw [ew71, va_up_ne _ _ (fw_ne f3 f1 (by simp))]; exact f3
  have f1 : w70 q63 = some (.inr (3, [.int (nI k), .ref kt, .ref vt, .int (nI F9.2.1.length), .long F9.1])) := by rw [ew71]; exact va_up_self _ _ _
  have hfr5 : ∀ z, z ≠ q63 → w70 z = w69 z := fun z hz => by rw [ew71, va_up_ne _ _ hz]
  have hqb := hX4.1.2.2.2.2.2
  have hR5 : RS dA ad Fz4 P wk rows4 w70 F9.2.2 := hX4.1.1.keptO (fun i hi => hfr5 _ (Ne.symm (hqb i hi).1)) (fun z hz => hfr5 z (fun e => hX4.1.2.2.1 (e ▸ hz)))
  have hT5 : aT dA w70 q63 kt vt k F9.2.1 F9.1 := ⟨fk, fv, f1, f2, f3, hl3, hL⟩
  obtain ⟨⟨g0, g1, g2, ⟨vf, g3, hvf⟩, g4⟩, hM4, hP6, hnF, hfl⟩ := (id hR5)
  refine lv_aload_n hx hb d_S_runTask_23 rfl (lv_at hl 1 rfl) ?_
  refine va_calli (rn_V (n := 0) (As := []) (rest := []) (C := R_S) (T := F_S) (N := 9) (ci := 2) X hP hS (c_S_hasFailed B0 w70 ad Fz4 P wk rows4 F9.2.2 hinj hR5) k_377 k_379 k_16 k_57 k_380 (by decide +kernel) rfl rfl ⟨by dsimp only; omega, by dsimp only; omega⟩ g0 rfl rfl hl.1 rfl (Nat.le_of_ble_eq_true rfl) d_S_runTask_24 ⟨by dsimp only [dm]; omega, by dsimp only [dm]; omega⟩) hS (fun q _ h => h) (fun q h => h) (fun r w72 tS H locs ht hvm hw hB hz1 hk1 hS => ?_)
  have hP : fw_P (dC, dI) cls_ (AA s0) w72 H := by rw [← ht]; exact hB
  obtain ⟨ew8, b8, rfl, hb8⟩ := hw
  rw [ew8] at hP
  refine nu_ifeq (tgt := 45) hx hb d_S_runTask_27 (by decide) (fun c1 => ?_) (fun c1 => ?_)
  · have hf0 : s_fl F9.2.2 = 0 := Classical.byContradiction fun h => by rw [hb8.mpr h] at c1; cases c1
    rw [if_pos hf0] at hG
    rw [← hG]
    have hmg2 : s_md (sFin k F9.1 (sApp (k, F9.2.1, F9.1) (sGive (wk * 12 + k) (k, F9.2.1, F9.1) (sTal 3 F9.2.2)))) = s_md F9.2.2 := rfl
    obtain ⟨ft, pl, hM, hft, hpl⟩ := id hM4
    obtain ⟨fc, m1, m2, m3, m4, m16, mpl, mcn⟩ := id hM
    refine lv_aload_n hx hb d_S_runTask_45 rfl (lv_at hl 1 rfl) ?_
    refine va_get (D := (dC, dI)) (ci := 2) (v := .ref (ad 5)) (C := R_S) (T := F_S) (N := 9) hx hb hg in_S hown hK (hP.one g0) 0 rfl rfl 1 (by decide) (hg _ k_140) (fun _ h9 => h9) rfl d_S_runTask_46 ?_
    refine va_getN (D := (dC, dI)) (ci := 0) (v := .ref (ad 8)) (C := R_M) (T := F_M) (N := 4) hx hb hg in_M hown hK (hP.one m1) 0 rfl rfl 3 (by decide) (hn _ u_122) (fun _ h9 => h9) rfl d_S_runTask_49 ?_
    refine lv_iconst (v := (nI 3)) hx hb d_S_runTask_52 (by decide) ?_
    refine lv_dup2_11 hx hb d_S_runTask_53 rfl rfl ?_
    refine fw_iald (tys := tyl dA) hx hb hK hP m4 0 rfl (j := 3) (by omega) (by decide) d_S_runTask_54 ?_
    refine lv_iconst (v := (nI 1)) hx hb d_S_runTask_55 (by decide) ?_
    refine lv_iadd hx hb d_S_runTask_56 ?_
    refine fw_iast (tys := tyl dA) hx hb hK hP hS m4 0 rfl (j := 3) (x := (((s_ta F9.2.2) 3) + (nI 1))) (by omega) (by decide) d_S_runTask_57 (fun w73 H locs ew74 hP hS => ?_)
    have g0 : w73 (ad 0) = some (.inr (2, [.ref (ad 9), .ref (ad 5), .int (nI wk), .ref (ad 1), .ref (ad 2), .ref (ad 3), .ref (ad 4), .int (nI (s_ran F9.2.2).toNat), .int (nI (s_fl F9.2.2))])) := by rw [ew74, va_up_ne _ _ (hinj.ne (i := 0) (j := 8) (by decide) (by decide) (by decide))]; exact g0
    have g1 : w73 (ad 1) = some (.inl (dA 2, 12, .inl (zf (s_fin F9.2.2)))) := by rw [ew74, va_up_ne _ _ (hinj.ne (i := 1) (j := 8) (by decide) (by decide) (by decide))]; exact g1
    have g2 : w73 (ad 2) = some (.inl (dA 2, 12, .inl (zf (s_opn F9.2.2)))) := by rw [ew74, va_up_ne _ _ (hinj.ne (i := 2) (j := 8) (by decide) (by decide) (by decide))]; exact g2
    have g3 : w73 (ad 3) = some (.inl (dA 1, 12, .inr (.inl vf))) := by rw [ew74, va_up_ne _ _ (hinj.ne (i := 3) (j := 8) (by decide) (by decide) (by decide))]; exact g3
    have g4 : w73 (ad 4) = some (.inl (dA 3, 192, .inr (.inr (.inr (.inr rows4))))) := by rw [ew74, va_up_ne _ _ (hinj.ne (i := 4) (j := 8) (by decide) (by decide) (by decide))]; exact g4
    have m1 : w73 (ad 5) = some (.inr (0, [.ref (ad 6), .ref (ad 7), .int (nI pl.length), .ref (ad 8)])) := by rw [ew74, va_up_ne _ _ (hinj.ne (i := 5) (j := 8) (by decide) (by decide) (by decide))]; exact m1
    have m2 : w73 (ad 6) = some (.inl (dA 3, 24, .inr (.inr (.inr (.inr ft))))) := by rw [ew74, va_up_ne _ _ (hinj.ne (i := 6) (j := 8) (by decide) (by decide) (by decide))]; exact m2
    have m3 : w73 (ad 7) = some (.inl (dA 3, 16, .inr (.inr (.inr (.inr fc))))) := by rw [ew74, va_up_ne _ _ (hinj.ne (i := 7) (j := 8) (by decide) (by decide) (by decide))]; exact m3
    have m4 : w73 (ad 8) = some (.inl (dA 0, 11, .inl (upd (s_ta F9.2.2) 3 (((s_ta F9.2.2) 3) + (nI 1))))) := by rw [ew74]; exact va_up_self _ _ _
    obtain ⟨hR6, ho6⟩ := hR5.tal hinj ew74
    have hq6 : ∀ z, z = q63 ∨ z = kt ∨ z = vt → w73 z = w70 z := fun z hz => ho6 z (fun i hi => by rcases hz with rfl | rfl | rfl; exact (hqb i hi).1; exact (hqb i hi).2.1; exact (hqb i hi).2.2)
    have hT6 := hT5.kept (hq6 _ (Or.inl rfl)) (hq6 _ (Or.inr (Or.inl rfl))) (hq6 _ (Or.inr (Or.inr rfl)))
    obtain ⟨⟨g0, g1, g2, ⟨vf, g3, hvf⟩, g4⟩, hM4, hP6, hnF, hfl⟩ := (id hR6)
    obtain ⟨ft, pl, hM, hft, hpl⟩ := id hM4
    obtain ⟨fc, m1, m2, m3, m4, m16, mpl, mcn⟩ := id hM
    obtain ⟨fk6, fv6, t6, -⟩ := id hT6
    refine lv_aload_n hx hb d_S_runTask_58 rfl (lv_at hl 1 rfl) ?_
    refine va_get (D := (dC, dI)) (ci := 2) (v := .ref (ad 5)) (C := R_S) (T := F_S) (N := 9) hx hb hg in_S hown hK (hP.one g0) 0 rfl rfl 1 (by decide) (hg _ k_140) (fun _ h9 => h9) rfl d_S_runTask_59 ?_
    refine lv_aload_n hx hb d_S_runTask_62 rfl (lv_at hl 1 rfl) ?_
    refine va_get (D := (dC, dI)) (ci := 2) (v := .int (nI wk)) (C := R_S) (T := F_S) (N := 9) hx hb hg in_S hown hK (hP.one g0) 0 rfl rfl 2 (by decide) (hg _ k_141) (fun _ h9 => h9) rfl d_S_runTask_63 ?_
    refine lv_aload_n hx hb d_S_runTask_66 rfl (lv_at hl 0 rfl) ?_
    refine va_callv (rn_VN (n := 2) (As := [.int (nI wk), .ref q63]) (rest := []) (C := R_M) (T := F_M) (N := 4) (ci := 0) X hP hS (c_M_give B0 w73 (ad 5) (ad 6) (ad 7) (ad 8) ft pl (s_ta (sTal 3 F9.2.2)) wk q63 k hM hwk hk ⟨_, _, _, _, t6⟩) u_389 k_391 k_19 k_56 k_392 (by decide +kernel) rfl rfl ⟨by dsimp only; omega, by dsimp only; omega⟩ m1 rfl rfl hl.1 rfl (Nat.le_of_ble_eq_true rfl) d_S_runTask_67 ⟨by dsimp only [dm]; omega, by dsimp only [dm]; omega⟩) hS (fun q _ h => h) (fun q h => h) (fun w75 tS H locs ht hvm hw hB hz1 hk1 hS => ?_)
    have hP : fw_P (dC, dI) cls_ (AA s0) w75 H := by rw [← ht]; exact hB
    obtain ⟨hM7, hfr7⟩ := hw
    have ho7 : Out ad w73 w75 := fun z hz => hfr7 z (hz 6 (by decide))
    have hq7 : ∀ z, z = q63 ∨ z = kt ∨ z = vt → w75 z = w73 z := fun z hz => ho7 z (fun i hi => by rcases hz with rfl | rfl | rfl; exact (hqb i hi).1; exact (hqb i hi).2.1; exact (hqb i hi).2.2)
    have hT7 := hT6.kept (hq7 _ (Or.inl rfl)) (hq7 _ (Or.inr (Or.inl rfl))) (hq7 _ (Or.inr (Or.inr rfl)))
    have hpl7 := hpl.kept (hR6.fz ho7) (fun _ h => h)
    have g0 : w75 (ad 0) = some (.inr (2, [.ref (ad 9), .ref (ad 5), .int (nI wk), .ref (ad 1), .ref (ad 2), .ref (ad 3), .ref (ad 4), .int (nI (s_ran F9.2.2).toNat), .int (nI (s_fl F9.2.2))])) := (hfr7 _ (hinj.ne (by decide) (by decide) (by decide))).trans g0
    obtain ⟨fc7, m17, -⟩ := id hM7
    obtain ⟨fk7, fv7, t7, -⟩ := id hT7
    refine lv_aload_n hx hb d_S_runTask_70 rfl (lv_at hl 1 rfl) ?_
    refine va_get (D := (dC, dI)) (ci := 2) (v := .ref (ad 5)) (C := R_S) (T := F_S) (N := 9) hx hb hg in_S hown hK (hP.one g0) 0 rfl rfl 1 (by decide) (hg _ k_140) (fun _ h9 => h9) rfl d_S_runTask_71 ?_
    refine lv_aload_n hx hb d_S_runTask_74 rfl (lv_at hl 0 rfl) ?_
    refine va_callv (rn_VN (n := 1) (As := [.ref q63]) (rest := []) (C := R_M) (T := F_M) (N := 4) (ci := 0) X hP hS (c_M_append B0 w75 (ad 5) (ad 6) (ad 7) (ad 8) (va_up ft (wk * 12 + k) (some q63)) pl (s_ta (sTal 3 F9.2.2)) (owF w75) q63 k hM7 hpl7.o ⟨_, _, _, _, t7⟩) u_485 k_487 k_33 k_56 k_488 (by decide +kernel) rfl rfl ⟨by dsimp only; omega, by dsimp only; omega⟩ m17 rfl rfl hl.1 rfl (Nat.le_of_ble_eq_true rfl) d_S_runTask_75 ⟨by dsimp only [dm]; omega, by dsimp only [dm]; omega⟩) hS (fun q _ h => h) (fun q h => h) (fun w76 tS H locs ht hvm hw hB hz1 hk1 hS => ?_)
    have hP : fw_P (dC, dI) cls_ (AA s0) w76 H := by rw [← ht]; exact hB
    obtain ⟨hM8, hfr8⟩ := hw
    have ho8 : Out ad w75 w76 := fun z hz => hfr8 z (hz 5 (by decide)) (hz 7 (by decide))
    have ho68 : Out ad w73 w76 := fun z hz => (ho8 z hz).trans (ho7 z hz)
    have hq8 : ∀ z, z = q63 ∨ z = kt ∨ z = vt → w76 z = w75 z := fun z hz => ho8 z (fun i hi => by rcases hz with rfl | rfl | rfl; exact (hqb i hi).1; exact (hqb i hi).2.1; exact (hqb i hi).2.2)
    have hT8 := hT7.kept (hq8 _ (Or.inl rfl)) (hq8 _ (Or.inr (Or.inl rfl))) (hq8 _ (Or.inr (Or.inr rfl)))
    have hz8 := hR6.fz ho68
    let Fz8 : Nat → Prop := fun z => Fz4 z ∨ z = q63 ∨ z = kt ∨ z = vt
    have hi8 : isT dA Fz8 w76 q63 (k, F9.2.1, F9.1) := ⟨⟨kt, vt, hT8, Or.inr (Or.inl rfl), Or.inr (Or.inr (Or.inl rfl)), Or.inr (Or.inr (Or.inr rfl))⟩, hk⟩
    have hk8 : ∀ i, i ≠ 5 → i ≠ 6 → i ≠ 7 → i < 27 → w76 (ad i) = w73 (ad i) := fun i h5 h6 h7 hi => (hfr8 _ (hinj.ne hi (by decide) h5) (hinj.ne hi (by decide) h7)).trans (hfr7 _ (hinj.ne hi (by decide) h6))
    have hM48 : M4 dA ad Fz8 w76 (va_up (s_tr F9.2.2) (wk * 12 + k) (some (k, F9.2.1, F9.1))) ((s_cl F9.2.2).drop ((s_cl F9.2.2).length - 15) ++ [(k, F9.2.1, F9.1)]) (s_ta (sTal 3 F9.2.2)) := by
      refine ⟨_, _, hM8, fun i hi => ?_, ?_⟩
      · by_cases e9 : i = wk * 12 + k
        · rw [e9, va_up_self, va_up_self]; exact hi8
        · rw [va_up_ne _ _ e9, va_up_ne _ _ e9]; exact (hft i hi).kept hz8 (fun _ h => Or.inl h)
      · rw [hpl.1]; exact ((hpl.drop _).kept hz8 (fun _ h => Or.inl h)).app (poolL.cons hi8 poolL.nil)
    have hR8 : RS dA ad Fz8 P wk rows4 w76 (sApp (k, F9.2.1, F9.1) (sGive (wk * 12 + k) (k, F9.2.1, F9.1) (sTal 3 F9.2.2))) := by
      refine ⟨hR6.1.kept (fun i hi => hk8 i (by omega) (by omega) (by omega) (by omega)), hM48, hR6.2.2.1.kept (fun i h1 h2 => hk8 i (by omega) (by omega) (by omega) h2), ⟨fun i hi h9 => ?_, fun z h9 => ?_⟩, hR6.2.2.2.2⟩
      · rcases h9 with h9 | h9 | h9 | h9
        · exact hnF.1 i hi h9
        · exact (hqb i hi).1 h9.symm
        · exact (hqb i hi).2.1 h9.symm
        · exact (hqb i hi).2.2 h9.symm
      · rcases h9 with h9 | h9 | h9 | h9
        · rw [hz8 z h9]; exact hR6.2.2.2.1.2 z h9
        · rw [h9]; exact hT8.in.1
        · rw [h9]; exact hT8.in.2.1
        · rw [h9]; exact hT8.in.2.2
    obtain ⟨fk8, fv8, t8, -⟩ := id hT8
    obtain ⟨⟨g0, g1, g2, ⟨vf, g3, hvf⟩, g4⟩, hM4, hP6, hnF, hfl⟩ := (id hR8)
    refine lv_aload_n hx hb d_S_runTask_78 rfl (lv_at hl 1 rfl) ?_
    refine lv_iload_n hx hb d_S_runTask_79 rfl (lv_at hl 2 rfl) ?_
    refine lv_aload_n hx hb d_S_runTask_80 rfl (lv_at hl 0 rfl) ?_
    refine va_getN (D := (dC, dI)) (ci := 3) (v := .long F9.1) (C := R_T) (T := F_T) (N := 5) hx hb hg in_T hown hK (hP.one t8) 0 rfl rfl 4 (by decide) (hn _ u_415) (fun _ h9 => h9) rfl d_S_runTask_81 ?_
    refine va_calll (rn_V (n := 2) (As := [.int (nI k), .long F9.1]) (rest := []) (C := R_S) (T := F_S) (N := 9) (ci := 2) X hP hS (c_S_finish B0 w76 ad Fz8 P wk rows4 (sApp (k, F9.2.1, F9.1) (sGive (wk * 12 + k) (k, F9.2.1, F9.1) (sTal 3 F9.2.2))) k F9.1 hinj hR8 hk) k_364 k_366 k_13 k_57 k_367 (by decide +kernel) rfl rfl ⟨by dsimp only; omega, by dsimp only; omega⟩ g0 rfl rfl hl.1 rfl (Nat.le_of_ble_eq_true rfl) d_S_runTask_84 ⟨by dsimp only [dm]; omega, by dsimp only [dm]; omega⟩) hS (fun q _ h => h) (fun q h => h) (fun r w77 tS H locs ht hvm hw hB hz1 hk1 hS => ?_)
    have hP : fw_P (dC, dI) cls_ (AA s0) w77 H := by rw [← ht]; exact hB
    obtain ⟨rfl, hR9, ho9⟩ := hw
    have hV9 := VQ.run hR0 ho1 hn66 hkt hvt hfr4 rfl hU3 hX4 hR9 (fun z h => Or.inl h) (fun z h => h) (fun z e hz hn n1 n2 n3 => by rw [ho9 z hn, ho68 z hn, ho6 z hn, hfr5 z n1]; exact hz)
    refine W.widen (k := 3 * dm σ (sFin k F9.1 (sApp (k, F9.2.1, F9.1) (sGive (wk * 12 + k) (k, F9.2.1, F9.1) (sTal 3 F9.2.2))))) (n := 11 * dm σ (sFin k F9.1 (sApp (k, F9.2.1, F9.1) (sGive (wk * 12 + k) (k, F9.2.1, F9.1) (sTal 3 F9.2.2))))) (by dsimp only [dm]; omega) (by dsimp only [dm]; omega) ?_
    exact W.lret (v := F9.1) hx hb hr (fun tS ht hW => ⟨⟨F9.1, w77, rfl, ⟨rfl, hV9.p⟩, mB_of ht hP⟩, hS.F ht⟩) hS.2.2 d_S_runTask_87
  · rw [if_neg (hb8.mp c1)] at hG
    rw [← hG]
    have hmg2 : s_md (sTal 4 F9.2.2) = s_md F9.2.2 := rfl
    obtain ⟨ft, pl, hM, hft, hpl⟩ := id hM4
    obtain ⟨fc, m1, m2, m3, m4, m16, mpl, mcn⟩ := id hM
    refine lv_aload_n hx hb d_S_runTask_30 rfl (lv_at hl 1 rfl) ?_
    refine va_get (D := (dC, dI)) (ci := 2) (v := .ref (ad 5)) (C := R_S) (T := F_S) (N := 9) hx hb hg in_S hown hK (hP.one g0) 0 rfl rfl 1 (by decide) (hg _ k_140) (fun _ h9 => h9) rfl d_S_runTask_31 ?_
    refine va_getN (D := (dC, dI)) (ci := 0) (v := .ref (ad 8)) (C := R_M) (T := F_M) (N := 4) hx hb hg in_M hown hK (hP.one m1) 0 rfl rfl 3 (by decide) (hn _ u_122) (fun _ h9 => h9) rfl d_S_runTask_34 ?_
    refine lv_iconst (v := (nI 4)) hx hb d_S_runTask_37 (by decide) ?_
    refine lv_dup2_11 hx hb d_S_runTask_38 rfl rfl ?_
    refine fw_iald (tys := tyl dA) hx hb hK hP m4 0 rfl (j := 4) (by omega) (by decide) d_S_runTask_39 ?_
    refine lv_iconst (v := (nI 1)) hx hb d_S_runTask_40 (by decide) ?_
    refine lv_iadd hx hb d_S_runTask_41 ?_
    refine fw_iast (tys := tyl dA) hx hb hK hP hS m4 0 rfl (j := 4) (x := (((s_ta F9.2.2) 4) + (nI 1))) (by omega) (by decide) d_S_runTask_42 (fun w78 H locs ew79 hP hS => ?_)
    have g0 : w78 (ad 0) = some (.inr (2, [.ref (ad 9), .ref (ad 5), .int (nI wk), .ref (ad 1), .ref (ad 2), .ref (ad 3), .ref (ad 4), .int (nI (s_ran F9.2.2).toNat), .int (nI (s_fl F9.2.2))])) := by rw [ew79, va_up_ne _ _ (hinj.ne (i := 0) (j := 8) (by decide) (by decide) (by decide))]; exact g0
    have g1 : w78 (ad 1) = some (.inl (dA 2, 12, .inl (zf (s_fin F9.2.2)))) := by rw [ew79, va_up_ne _ _ (hinj.ne (i := 1) (j := 8) (by decide) (by decide) (by decide))]; exact g1
    have g2 : w78 (ad 2) = some (.inl (dA 2, 12, .inl (zf (s_opn F9.2.2)))) := by rw [ew79, va_up_ne _ _ (hinj.ne (i := 2) (j := 8) (by decide) (by decide) (by decide))]; exact g2
    have g3 : w78 (ad 3) = some (.inl (dA 1, 12, .inr (.inl vf))) := by rw [ew79, va_up_ne _ _ (hinj.ne (i := 3) (j := 8) (by decide) (by decide) (by decide))]; exact g3
    have g4 : w78 (ad 4) = some (.inl (dA 3, 192, .inr (.inr (.inr (.inr rows4))))) := by rw [ew79, va_up_ne _ _ (hinj.ne (i := 4) (j := 8) (by decide) (by decide) (by decide))]; exact g4
    have m1 : w78 (ad 5) = some (.inr (0, [.ref (ad 6), .ref (ad 7), .int (nI pl.length), .ref (ad 8)])) := by rw [ew79, va_up_ne _ _ (hinj.ne (i := 5) (j := 8) (by decide) (by decide) (by decide))]; exact m1
    have m2 : w78 (ad 6) = some (.inl (dA 3, 24, .inr (.inr (.inr (.inr ft))))) := by rw [ew79, va_up_ne _ _ (hinj.ne (i := 6) (j := 8) (by decide) (by decide) (by decide))]; exact m2
    have m3 : w78 (ad 7) = some (.inl (dA 3, 16, .inr (.inr (.inr (.inr fc))))) := by rw [ew79, va_up_ne _ _ (hinj.ne (i := 7) (j := 8) (by decide) (by decide) (by decide))]; exact m3
    have m4 : w78 (ad 8) = some (.inl (dA 0, 11, .inl (upd (s_ta F9.2.2) 4 (((s_ta F9.2.2) 4) + (nI 1))))) := by rw [ew79]; exact va_up_self _ _ _
    obtain ⟨hR6, ho6⟩ := hR5.tal hinj ew79
    have hV6 := VQ.run hR0 ho1 hn66 hkt hvt hfr4 rfl hU3 hX4 hR6 (fun z h => h) (fun z h => Or.inl h) (fun z e hz hn n1 n2 n3 => by rw [ho6 z hn, hfr5 z n1]; exact hz)
    refine lv_lconst (v := 0) hx hb d_S_runTask_43 (by decide) ?_
    refine W.widen (k := 3 * dm σ (sTal 4 F9.2.2)) (n := 11 * dm σ (sTal 4 F9.2.2)) (by dsimp only [dm]; omega) (by dsimp only [dm]; omega) ?_
    exact W.lret (v := 0) hx hb hr (fun tS ht hW => ⟨⟨0, w78, rfl, ⟨rfl, hV6.p⟩, mB_of ht hP⟩, hS.F ht⟩) hS.2.2 d_S_runTask_44
