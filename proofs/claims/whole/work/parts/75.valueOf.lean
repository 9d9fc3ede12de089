set_option maxHeartbeats 4000000 in
set_option maxRecDepth 100000 in
theorem c_S_valueOf {l : Launch} {s0 : State} {dC : Nat → ClassId} {dI : Nat → Nat → Nat} {dA : Nat → ClassId} (B0 : BB s0 dC dI dA) (w : fw_W) (ad : Nat → Nat) (Fz : Nat → Prop) (P : PD) (wk : Nat) (rows : Nat → Option Nat) (σ : SS) (k n1 : Nat) (IH : ∀ n0, n1 = n0 + 1 → VO l s0 dC dI dA ad P wk n0) (hinj : Inj ad) (hR : RS dA ad Fz P wk rows w σ) (hk : k < 12) (hfr1 : fr12 σ ≤ n1) (hpo : p_ok P) (hwk : wk < 2) : Met l y_S_valueOf [.code y_S_valueOf b_S_valueOf 2 (some .long)] (rmV n1 (dm σ (sv P wk (n1 + 1) k σ).2)) (mP s0 dC dI w [.ref (ad 0), .int (nI k)]) (mQl s0 dC dI (fun r w' => r = (sv P wk (n1 + 1) k σ).1 ∧ VP dA ad P wk Fz rows w σ w' (sv P wk (n1 + 1) k σ).2)) (3 * (dm σ (sv P wk (n1 + 1) k σ).2)) (11 * (dm σ (sv P wk (n1 + 1) k σ).2)) (AA s0) := by
  have hR0 := hR
  have hsv : sv P wk (n1 + 1) k σ = stepV (sv P wk n1) P wk k σ := rfl
  unfold stepV at hsv
  rw [if_neg (by omega)] at hsv
  generalize hG : sv P wk (n1 + 1) k σ = G9 at hsv ⊢
  refine mt_ofW B0 (by decide) (Nat.le_of_ble_eq_true rfl) (fun p e s m args below meth c ls hargs X hin hl hP => ?_)
  have X9 := X
  obtain ⟨hx, hb, hr, hml, hown, hg, hK, hn, hE, hlocks, hA⟩ := X9
  have hS : va_S (AA s0) s.heap s.heap [] := va_S.rf
  have hl : lv_has ls 2 [(0, .ref (ad 0)), (1, .int (nI k))] := hl
  obtain ⟨⟨g0, g1, g2, ⟨vf, g3, hvf⟩, g4⟩, hM4, hP6, hnF, hfl⟩ := hR
  obtain ⟨p0, p1, p2, -⟩ := id hP6
  have hk3 := (hpo k hk).1
  refine lv_aload_n hx hb d_S_valueOf_0 rfl (lv_at hl 0 rfl) ?_
  refine va_get (D := (dC, dI)) (ci := 2) (v := .ref (ad 1)) (C := R_S) (T := F_S) (N := 9) hx hb hg in_S hown hK (hP.one g0) 0 rfl rfl 3 (by decide) (hg _ k_142) (fun _ h9 => h9) rfl d_S_valueOf_1 ?_
  refine lv_iload_n hx hb d_S_valueOf_4 rfl (lv_at hl 1 rfl) ?_
  refine fw_zald (tys := tyl dA) hx hb hK hP g1 2 rfl (j := k) (by omega) (by decide) d_S_valueOf_5 ?_
  refine nu_ifeq (tgt := 16) hx hb d_S_valueOf_6 (by decide) (fun c1 => ?_) (fun c1 => ?_)
  · rw [if_neg (by rw [c1]; decide)] at hsv
    refine lv_aload_n hx hb d_S_valueOf_16 rfl (lv_at hl 0 rfl) ?_
    refine va_get (D := (dC, dI)) (ci := 2) (v := .ref (ad 2)) (C := R_S) (T := F_S) (N := 9) hx hb hg in_S hown hK (hP.one g0) 0 rfl rfl 4 (by decide) (hg _ k_143) (fun _ h9 => h9) rfl d_S_valueOf_17 ?_
    refine lv_iload_n hx hb d_S_valueOf_20 rfl (lv_at hl 1 rfl) ?_
    refine fw_zald (tys := tyl dA) hx hb hK hP g2 2 rfl (j := k) (by omega) (by decide) d_S_valueOf_21 ?_
    refine nu_ifeq (tgt := 45) hx hb d_S_valueOf_22 (by decide) (fun c2 => ?_) (fun c2 => ?_)
    · rw [if_neg (by rw [c2]; decide)] at hsv
      refine lv_aload_n hx hb d_S_valueOf_45 rfl (lv_at hl 0 rfl) ?_
      refine va_get (D := (dC, dI)) (ci := 2) (v := .ref (ad 9)) (C := R_S) (T := F_S) (N := 9) hx hb hg in_S hown hK (hP.one g0) 0 rfl rfl 0 (by decide) (hg _ k_139) (fun _ h9 => h9) rfl d_S_valueOf_46 ?_
      refine va_getN (D := (dC, dI)) (ci := 1) (v := .ref (ad 10)) (C := R_P) (T := F_P) (N := 5) hx hb hg in_P hown hK (hP.one p0) 0 rfl rfl 0 (by decide) (hn _ u_86) (fun _ h9 => h9) rfl d_S_valueOf_49 ?_
      refine lv_iload_n hx hb d_S_valueOf_52 rfl (lv_at hl 1 rfl) ?_
      refine fw_iald (tys := tyl dA) hx hb hK hP p1 0 rfl (j := k) (by omega) (by decide) d_S_valueOf_53 ?_
      refine lv_if_ne (tgt := 63) hx hb d_S_valueOf_54 (by decide) (fun c3 => ?_) (fun c3 => ?_)
      · have hkd0 : ¬ p_kd P k = 0 := fun h => c3 (by rw [show nf (p_kd P) k = nI (p_kd P k) from rfl, h]; rfl)
        rw [if_neg hkd0] at hsv
        refine lv_aload_n hx hb d_S_valueOf_63 rfl (lv_at hl 0 rfl) ?_
        refine va_get (D := (dC, dI)) (ci := 2) (v := .ref (ad 9)) (C := R_S) (T := F_S) (N := 9) hx hb hg in_S hown hK (hP.one g0) 0 rfl rfl 0 (by decide) (hg _ k_139) (fun _ h9 => h9) rfl d_S_valueOf_64 ?_
        refine va_getN (D := (dC, dI)) (ci := 1) (v := .ref (ad 10)) (C := R_P) (T := F_P) (N := 5) hx hb hg in_P hown hK (hP.one p0) 0 rfl rfl 0 (by decide) (hn _ u_86) (fun _ h9 => h9) rfl d_S_valueOf_67 ?_
        refine lv_iload_n hx hb d_S_valueOf_70 rfl (lv_at hl 1 rfl) ?_
        refine fw_iald (tys := tyl dA) hx hb hK hP p1 0 rfl (j := k) (by omega) (by decide) d_S_valueOf_71 ?_
        refine lv_iconst (v := (nI 1)) hx hb d_S_valueOf_72 (by decide) ?_
        refine nu_ne (tgt := 91) hx hb (by omega) (by omega) d_S_valueOf_73 (by decide) (fun c4 => ?_) (fun c4 => ?_)
        · rw [if_neg c4] at hsv
          have hkd : p_kd P k = 2 := by omega
          have hfo : fr12 (sOpen k σ) + 1 = fr12 σ := frS_open c2 c1 12 hk
          obtain ⟨n0, rfl⟩ : ∃ n0, n1 = n0 + 1 := ⟨n1 - 1, by omega⟩
          have IH0 := IH n0 rfl
          refine lv_aload_n hx hb d_S_valueOf_91 rfl (lv_at hl 0 rfl) ?_
          refine va_get (D := (dC, dI)) (ci := 2) (v := .ref (ad 2)) (C := R_S) (T := F_S) (N := 9) hx hb hg in_S hown hK (hP.one g0) 0 rfl rfl 4 (by decide) (hg _ k_143) (fun _ h9 => h9) rfl d_S_valueOf_92 ?_
          refine lv_iload_n hx hb d_S_valueOf_95 rfl (lv_at hl 1 rfl) ?_
          refine lv_iconst (v := (nI 1)) hx hb d_S_valueOf_96 (by decide) ?_
          refine fw_zast (tys := tyl dA) hx hb hK hP hS g2 2 rfl (j := k) (x := (nI 1)) (by omega) (by decide) d_S_valueOf_97 (fun w99 H locs ew100 hP hS => ?_)
          rw [show (nI 1) = nI (true).toNat from rfl] at ew100
          rw [zf_up] at ew100
          have g0 : w99 (ad 0) = some (.inr (2, [.ref (ad 9), .ref (ad 5), .int (nI wk), .ref (ad 1), .ref (ad 2), .ref (ad 3), .ref (ad 4), .int (nI (s_ran σ).toNat), .int (nI (s_fl σ))])) := by rw [ew100, va_up_ne _ _ (hinj.ne (i := 0) (j := 2) (by decide) (by decide) (by decide))]; exact g0
          have g1 : w99 (ad 1) = some (.inl (dA 2, 12, .inl (zf (s_fin σ)))) := by rw [ew100, va_up_ne _ _ (hinj.ne (i := 1) (j := 2) (by decide) (by decide) (by decide))]; exact g1
          have g3 : w99 (ad 3) = some (.inl (dA 1, 12, .inr (.inl vf))) := by rw [ew100, va_up_ne _ _ (hinj.ne (i := 3) (j := 2) (by decide) (by decide) (by decide))]; exact g3
          have g4 : w99 (ad 4) = some (.inl (dA 3, 192, .inr (.inr (.inr (.inr rows))))) := by rw [ew100, va_up_ne _ _ (hinj.ne (i := 4) (j := 2) (by decide) (by decide) (by decide))]; exact g4
          have p0 : w99 (ad 9) = some (.inr (1, [.ref (ad 10), .ref (ad 11), .ref (ad 12), .ref (ad 13), .ref (ad 14)])) := by rw [ew100, va_up_ne _ _ (hinj.ne (i := 9) (j := 2) (by decide) (by decide) (by decide))]; exact p0
          have p1 : w99 (ad 10) = some (.inl (dA 0, 12, .inl (nf (p_kd P)))) := by rw [ew100, va_up_ne _ _ (hinj.ne (i := 10) (j := 2) (by decide) (by decide) (by decide))]; exact p1
          have p2 : w99 (ad 11) = some (.inl (dA 1, 12, .inr (.inl (p_vl P)))) := by rw [ew100, va_up_ne _ _ (hinj.ne (i := 11) (j := 2) (by decide) (by decide) (by decide))]; exact p2
          have g2 : w99 (ad 2) = some (.inl (dA 2, 12, .inl (zf (va_up (s_opn σ) k true)))) := by rw [ew100]; exact va_up_self _ _ _
          obtain ⟨hRo, hoo⟩ := RS.open1 hinj hR0 ew100
          have cT := c_S_taskValue B0 w99 ad Fz P wk rows (sOpen k σ) k n0 IH0 (by omega) hinj hRo hk (va_up_self _ _ _) hpo hkd hwk
          rw [← hsv] at cT
          have hmo : s_md (sOpen k σ) = s_md σ := rfl
          refine lv_aload_n hx hb d_S_valueOf_98 rfl (lv_at hl 0 rfl) ?_
          refine lv_iload_n hx hb d_S_valueOf_99 rfl (lv_at hl 1 rfl) ?_
          refine va_calll (rn_V (n := 1) (As := [.int (nI k)]) (rest := []) (C := R_S) (T := F_S) (N := 9) (ci := 2) X hP hS (cT) k_368 k_370 k_14 k_57 k_371 (by decide +kernel) rfl rfl ⟨by dsimp only [rmV]; omega, by dsimp only [rmV]; omega⟩ g0 rfl rfl hl.1 rfl (Nat.le_of_ble_eq_true rfl) d_S_valueOf_100 ⟨by dsimp only [rmV, dm]; omega, by dsimp only [rmV, dm]; omega⟩) hS (fun q _ h => h) (fun q h => h) (fun r w101 tS H locs ht hvm hw hB hz1 hk1 hS => ?_)
          have hP : fw_P (dC, dI) cls_ (AA s0) w101 H := by rw [← ht]; exact hB
          obtain ⟨rfl, Fz1, rows1, hV1⟩ := hw
          have hV2 := VR.close c2 hoo hV1 (fun z hz => by have nb : ∀ i, i < 27 → z ≠ ad i := fun i hi e9 => hRo.blk i hi (e9 ▸ hz); rw [← hoo z nb]; exact hz)
          refine W.widen (k := 3 * dm σ G9.2) (n := 11 * dm σ G9.2) (by dsimp only [dm]; omega) (by dsimp only [dm]; omega) ?_
          exact W.lret (v := G9.1) hx hb hr (fun tS ht hW => ⟨⟨G9.1, w101, rfl, ⟨rfl, hV2.p⟩, mB_of ht hP⟩, hS.F ht⟩) hS.2.2 d_S_valueOf_103
        · rw [if_pos c4] at hsv
          refine lv_aload_n hx hb d_S_valueOf_76 rfl (lv_at hl 0 rfl) ?_
          refine lv_iload_n hx hb d_S_valueOf_77 rfl (lv_at hl 1 rfl) ?_
          refine lv_aload_n hx hb d_S_valueOf_78 rfl (lv_at hl 0 rfl) ?_
          refine va_get (D := (dC, dI)) (ci := 2) (v := .ref (ad 9)) (C := R_S) (T := F_S) (N := 9) hx hb hg in_S hown hK (hP.one g0) 0 rfl rfl 0 (by decide) (hg _ k_139) (fun _ h9 => h9) rfl d_S_valueOf_79 ?_
          refine va_getN (D := (dC, dI)) (ci := 1) (v := .ref (ad 11)) (C := R_P) (T := F_P) (N := 5) hx hb hg in_P hown hK (hP.one p0) 0 rfl rfl 1 (by decide) (hn _ u_88) (fun _ h9 => h9) rfl d_S_valueOf_82 ?_
          refine lv_iload_n hx hb d_S_valueOf_85 rfl (lv_at hl 1 rfl) ?_
          refine fw_lald (tys := tyl dA) hx hb hK hP p2 1 rfl (j := k) (by omega) (by decide) d_S_valueOf_86 ?_
          refine va_calll (rn_V (n := 2) (As := [.int (nI k), .long ((p_vl P) k)]) (rest := []) (C := R_S) (T := F_S) (N := 9) (ci := 2) X hP hS (c_S_finish B0 w ad Fz P wk rows σ k (p_vl P k) hinj hR0 hk) k_364 k_366 k_13 k_57 k_367 (by decide +kernel) rfl rfl ⟨by dsimp only [rmV]; omega, by dsimp only [rmV]; omega⟩ g0 rfl rfl hl.1 rfl (Nat.le_of_ble_eq_true rfl) d_S_valueOf_87 ⟨by dsimp only [rmV]; omega, by dsimp only [rmV]; omega⟩) hS (fun q _ h => h) (fun q h => h) (fun r w102 tS H locs ht hvm hw hB hz1 hk1 hS => ?_)
          have hP : fw_P (dC, dI) cls_ (AA s0) w102 H := by rw [← ht]; exact hB
          obtain ⟨rfl, hRf, hof⟩ := hw
          refine W.widen (k := 3 * dm σ G9.2) (n := 11 * dm σ G9.2) (by omega) (by omega) ?_
          exact W.lret (v := p_vl P k) hx hb hr (fun tS ht hW => ⟨⟨p_vl P k, w102, rfl, ⟨by rw [hsv], by rw [hsv]; exact (VQ.of hRf hof).p⟩, mB_of ht hP⟩, hS.F ht⟩) hS.2.2 d_S_valueOf_90
      · have hkd0 : p_kd P k = 0 := (nI_eq (by omega) (by decide)).mp c3
        rw [if_pos hkd0] at hsv
        refine lv_aload_n hx hb d_S_valueOf_57 rfl (lv_at hl 0 rfl) ?_
        refine lv_iconst (v := (nI 1)) hx hb d_S_valueOf_58 (by decide) ?_
        refine va_calll (rn_V (n := 1) (As := [.int (nI 1)]) (rest := []) (C := R_S) (T := F_S) (N := 9) (ci := 2) X hP hS (c_S_fail B0 w ad Fz P wk rows σ 1 hinj hR0 (by decide)) k_360 k_362 k_12 k_57 k_363 (by decide +kernel) rfl rfl ⟨by dsimp only [rmV]; omega, by dsimp only [rmV]; omega⟩ g0 rfl rfl hl.1 rfl (Nat.le_of_ble_eq_true rfl) d_S_valueOf_59 ⟨by dsimp only [rmV]; omega, by dsimp only [rmV]; omega⟩) hS (fun q _ h => h) (fun q h => h) (fun r w103 tS H locs ht hvm hw hB hz1 hk1 hS => ?_)
        have hP : fw_P (dC, dI) cls_ (AA s0) w103 H := by rw [← ht]; exact hB
        obtain ⟨rfl, hRf, hof⟩ := hw
        refine W.widen (k := 3 * dm σ G9.2) (n := 11 * dm σ G9.2) (by omega) (by omega) ?_
        exact W.lret (v := 0) hx hb hr (fun tS ht hW => ⟨⟨0, w103, rfl, ⟨by rw [hsv], by rw [hsv]; exact (VQ.of hRf hof).p⟩, mB_of ht hP⟩, hS.F ht⟩) hS.2.2 d_S_valueOf_62
    · rw [if_pos c2] at hsv
      obtain ⟨ft, pl, hM, hft, hpl⟩ := id hM4
      obtain ⟨fc, m1, m2, m3, m4, m16, mpl, mcn⟩ := id hM
      refine lv_aload_n hx hb d_S_valueOf_25 rfl (lv_at hl 0 rfl) ?_
      refine va_get (D := (dC, dI)) (ci := 2) (v := .ref (ad 5)) (C := R_S) (T := F_S) (N := 9) hx hb hg in_S hown hK (hP.one g0) 0 rfl rfl 1 (by decide) (hg _ k_140) (fun _ h9 => h9) rfl d_S_valueOf_26 ?_
      refine va_getN (D := (dC, dI)) (ci := 0) (v := .ref (ad 8)) (C := R_M) (T := F_M) (N := 4) hx hb hg in_M hown hK (hP.one m1) 0 rfl rfl 3 (by decide) (hn _ u_122) (fun _ h9 => h9) rfl d_S_valueOf_29 ?_
      refine lv_bipush (v := (nI 10)) hx hb d_S_valueOf_32 (by decide) ?_
      refine lv_dup2_11 hx hb d_S_valueOf_34 rfl rfl ?_
      refine fw_iald (tys := tyl dA) hx hb hK hP m4 0 rfl (j := 10) (by omega) (by decide) d_S_valueOf_35 ?_
      refine lv_iconst (v := (nI 1)) hx hb d_S_valueOf_36 (by decide) ?_
      refine lv_iadd hx hb d_S_valueOf_37 ?_
      refine fw_iast (tys := tyl dA) hx hb hK hP hS m4 0 rfl (j := 10) (x := (((s_ta σ) 10) + (nI 1))) (by omega) (by decide) d_S_valueOf_38 (fun w104 H locs ew105 hP hS => ?_)
      have g0 : w104 (ad 0) = some (.inr (2, [.ref (ad 9), .ref (ad 5), .int (nI wk), .ref (ad 1), .ref (ad 2), .ref (ad 3), .ref (ad 4), .int (nI (s_ran σ).toNat), .int (nI (s_fl σ))])) := by rw [ew105, va_up_ne _ _ (hinj.ne (i := 0) (j := 8) (by decide) (by decide) (by decide))]; exact g0
      have g1 : w104 (ad 1) = some (.inl (dA 2, 12, .inl (zf (s_fin σ)))) := by rw [ew105, va_up_ne _ _ (hinj.ne (i := 1) (j := 8) (by decide) (by decide) (by decide))]; exact g1
      have g2 : w104 (ad 2) = some (.inl (dA 2, 12, .inl (zf (s_opn σ)))) := by rw [ew105, va_up_ne _ _ (hinj.ne (i := 2) (j := 8) (by decide) (by decide) (by decide))]; exact g2
      have g3 : w104 (ad 3) = some (.inl (dA 1, 12, .inr (.inl vf))) := by rw [ew105, va_up_ne _ _ (hinj.ne (i := 3) (j := 8) (by decide) (by decide) (by decide))]; exact g3
      have g4 : w104 (ad 4) = some (.inl (dA 3, 192, .inr (.inr (.inr (.inr rows))))) := by rw [ew105, va_up_ne _ _ (hinj.ne (i := 4) (j := 8) (by decide) (by decide) (by decide))]; exact g4
      have p0 : w104 (ad 9) = some (.inr (1, [.ref (ad 10), .ref (ad 11), .ref (ad 12), .ref (ad 13), .ref (ad 14)])) := by rw [ew105, va_up_ne _ _ (hinj.ne (i := 9) (j := 8) (by decide) (by decide) (by decide))]; exact p0
      have p1 : w104 (ad 10) = some (.inl (dA 0, 12, .inl (nf (p_kd P)))) := by rw [ew105, va_up_ne _ _ (hinj.ne (i := 10) (j := 8) (by decide) (by decide) (by decide))]; exact p1
      have p2 : w104 (ad 11) = some (.inl (dA 1, 12, .inr (.inl (p_vl P)))) := by rw [ew105, va_up_ne _ _ (hinj.ne (i := 11) (j := 8) (by decide) (by decide) (by decide))]; exact p2
      have m1 : w104 (ad 5) = some (.inr (0, [.ref (ad 6), .ref (ad 7), .int (nI pl.length), .ref (ad 8)])) := by rw [ew105, va_up_ne _ _ (hinj.ne (i := 5) (j := 8) (by decide) (by decide) (by decide))]; exact m1
      have m2 : w104 (ad 6) = some (.inl (dA 3, 24, .inr (.inr (.inr (.inr ft))))) := by rw [ew105, va_up_ne _ _ (hinj.ne (i := 6) (j := 8) (by decide) (by decide) (by decide))]; exact m2
      have m3 : w104 (ad 7) = some (.inl (dA 3, 16, .inr (.inr (.inr (.inr fc))))) := by rw [ew105, va_up_ne _ _ (hinj.ne (i := 7) (j := 8) (by decide) (by decide) (by decide))]; exact m3
      have m4 : w104 (ad 8) = some (.inl (dA 0, 11, .inl (upd (s_ta σ) 10 (((s_ta σ) 10) + (nI 1))))) := by rw [ew105]; exact va_up_self _ _ _
      obtain ⟨hRt, hot⟩ := hR0.tal hinj ew105
      obtain ⟨⟨h0, -⟩, -⟩ := id hRt
      refine lv_aload_n hx hb d_S_valueOf_39 rfl (lv_at hl 0 rfl) ?_
      refine lv_iconst (v := (nI 3)) hx hb d_S_valueOf_40 (by decide) ?_
      refine va_calll (rn_V (n := 1) (As := [.int (nI 3)]) (rest := []) (C := R_S) (T := F_S) (N := 9) (ci := 2) X hP hS (c_S_fail B0 w104 ad Fz P wk rows (sTal 10 σ) 3 hinj hRt (by decide)) k_360 k_362 k_12 k_57 k_363 (by decide +kernel) rfl rfl ⟨by dsimp only [rmV]; omega, by dsimp only [rmV]; omega⟩ h0 rfl rfl hl.1 rfl (Nat.le_of_ble_eq_true rfl) d_S_valueOf_41 ⟨by dsimp only [rmV]; omega, by dsimp only [rmV]; omega⟩) hS (fun q _ h => h) (fun q h => h) (fun r w106 tS H locs ht hvm hw hB hz1 hk1 hS => ?_)
      have hP : fw_P (dC, dI) cls_ (AA s0) w106 H := by rw [← ht]; exact hB
      obtain ⟨rfl, hRf, hof⟩ := hw
      refine W.widen (k := 3 * dm σ G9.2) (n := 11 * dm σ G9.2) (by omega) (by omega) ?_
      exact W.lret (v := 0) hx hb hr (fun tS ht hW => ⟨⟨0, w106, rfl, ⟨by rw [hsv], by rw [hsv]; exact (VQ.of hRf (fun z hz => (hof z hz).trans (hot z hz))).p⟩, mB_of ht hP⟩, hS.F ht⟩) hS.2.2 d_S_valueOf_44
  · rw [if_pos c1] at hsv
    refine lv_aload_n hx hb d_S_valueOf_9 rfl (lv_at hl 0 rfl) ?_
    refine va_get (D := (dC, dI)) (ci := 2) (v := .ref (ad 3)) (C := R_S) (T := F_S) (N := 9) hx hb hg in_S hown hK (hP.one g0) 0 rfl rfl 5 (by decide) (hg _ k_144) (fun _ h9 => h9) rfl d_S_valueOf_10 ?_
    refine lv_iload_n hx hb d_S_valueOf_13 rfl (lv_at hl 1 rfl) ?_
    refine fw_lald (tys := tyl dA) hx hb hK hP g3 1 rfl (j := k) (by omega) (by decide) d_S_valueOf_14 ?_
    refine W.widen (k := 3 * dm σ G9.2) (n := 11 * dm σ G9.2) (by omega) (by omega) ?_
    exact W.lret (v := vf k) hx hb hr (fun tS ht hW => ⟨⟨vf k, w, rfl, ⟨by rw [hsv]; exact hvf k c1, by rw [hsv]; exact (VQ.rf hR0).p⟩, mB_of ht hP⟩, hS.F ht⟩) hS.2.2 d_S_valueOf_15
/-- valueOf, whatever is free -/
theorem VO_all {l : Launch} {s0 : State} {dC : Nat → ClassId} {dI : Nat → Nat → Nat} {dA : Nat → ClassId} (B0 : BB s0 dC dI dA) {ad : Nat → Nat} (hinj : Inj ad) {P : PD} (hpo : p_ok P) {wk : Nat} (hwk : wk < 2) : ∀ n, VO l s0 dC dI dA ad P wk n
  | 0 => fun w Fz rows σ k hR hk hfr => c_S_valueOf B0 w ad Fz P wk rows σ k 0 (fun n0 h => by omega) hinj hR hk hfr hpo hwk
  | n + 1 => fun w Fz rows σ k hR hk hfr => c_S_valueOf B0 w ad Fz P wk rows σ k (n + 1) (fun n0 h => by cases h; exact VO_all B0 hinj hpo hwk n) hinj hR hk hfr hpo hwk
