set_option maxHeartbeats 4000000 in
set_option maxRecDepth 100000 in
theorem c_S_taskValue {l : Launch} {s0 : State} {dC : Nat → ClassId} {dI : Nat → Nat → Nat} {dA : Nat → ClassId} (B0 : BB s0 dC dI dA) (w : fw_W) (ad : Nat → Nat) (Fz : Nat → Prop) (P : PD) (wk : Nat) (rows : Nat → Option Nat) (σ : SS) (k : Nat) (n0 : Nat) (IH : VO l s0 dC dI dA ad P wk n0) (hfr0 : fr12 σ ≤ n0) (hinj : Inj ad) (hR : RS dA ad Fz P wk rows w σ) (hk : k < 12) (hop : s_opn σ k = true) (hpo : p_ok P) (hkd : p_kd P k = 2) (hwk : wk < 2) : Met l y_S_taskValue [.code y_S_taskValue b_S_taskValue 4 (some .long)] ({ frames := 7 * n0 + 10, cells := 3 * (dm σ (taskV (sv P wk (n0 + 1)) P wk k σ).2), slots := 11 * (dm σ (taskV (sv P wk (n0 + 1)) P wk k σ).2), locals := 210 * n0 + 240 }) (mP s0 dC dI w [.ref (ad 0), .int (nI k)]) (mQl s0 dC dI (fun r w' => r = (taskV (sv P wk (n0 + 1)) P wk k σ).1 ∧ ∃ (Fz' : Nat → Prop) (rows' : Nat → Option Nat), VR dA ad P wk k Fz rows w σ Fz' rows' w' (taskV (sv P wk (n0 + 1)) P wk k σ).2)) (3 * (dm σ (taskV (sv P wk (n0 + 1)) P wk k σ).2)) (11 * (dm σ (taskV (sv P wk (n0 + 1)) P wk k σ).2)) (AA s0) := by
  have hR0 := hR
  have hbk := hR.blk
  generalize hG : taskV (sv P wk (n0 + 1)) P wk k σ = G9
  refine mt_ofW B0 (by decide) (Nat.le_of_ble_eq_true rfl) (fun p e s m args below meth c ls hargs X hin hl hP => ?_)
  have X9 := X
  obtain ⟨hx, hb, hr, hml, hown, hg, hK, hn, hE, hlocks, hA⟩ := X9
  have hS : va_S (AA s0) s.heap s.heap [] := va_S.rf
  have hl : lv_has ls 4 [(0, .ref (ad 0)), (1, .int (nI k))] := hl
  obtain ⟨⟨g0, g1, g2, ⟨vf, g3, hvf⟩, g4⟩, hM4, hP6, hnF, hfl⟩ := hR
  obtain ⟨ft, pl, hM, hft, hpl⟩ := id hM4
  obtain ⟨fc, m1, m2, m3, m4, m16, mpl, mcn⟩ := id hM
  have hft9 := hft (wk * 12 + k) (by omega)
  refine lv_aload_n hx hb d_S_taskValue_0 rfl (lv_at hl 0 rfl) ?_
  refine va_get (D := (dC, dI)) (ci := 2) (v := .ref (ad 5)) (C := R_S) (T := F_S) (N := 9) hx hb hg in_S hown hK (hP.one g0) 0 rfl rfl 1 (by decide) (hg _ k_140) (fun _ h9 => h9) rfl d_S_taskValue_1 ?_
  refine lv_aload_n hx hb d_S_taskValue_4 rfl (lv_at hl 0 rfl) ?_
  refine va_get (D := (dC, dI)) (ci := 2) (v := .int (nI wk)) (C := R_S) (T := F_S) (N := 9) hx hb hg in_S hown hK (hP.one g0) 0 rfl rfl 2 (by decide) (hg _ k_141) (fun _ h9 => h9) rfl d_S_taskValue_5 ?_
  refine lv_iload_n hx hb d_S_taskValue_8 rfl (lv_at hl 1 rfl) ?_
  refine va_callq (rn_VN (n := 2) (As := [.int (nI wk), .int (nI k)]) (rest := []) (C := R_M) (T := F_M) (N := 4) (ci := 0) X hP hS (c_M_traceOf B0 w (ad 5) (ad 6) (ad 7) (ad 8) ft pl (s_ta σ) wk k hM hwk hk) u_372 k_193 k_1 k_56 k_194 (by decide +kernel) rfl rfl ⟨by dsimp only; omega, by dsimp only; omega⟩ m1 rfl rfl hl.1 rfl (Nat.le_of_ble_eq_true rfl) d_S_taskValue_9 ⟨Nat.zero_le _, Nat.zero_le _⟩) hS (fun q _ h => h) (fun q h => h) (fun r w80 tS H locs ht hvm hw hB hz1 hk1 hS => ?_)
  have hP : fw_P (dC, dI) cls_ (AA s0) w80 H := by rw [← ht]; exact hB
  obtain ⟨ew8, er8⟩ := hw
  rw [ew8] at hP
  rcases r with _ | t
  · rw [← er8] at hft9
    rcases htr : s_tr σ (wk * 12 + k) with _ | T
    · have heq9 : nextV (sv P wk (n0 + 1)) P wk k σ = G9 := by rw [← hG]; unfold taskV; rw [htr]; rfl
      refine lv_astore_nN (lv' := [(2, .null), (0, .ref (ad 0)), (1, .int (nI k))]) hx hb d_S_taskValue_12 rfl hl (by decide) rfl (fun ls hl => ?_)
      refine lv_aload_nN hx hb d_S_taskValue_13 rfl (lv_at hl 0 rfl) ?_
      refine lv_ifnullN (tgt := 48) hx hb d_S_taskValue_14 (by decide) ?_
      have hKc := Kp_cand (Kp_sv P wk (n0 + 1)) (entV k (s_cl σ)) σ
      have hmc := hKc.2.2.1
      have hmt := (Kp.rf σ).2.2.1
      have hmn := md_next P wk (n0 + 1) k σ
      rw [heq9] at hmn
      have cE := c_S_agrEntry B0 w ad Fz P wk rows σ k n0 IH (Nat.le_trans (Kp.rf σ).fr hfr0) hinj (VQ.r (k := k) (VQ.rf hR0)).1 hk ((Kp.rf σ).1 k hop)
      unfold nextV at heq9
      generalize hC : candV (sv P wk (n0 + 1)) (entV k (s_cl σ)) σ = C9 at hKc hmc hmn heq9 cE
      obtain ⟨⟨g0, g1, g2, ⟨vf, g3, hvf⟩, g4⟩, hM4, hP6, hnF, hfl⟩ := id (VQ.r (k := k) (VQ.rf hR0)).1
      refine lv_aload_n hx hb d_S_taskValue_48 rfl (lv_at hl 1 rfl) ?_
      refine lv_iload_n hx hb d_S_taskValue_49 rfl (lv_at hl 2 rfl) ?_
      refine va_callq (rn_V (n := 1) (As := [.int (nI k)]) (rest := []) (C := R_S) (T := F_S) (N := 9) (ci := 2) X hP hS (cE) k_381 k_383 k_17 k_57 k_384 (by decide +kernel) rfl rfl ⟨by dsimp only; omega, by dsimp only; omega⟩ g0 rfl rfl hl.1 rfl (Nat.le_of_ble_eq_true rfl) d_S_taskValue_50 ⟨by dsimp only [dm]; omega, by dsimp only [dm]; omega⟩) hS (fun q _ h => h) (fun q h => h) (fun r w81 tS H locs ht hvm hw hB hz1 hk1 hS => ?_)
      have hP : fw_P (dC, dI) cls_ (AA s0) w81 H := by rw [← ht]; exact hB
      obtain ⟨Fz5, rows5, hV5, hr5⟩ := hw
      have hV6 := VR.tr (VQ.r (k := k) (VQ.rf hR0)) hV5 (Kp.rf σ).1 hbk
      have hK6 := (Kp.rf σ).tr hKc
      rcases r with _ | t5
      · rcases hc1 : C9.1 with _ | T5
        · rw [hc1] at heq9
          replace heq9 : (if s_fl C9.2 = 0 then runV (sv P wk (n0 + 1)) P wk k C9.2 else (0, C9.2)) = G9 := heq9
          refine lv_astore_nN (lv' := [(3, .null), (2, .null), (0, .ref (ad 0)), (1, .int (nI k))]) hx hb d_S_taskValue_53 rfl hl (by decide) rfl (fun ls hl => ?_)
          refine lv_aload_nN hx hb d_S_taskValue_54 rfl (lv_at hl 0 rfl) ?_
          refine lv_ifnullN (tgt := 93) hx hb d_S_taskValue_55 (by decide) ?_
          obtain ⟨⟨g0, g1, g2, ⟨vf, g3, hvf⟩, g4⟩, hM4, hP6, hnF, hfl⟩ := id hV5.1
          refine lv_aload_n hx hb d_S_taskValue_93 rfl (lv_at hl 2 rfl) ?_
          refine va_calli (rn_V (n := 0) (As := []) (rest := []) (C := R_S) (T := F_S) (N := 9) (ci := 2) X hP hS (c_S_hasFailed B0 w81 ad Fz5 P wk rows5 C9.2 hinj hV5.1) k_377 k_379 k_16 k_57 k_380 (by decide +kernel) rfl rfl ⟨by dsimp only; omega, by dsimp only; omega⟩ g0 rfl rfl hl.1 rfl (Nat.le_of_ble_eq_true rfl) d_S_taskValue_94 ⟨by dsimp only [dm]; omega, by dsimp only [dm]; omega⟩) hS (fun q _ h => h) (fun q h => h) (fun r w82 tS H locs ht hvm hw hB hz1 hk1 hS => ?_)
          have hP : fw_P (dC, dI) cls_ (AA s0) w82 H := by rw [← ht]; exact hB
          obtain ⟨ew8, b8, rfl, hb8⟩ := hw
          rw [ew8] at hP
          refine nu_ifeq (tgt := 104) hx hb d_S_taskValue_97 (by decide) (fun c8 => ?_) (fun c8 => ?_)
          · have hf0 : s_fl C9.2 = 0 := Classical.byContradiction fun h => by rw [hb8.mpr h] at c8; cases c8
            rw [if_pos hf0] at heq9
            have hmr := md_run P wk (n0 + 1) k C9.2
            rw [heq9] at hmr
            have cT := c_S_runTask B0 w81 ad Fz5 P wk rows5 C9.2 k n0 IH (Nat.le_trans hK6.fr hfr0) hinj hV5.1 hk hpo hkd hwk
            rw [heq9] at cT
            refine lv_aload_n hx hb d_S_taskValue_104 rfl (lv_at hl 2 rfl) ?_
            refine lv_iload_n hx hb d_S_taskValue_105 rfl (lv_at hl 3 rfl) ?_
            refine va_calll (rn_V (n := 1) (As := [.int (nI k)]) (rest := []) (C := R_S) (T := F_S) (N := 9) (ci := 2) X hP hS (cT) k_393 k_395 k_20 k_57 k_396 (by decide +kernel) rfl rfl ⟨by dsimp only; omega, by dsimp only; omega⟩ g0 rfl rfl hl.1 rfl (Nat.le_of_ble_eq_true rfl) d_S_taskValue_106 ⟨by dsimp only [dm]; omega, by dsimp only [dm]; omega⟩) hS (fun q _ h => h) (fun q h => h) (fun r w83 tS H locs ht hvm hw hB hz1 hk1 hS => ?_)
            have hP : fw_P (dC, dI) cls_ (AA s0) w83 H := by rw [← ht]; exact hB
            obtain ⟨rfl, Fz7, rows7, hV7⟩ := hw
            refine W.widen (k := 3 * dm σ G9.2) (n := 11 * dm σ G9.2) (by unfold dm; omega) (by unfold dm; omega) ?_
            exact W.lret (v := G9.1) hx hb hr (fun tS ht hW => ⟨⟨G9.1, w83, rfl, ⟨rfl, Fz7, rows7, VR.tr hV6 (VQ.r hV7) hK6.1 hbk⟩, mB_of ht hP⟩, hS.F ht⟩) hS.2.2 d_S_taskValue_109
          · rw [if_neg (hb8.mp c8)] at heq9
            refine lv_lconst (v := 0) hx hb d_S_taskValue_100 (by decide) ?_
            refine lv_goto (tgt := 109) hx hb d_S_taskValue_101 (by decide) ?_
            refine W.widen (k := 3 * dm σ G9.2) (n := 11 * dm σ G9.2) (by unfold dm; omega) (by unfold dm; omega) ?_
            exact W.lret (v := 0) hx hb hr (fun tS ht hW => ⟨⟨0, w81, rfl, ⟨by rw [← heq9], Fz5, rows5, by rw [← heq9]; exact hV6⟩, mB_of ht hP⟩, hS.F ht⟩) hS.2.2 d_S_taskValue_109
        · rw [hc1] at hr5; exact absurd hr5 id
      · rcases hc1 : C9.1 with _ | T5
        · rw [hc1] at hr5; exact absurd hr5 id
        · rw [hc1] at heq9 hr5
          replace heq9 : (T5.2.2, sFin k T5.2.2 (sGive (wk * 12 + T5.1) T5 (sTal 2 C9.2))) = G9 := heq9
          have hi5 : isT dA Fz5 _ t5 T5 := hr5
          refine lv_astore_n (lv' := [(3, .ref t5), (2, .null), (0, .ref (ad 0)), (1, .int (nI k))]) hx hb d_S_taskValue_53 rfl hl (by decide) rfl (fun ls hl => ?_)
          refine lv_aload_n hx hb d_S_taskValue_54 rfl (lv_at hl 0 rfl) ?_
          refine lv_ifnull hx hb d_S_taskValue_55 ?_
          obtain ⟨⟨g0, g1, g2, ⟨vf, g3, hvf⟩, g4⟩, hM4, hP6, hnF, hfl⟩ := id hV5.1
          obtain ⟨ft, pl, hM, hft, hpl⟩ := id hM4
          obtain ⟨fc, m1, m2, m3, m4, m16, mpl, mcn⟩ := id hM
          refine lv_aload_n hx hb d_S_taskValue_58 rfl (lv_at hl 2 rfl) ?_
          refine va_get (D := (dC, dI)) (ci := 2) (v := .ref (ad 5)) (C := R_S) (T := F_S) (N := 9) hx hb hg in_S hown hK (hP.one g0) 0 rfl rfl 1 (by decide) (hg _ k_140) (fun _ h9 => h9) rfl d_S_taskValue_59 ?_
          refine va_getN (D := (dC, dI)) (ci := 0) (v := .ref (ad 8)) (C := R_M) (T := F_M) (N := 4) hx hb hg in_M hown hK (hP.one m1) 0 rfl rfl 3 (by decide) (hn _ u_122) (fun _ h9 => h9) rfl d_S_taskValue_62 ?_
          refine lv_iconst (v := (nI 2)) hx hb d_S_taskValue_65 (by decide) ?_
          refine lv_dup2_11 hx hb d_S_taskValue_66 rfl rfl ?_
          refine fw_iald (tys := tyl dA) hx hb hK hP m4 0 rfl (j := 2) (by omega) (by decide) d_S_taskValue_67 ?_
          refine lv_iconst (v := (nI 1)) hx hb d_S_taskValue_68 (by decide) ?_
          refine lv_iadd hx hb d_S_taskValue_69 ?_
          refine fw_iast (tys := tyl dA) hx hb hK hP hS m4 0 rfl (j := 2) (x := (((s_ta C9.2) 2) + (nI 1))) (by omega) (by decide) d_S_taskValue_70 (fun w84 H locs ew85 hP hS => ?_)
          have g0 : w84 (ad 0) = some (.inr (2, [.ref (ad 9), .ref (ad 5), .int (nI wk), .ref (ad 1), .ref (ad 2), .ref (ad 3), .ref (ad 4), .int (nI (s_ran C9.2).toNat), .int (nI (s_fl C9.2))])) := by rw [ew85, va_up_ne _ _ (hinj.ne (i := 0) (j := 8) (by decide) (by decide) (by decide))]; exact g0
          have g1 : w84 (ad 1) = some (.inl (dA 2, 12, .inl (zf (s_fin C9.2)))) := by rw [ew85, va_up_ne _ _ (hinj.ne (i := 1) (j := 8) (by decide) (by decide) (by decide))]; exact g1
          have g2 : w84 (ad 2) = some (.inl (dA 2, 12, .inl (zf (s_opn C9.2)))) := by rw [ew85, va_up_ne _ _ (hinj.ne (i := 2) (j := 8) (by decide) (by decide) (by decide))]; exact g2
          have g3 : w84 (ad 3) = some (.inl (dA 1, 12, .inr (.inl vf))) := by rw [ew85, va_up_ne _ _ (hinj.ne (i := 3) (j := 8) (by decide) (by decide) (by decide))]; exact g3
          have g4 : w84 (ad 4) = some (.inl (dA 3, 192, .inr (.inr (.inr (.inr rows5))))) := by rw [ew85, va_up_ne _ _ (hinj.ne (i := 4) (j := 8) (by decide) (by decide) (by decide))]; exact g4
          have m1 : w84 (ad 5) = some (.inr (0, [.ref (ad 6), .ref (ad 7), .int (nI pl.length), .ref (ad 8)])) := by rw [ew85, va_up_ne _ _ (hinj.ne (i := 5) (j := 8) (by decide) (by decide) (by decide))]; exact m1
          have m2 : w84 (ad 6) = some (.inl (dA 3, 24, .inr (.inr (.inr (.inr ft))))) := by rw [ew85, va_up_ne _ _ (hinj.ne (i := 6) (j := 8) (by decide) (by decide) (by decide))]; exact m2
          have m3 : w84 (ad 7) = some (.inl (dA 3, 16, .inr (.inr (.inr (.inr fc))))) := by rw [ew85, va_up_ne _ _ (hinj.ne (i := 7) (j := 8) (by decide) (by decide) (by decide))]; exact m3
          have m4 : w84 (ad 8) = some (.inl (dA 0, 11, .inl (upd (s_ta C9.2) 2 (((s_ta C9.2) 2) + (nI 1))))) := by rw [ew85]; exact va_up_self _ _ _
          obtain ⟨hRt, hot⟩ := hV5.1.tal hinj ew85
          have hi6 := hi5.kept (hV5.1.fz hot) (fun _ h => h)
          obtain ⟨ft6, pl6, hM6, hft6, hpl6⟩ := id hRt.2.1
          obtain ⟨fc6, m16_, -⟩ := id hM6
          obtain ⟨⟨h0, -⟩, -⟩ := id hRt
          refine lv_aload_n hx hb d_S_taskValue_71 rfl (lv_at hl 2 rfl) ?_
          refine va_get (D := (dC, dI)) (ci := 2) (v := .ref (ad 5)) (C := R_S) (T := F_S) (N := 9) hx hb hg in_S hown hK (hP.one h0) 0 rfl rfl 1 (by decide) (hg _ k_140) (fun _ h9 => h9) rfl d_S_taskValue_72 ?_
          refine lv_aload_n hx hb d_S_taskValue_75 rfl (lv_at hl 2 rfl) ?_
          refine va_get (D := (dC, dI)) (ci := 2) (v := .int (nI wk)) (C := R_S) (T := F_S) (N := 9) hx hb hg in_S hown hK (hP.one h0) 0 rfl rfl 2 (by decide) (hg _ k_141) (fun _ h9 => h9) rfl d_S_taskValue_76 ?_
          refine lv_aload_n hx hb d_S_taskValue_79 rfl (lv_at hl 0 rfl) ?_
          refine va_callv (rn_VN (n := 2) (As := [.int (nI wk), .ref t5]) (rest := []) (C := R_M) (T := F_M) (N := 4) (ci := 0) X hP hS (c_M_give B0 w84 (ad 5) (ad 6) (ad 7) (ad 8) ft6 pl6 (s_ta (sTal 2 C9.2)) wk t5 T5.1 hM6 hwk hi6.2 hi6.o) u_389 k_391 k_19 k_56 k_392 (by decide +kernel) rfl rfl ⟨by dsimp only; omega, by dsimp only; omega⟩ m16_ rfl rfl hl.1 rfl (Nat.le_of_ble_eq_true rfl) d_S_taskValue_80 ⟨by dsimp only [dm]; omega, by dsimp only [dm]; omega⟩) hS (fun q _ h => h) (fun q h => h) (fun w86 tS H locs ht hvm hw hB hz1 hk1 hS => ?_)
          have hP : fw_P (dC, dI) cls_ (AA s0) w86 H := by rw [← ht]; exact hB
          obtain ⟨hM7, hfr7⟩ := hw
          obtain ⟨hRg, hog⟩ := RS.give hinj hRt hft6 hpl6 hi6 hM7 hfr7
          have hi7 := hi6.kept (hRt.fz hog) (fun _ h => h)
          obtain ⟨⟨kt7, vt7, ⟨fk7, fv7, t7, -⟩, -⟩, -⟩ := id hi7
          obtain ⟨⟨h0, -⟩, -⟩ := id hRg
          refine lv_aload_n hx hb d_S_taskValue_83 rfl (lv_at hl 2 rfl) ?_
          refine lv_iload_n hx hb d_S_taskValue_84 rfl (lv_at hl 3 rfl) ?_
          refine lv_aload_n hx hb d_S_taskValue_85 rfl (lv_at hl 0 rfl) ?_
          refine va_getN (D := (dC, dI)) (ci := 3) (v := .long T5.2.2) (C := R_T) (T := F_T) (N := 5) hx hb hg in_T hown hK (hP.one t7) 0 rfl rfl 4 (by decide) (hn _ u_415) (fun _ h9 => h9) rfl d_S_taskValue_86 ?_
          refine va_calll (rn_V (n := 2) (As := [.int (nI k), .long T5.2.2]) (rest := []) (C := R_S) (T := F_S) (N := 9) (ci := 2) X hP hS (c_S_finish B0 w86 ad Fz5 P wk rows5 (sGive (wk * 12 + T5.1) T5 (sTal 2 C9.2)) k T5.2.2 hinj hRg hk) k_364 k_366 k_13 k_57 k_367 (by decide +kernel) rfl rfl ⟨by dsimp only; omega, by dsimp only; omega⟩ h0 rfl rfl hl.1 rfl (Nat.le_of_ble_eq_true rfl) d_S_taskValue_89 ⟨by dsimp only [dm]; omega, by dsimp only [dm]; omega⟩) hS (fun q _ h => h) (fun q h => h) (fun r w87 tS H locs ht hvm hw hB hz1 hk1 hS => ?_)
          have hP : fw_P (dC, dI) cls_ (AA s0) w87 H := by rw [← ht]; exact hB
          obtain ⟨rfl, hRf, hof⟩ := hw
          have hVf : VQ dA ad P wk Fz5 rows5 w81 C9.2 Fz5 rows5 w87 (sFin k T5.2.2 (sGive (wk * 12 + T5.1) T5 (sTal 2 C9.2))) := VQ.of hRf (fun z hz => (hof z hz).trans ((hog z hz).trans (hot z hz)))
          refine W.widen (k := 3 * dm σ G9.2) (n := 11 * dm σ G9.2) (by unfold dm; omega) (by unfold dm; omega) ?_
          exact W.lret (v := T5.2.2) hx hb hr (fun tS ht hW => ⟨⟨T5.2.2, w87, rfl, ⟨by rw [← heq9], Fz5, rows5, by rw [← heq9]; exact VR.tr hV6 hVf.r hK6.1 hbk⟩, mB_of ht hP⟩, hS.F ht⟩) hS.2.2 d_S_taskValue_92
    · rw [htr] at hft9; exact absurd hft9 id
  · rw [← er8] at hft9
    rcases htr : s_tr σ (wk * 12 + k) with _ | T
    · rw [htr] at hft9; exact absurd hft9 id
    · rw [htr] at hft9
      have hiT : isT dA Fz w t T := hft9
      have hKa := Kp_agr (Kp_sv P wk (n0 + 1)) T.2.1 σ
      have cA := c_S_agrees B0 w ad Fz P wk rows σ t T n0 IH hfr0 hinj hR0 hiT
      have hG2 : (if (agrV (sv P wk (n0 + 1)) T.2.1 σ).1 = true then (T.2.2, sFin k T.2.2 (sTal 1 (agrV (sv P wk (n0 + 1)) T.2.1 σ).2)) else nextV (sv P wk (n0 + 1)) P wk k (agrV (sv P wk (n0 + 1)) T.2.1 σ).2) = G9 := by rw [← hG]; unfold taskV; rw [htr]; rfl
      generalize hA : agrV (sv P wk (n0 + 1)) T.2.1 σ = A9 at hKa cA hG2
      have hma := hKa.2.2.1
      have hmA : s_md A9.2 ≤ s_md G9.2 := by
        rw [← hG2]; split
        · exact Nat.le_refl _
        · exact Nat.le_trans (Kp_cand (Kp_sv P wk (n0 + 1)) _ A9.2).2.2.1 (md_next P wk (n0 + 1) k A9.2)
      refine lv_astore_n (lv' := [(2, .ref t), (0, .ref (ad 0)), (1, .int (nI k))]) hx hb d_S_taskValue_12 rfl hl (by decide) rfl (fun ls hl => ?_)
      refine lv_aload_n hx hb d_S_taskValue_13 rfl (lv_at hl 0 rfl) ?_
      refine lv_ifnull hx hb d_S_taskValue_14 ?_
      refine lv_aload_n hx hb d_S_taskValue_17 rfl (lv_at hl 1 rfl) ?_
      refine lv_aload_n hx hb d_S_taskValue_18 rfl (lv_at hl 0 rfl) ?_
      refine va_calli (rn_V (n := 1) (As := [.ref t]) (rest := []) (C := R_S) (T := F_S) (N := 9) (ci := 2) X hP hS (cA) k_373 k_375 k_15 k_57 k_376 (by decide +kernel) rfl rfl ⟨by dsimp only; omega, by dsimp only; omega⟩ g0 rfl rfl hl.1 rfl (Nat.le_of_ble_eq_true rfl) d_S_taskValue_19 ⟨by dsimp only [dm]; omega, by dsimp only [dm]; omega⟩) hS (fun q _ h => h) (fun q h => h) (fun r w88 tS H locs ht hvm hw hB hz1 hk1 hS => ?_)
      have hP : fw_P (dC, dI) cls_ (AA s0) w88 H := by rw [← ht]; exact hB
      obtain ⟨rfl, Fz1, rows1, hV1⟩ := hw
      refine nu_ifeq (tgt := 48) hx hb d_S_taskValue_22 (by decide) (fun c1 => ?_) (fun c1 => ?_)
      · rw [if_neg (by rw [c1]; decide)] at hG2
        have heq9 := hG2
        have hKc := Kp_cand (Kp_sv P wk (n0 + 1)) (entV k (s_cl A9.2)) A9.2
        have hmc := hKc.2.2.1
        have hmt := (hKa).2.2.1
        have hmn := md_next P wk (n0 + 1) k A9.2
        rw [heq9] at hmn
        have cE := c_S_agrEntry B0 w88 ad Fz1 P wk rows1 A9.2 k n0 IH (Nat.le_trans (hKa).fr hfr0) hinj (VQ.r (k := k) hV1).1 hk ((hKa).1 k hop)
        unfold nextV at heq9
        generalize hC : candV (sv P wk (n0 + 1)) (entV k (s_cl A9.2)) A9.2 = C9 at hKc hmc hmn heq9 cE
        obtain ⟨⟨g0, g1, g2, ⟨vf, g3, hvf⟩, g4⟩, hM4, hP6, hnF, hfl⟩ := id (VQ.r (k := k) hV1).1
        refine lv_aload_n hx hb d_S_taskValue_48 rfl (lv_at hl 1 rfl) ?_
        refine lv_iload_n hx hb d_S_taskValue_49 rfl (lv_at hl 2 rfl) ?_
        refine va_callq (rn_V (n := 1) (As := [.int (nI k)]) (rest := []) (C := R_S) (T := F_S) (N := 9) (ci := 2) X hP hS (cE) k_381 k_383 k_17 k_57 k_384 (by decide +kernel) rfl rfl ⟨by dsimp only; omega, by dsimp only; omega⟩ g0 rfl rfl hl.1 rfl (Nat.le_of_ble_eq_true rfl) d_S_taskValue_50 ⟨by dsimp only [dm]; omega, by dsimp only [dm]; omega⟩) hS (fun q _ h => h) (fun q h => h) (fun r w89 tS H locs ht hvm hw hB hz1 hk1 hS => ?_)
        have hP : fw_P (dC, dI) cls_ (AA s0) w89 H := by rw [← ht]; exact hB
        obtain ⟨Fz5, rows5, hV5, hr5⟩ := hw
        have hV6 := VR.tr (VQ.r (k := k) hV1) hV5 (hKa).1 hbk
        have hK6 := (hKa).tr hKc
        rcases r with _ | t5
        · rcases hc1 : C9.1 with _ | T5
          · rw [hc1] at heq9
            replace heq9 : (if s_fl C9.2 = 0 then runV (sv P wk (n0 + 1)) P wk k C9.2 else (0, C9.2)) = G9 := heq9
            refine lv_astore_nN (lv' := [(3, .null), (2, .ref t), (0, .ref (ad 0)), (1, .int (nI k))]) hx hb d_S_taskValue_53 rfl hl (by decide) rfl (fun ls hl => ?_)
            refine lv_aload_nN hx hb d_S_taskValue_54 rfl (lv_at hl 0 rfl) ?_
            refine lv_ifnullN (tgt := 93) hx hb d_S_taskValue_55 (by decide) ?_
            obtain ⟨⟨g0, g1, g2, ⟨vf, g3, hvf⟩, g4⟩, hM4, hP6, hnF, hfl⟩ := id hV5.1
            refine lv_aload_n hx hb d_S_taskValue_93 rfl (lv_at hl 2 rfl) ?_
            refine va_calli (rn_V (n := 0) (As := []) (rest := []) (C := R_S) (T := F_S) (N := 9) (ci := 2) X hP hS (c_S_hasFailed B0 w89 ad Fz5 P wk rows5 C9.2 hinj hV5.1) k_377 k_379 k_16 k_57 k_380 (by decide +kernel) rfl rfl ⟨by dsimp only; omega, by dsimp only; omega⟩ g0 rfl rfl hl.1 rfl (Nat.le_of_ble_eq_true rfl) d_S_taskValue_94 ⟨by dsimp only [dm]; omega, by dsimp only [dm]; omega⟩) hS (fun q _ h => h) (fun q h => h) (fun r w90 tS H locs ht hvm hw hB hz1 hk1 hS => ?_)
            have hP : fw_P (dC, dI) cls_ (AA s0) w90 H := by rw [← ht]; exact hB
            obtain ⟨ew8, b8, rfl, hb8⟩ := hw
            rw [ew8] at hP
            refine nu_ifeq (tgt := 104) hx hb d_S_taskValue_97 (by decide) (fun c8 => ?_) (fun c8 => ?_)
            · have hf0 : s_fl C9.2 = 0 := Classical.byContradiction fun h => by rw [hb8.mpr h] at c8; cases c8
              rw [if_pos hf0] at heq9
              have hmr := md_run P wk (n0 + 1) k C9.2
              rw [heq9] at hmr
              have cT := c_S_runTask B0 w89 ad Fz5 P wk rows5 C9.2 k n0 IH (Nat.le_trans hK6.fr hfr0) hinj hV5.1 hk hpo hkd hwk
              rw [heq9] at cT
              refine lv_aload_n hx hb d_S_taskValue_104 rfl (lv_at hl 2 rfl) ?_
              refine lv_iload_n hx hb d_S_taskValue_105 rfl (lv_at hl 3 rfl) ?_
              refine va_calll (rn_V (n := 1) (As := [.int (nI k)]) (rest := []) (C := R_S) (T := F_S) (N := 9) (ci := 2) X hP hS (cT) k_393 k_395 k_20 k_57 k_396 (by decide +kernel) rfl rfl ⟨by dsimp only; omega, by dsimp only; omega⟩ g0 rfl rfl hl.1 rfl (Nat.le_of_ble_eq_true rfl) d_S_taskValue_106 ⟨by dsimp only [dm]; omega, by dsimp only [dm]; omega⟩) hS (fun q _ h => h) (fun q h => h) (fun r w91 tS H locs ht hvm hw hB hz1 hk1 hS => ?_)
              have hP : fw_P (dC, dI) cls_ (AA s0) w91 H := by rw [← ht]; exact hB
              obtain ⟨rfl, Fz7, rows7, hV7⟩ := hw
              refine W.widen (k := 3 * dm σ G9.2) (n := 11 * dm σ G9.2) (by unfold dm; omega) (by unfold dm; omega) ?_
              exact W.lret (v := G9.1) hx hb hr (fun tS ht hW => ⟨⟨G9.1, w91, rfl, ⟨rfl, Fz7, rows7, VR.tr hV6 (VQ.r hV7) hK6.1 hbk⟩, mB_of ht hP⟩, hS.F ht⟩) hS.2.2 d_S_taskValue_109
            · rw [if_neg (hb8.mp c8)] at heq9
              refine lv_lconst (v := 0) hx hb d_S_taskValue_100 (by decide) ?_
              refine lv_goto (tgt := 109) hx hb d_S_taskValue_101 (by decide) ?_
              refine W.widen (k := 3 * dm σ G9.2) (n := 11 * dm σ G9.2) (by unfold dm; omega) (by unfold dm; omega) ?_
              exact W.lret (v := 0) hx hb hr (fun tS ht hW => ⟨⟨0, w89, rfl, ⟨by rw [← heq9], Fz5, rows5, by rw [← heq9]; exact hV6⟩, mB_of ht hP⟩, hS.F ht⟩) hS.2.2 d_S_taskValue_109
          · rw [hc1] at hr5; exact absurd hr5 id
        · rcases hc1 : C9.1 with _ | T5
          · rw [hc1] at hr5; exact absurd hr5 id
          · rw [hc1] at heq9 hr5
            replace heq9 : (T5.2.2, sFin k T5.2.2 (sGive (wk * 12 + T5.1) T5 (sTal 2 C9.2))) = G9 := heq9
            have hi5 : isT dA Fz5 _ t5 T5 := hr5
            refine lv_astore_n (lv' := [(3, .ref t5), (2, .ref t), (0, .ref (ad 0)), (1, .int (nI k))]) hx hb d_S_taskValue_53 rfl hl (by decide) rfl (fun ls hl => ?_)
            refine lv_aload_n hx hb d_S_taskValue_54 rfl (lv_at hl 0 rfl) ?_
            refine lv_ifnull hx hb d_S_taskValue_55 ?_
            obtain ⟨⟨g0, g1, g2, ⟨vf, g3, hvf⟩, g4⟩, hM4, hP6, hnF, hfl⟩ := id hV5.1
            obtain ⟨ft, pl, hM, hft, hpl⟩ := id hM4
            obtain ⟨fc, m1, m2, m3, m4, m16, mpl, mcn⟩ := id hM
            refine lv_aload_n hx hb d_S_taskValue_58 rfl (lv_at hl 2 rfl) ?_
            refine va_get (D := (dC, dI)) (ci := 2) (v := .ref (ad 5)) (C := R_S) (T := F_S) (N := 9) hx hb hg in_S hown hK (hP.one g0) 0 rfl rfl 1 (by decide) (hg _ k_140) (fun _ h9 => h9) rfl d_S_taskValue_59 ?_
            refine va_getN (D := (dC, dI)) (ci := 0) (v := .ref (ad 8)) (C := R_M) (T := F_M) (N := 4) hx hb hg in_M hown hK (hP.one m1) 0 rfl rfl 3 (by decide) (hn _ u_122) (fun _ h9 => h9) rfl d_S_taskValue_62 ?_
            refine lv_iconst (v := (nI 2)) hx hb d_S_taskValue_65 (by decide) ?_
            refine lv_dup2_11 hx hb d_S_taskValue_66 rfl rfl ?_
            refine fw_iald (tys := tyl dA) hx hb hK hP m4 0 rfl (j := 2) (by omega) (by decide) d_S_taskValue_67 ?_
            refine lv_iconst (v := (nI 1)) hx hb d_S_taskValue_68 (by decide) ?_
            refine lv_iadd hx hb d_S_taskValue_69 ?_
            refine fw_iast (tys := tyl dA) hx hb hK hP hS m4 0 rfl (j := 2) (x := (((s_ta C9.2) 2) + (nI 1))) (by omega) (by decide) d_S_taskValue_70 (fun w92 H locs ew93 hP hS => ?_)
            have g0 : w92 (ad 0) = some (.inr (2, [.ref (ad 9), .ref (ad 5), .int (nI wk), .ref (ad 1), .ref (ad 2), .ref (ad 3), .ref (ad 4), .int (nI (s_ran C9.2).toNat), .int (nI (s_fl C9.2))])) := by rw [ew93, va_up_ne _ _ (hinj.ne (i := 0) (j := 8) (by decide) (by decide) (by decide))]; exact g0
            have g1 : w92 (ad 1) = some (.inl (dA 2, 12, .inl (zf (s_fin C9.2)))) := by rw [ew93, va_up_ne _ _ (hinj.ne (i := 1) (j := 8) (by decide) (by decide) (by decide))]; exact g1
            have g2 : w92 (ad 2) = some (.inl (dA 2, 12, .inl (zf (s_opn C9.2)))) := by rw [ew93, va_up_ne _ _ (hinj.ne (i := 2) (j := 8) (by decide) (by decide) (by decide))]; exact g2
            have g3 : w92 (ad 3) = some (.inl (dA 1, 12, .inr (.inl vf))) := by rw [ew93, va_up_ne _ _ (hinj.ne (i := 3) (j := 8) (by decide) (by decide) (by decide))]; exact g3
            have g4 : w92 (ad 4) = some (.inl (dA 3, 192, .inr (.inr (.inr (.inr rows5))))) := by rw [ew93, va_up_ne _ _ (hinj.ne (i := 4) (j := 8) (by decide) (by decide) (by decide))]; exact g4
            have m1 : w92 (ad 5) = some (.inr (0, [.ref (ad 6), .ref (ad 7), .int (nI pl.length), .ref (ad 8)])) := by rw [ew93, va_up_ne _ _ (hinj.ne (i := 5) (j := 8) (by decide) (by decide) (by decide))]; exact m1
            have m2 : w92 (ad 6) = some (.inl (dA 3, 24, .inr (.inr (.inr (.inr ft))))) := by rw [ew93, va_up_ne _ _ (hinj.ne (i := 6) (j := 8) (by decide) (by decide) (by decide))]; exact m2
            have m3 : w92 (ad 7) = some (.inl (dA 3, 16, .inr (.inr (.inr (.inr fc))))) := by rw [ew93, va_up_ne _ _ (hinj.ne (i := 7) (j := 8) (by decide) (by decide) (by decide))]; exact m3
            have m4 : w92 (ad 8) = some (.inl (dA 0, 11, .inl (upd (s_ta C9.2) 2 (((s_ta C9.2) 2) + (nI 1))))) := by rw [ew93]; exact va_up_self _ _ _
            obtain ⟨hRt, hot⟩ := hV5.1.tal hinj ew93
            have hi6 := hi5.kept (hV5.1.fz hot) (fun _ h => h)
            obtain ⟨ft6, pl6, hM6, hft6, hpl6⟩ := id hRt.2.1
            obtain ⟨fc6, m16_, -⟩ := id hM6
            obtain ⟨⟨h0, -⟩, -⟩ := id hRt
            refine lv_aload_n hx hb d_S_taskValue_71 rfl (lv_at hl 2 rfl) ?_
            refine va_get (D := (dC, dI)) (ci := 2) (v := .ref (ad 5)) (C := R_S) (T := F_S) (N := 9) hx hb hg in_S hown hK (hP.one h0) 0 rfl rfl 1 (by decide) (hg _ k_140) (fun _ h9 => h9) rfl d_S_taskValue_72 ?_
            refine lv_aload_n hx hb d_S_taskValue_75 rfl (lv_at hl 2 rfl) ?_
            refine va_get (D := (dC, dI)) (ci := 2) (v := .int (nI wk)) (C := R_S) (T := F_S) (N := 9) hx hb hg in_S hown hK (hP.one h0) 0 rfl rfl 2 (by decide) (hg _ k_141) (fun _ h9 => h9) rfl d_S_taskValue_76 ?_
            refine lv_aload_n hx hb d_S_taskValue_79 rfl (lv_at hl 0 rfl) ?_
            refine va_callv (rn_VN (n := 2) (As := [.int (nI wk), .ref t5]) (rest := []) (C := R_M) (T := F_M) (N := 4) (ci := 0) X hP hS (c_M_give B0 w92 (ad 5) (ad 6) (ad 7) (ad 8) ft6 pl6 (s_ta (sTal 2 C9.2)) wk t5 T5.1 hM6 hwk hi6.2 hi6.o) u_389 k_391 k_19 k_56 k_392 (by decide +kernel) rfl rfl ⟨by dsimp only; omega, by dsimp only; omega⟩ m16_ rfl rfl hl.1 rfl (Nat.le_of_ble_eq_true rfl) d_S_taskValue_80 ⟨by dsimp only [dm]; omega, by dsimp only [dm]; omega⟩) hS (fun q _ h => h) (fun q h => h) (fun w94 tS H locs ht hvm hw hB hz1 hk1 hS => ?_)
            have hP : fw_P (dC, dI) cls_ (AA s0) w94 H := by rw [← ht]; exact hB
            obtain ⟨hM7, hfr7⟩ := hw
            obtain ⟨hRg, hog⟩ := RS.give hinj hRt hft6 hpl6 hi6 hM7 hfr7
            have hi7 := hi6.kept (hRt.fz hog) (fun _ h => h)
            obtain ⟨⟨kt7, vt7, ⟨fk7, fv7, t7, -⟩, -⟩, -⟩ := id hi7
            obtain ⟨⟨h0, -⟩, -⟩ := id hRg
            refine lv_aload_n hx hb d_S_taskValue_83 rfl (lv_at hl 2 rfl) ?_
            refine lv_iload_n hx hb d_S_taskValue_84 rfl (lv_at hl 3 rfl) ?_
            refine lv_aload_n hx hb d_S_taskValue_85 rfl (lv_at hl 0 rfl) ?_
            refine va_getN (D := (dC, dI)) (ci := 3) (v := .long T5.2.2) (C := R_T) (T := F_T) (N := 5) hx hb hg in_T hown hK (hP.one t7) 0 rfl rfl 4 (by decide) (hn _ u_415) (fun _ h9 => h9) rfl d_S_taskValue_86 ?_
            refine va_calll (rn_V (n := 2) (As := [.int (nI k), .long T5.2.2]) (rest := []) (C := R_S) (T := F_S) (N := 9) (ci := 2) X hP hS (c_S_finish B0 w94 ad Fz5 P wk rows5 (sGive (wk * 12 + T5.1) T5 (sTal 2 C9.2)) k T5.2.2 hinj hRg hk) k_364 k_366 k_13 k_57 k_367 (by decide +kernel) rfl rfl ⟨by dsimp only; omega, by dsimp only; omega⟩ h0 rfl rfl hl.1 rfl (Nat.le_of_ble_eq_true rfl) d_S_taskValue_89 ⟨by dsimp only [dm]; omega, by dsimp only [dm]; omega⟩) hS (fun q _ h => h) (fun q h => h) (fun r w95 tS H locs ht hvm hw hB hz1 hk1 hS => ?_)
            have hP : fw_P (dC, dI) cls_ (AA s0) w95 H := by rw [← ht]; exact hB
            obtain ⟨rfl, hRf, hof⟩ := hw
            have hVf : VQ dA ad P wk Fz5 rows5 w89 C9.2 Fz5 rows5 w95 (sFin k T5.2.2 (sGive (wk * 12 + T5.1) T5 (sTal 2 C9.2))) := VQ.of hRf (fun z hz => (hof z hz).trans ((hog z hz).trans (hot z hz)))
            refine W.widen (k := 3 * dm σ G9.2) (n := 11 * dm σ G9.2) (by unfold dm; omega) (by unfold dm; omega) ?_
            exact W.lret (v := T5.2.2) hx hb hr (fun tS ht hW => ⟨⟨T5.2.2, w95, rfl, ⟨by rw [← heq9], Fz5, rows5, by rw [← heq9]; exact VR.tr hV6 hVf.r hK6.1 hbk⟩, mB_of ht hP⟩, hS.F ht⟩) hS.2.2 d_S_taskValue_92
      · rw [if_pos c1] at hG2
        have hiT1 := VQ.isT hR0 hV1 hiT
        have hRa : RS dA ad Fz1 P wk rows1 _ A9.2 := hV1.1
        obtain ⟨⟨g0, g1, g2, ⟨vf, g3, hvf⟩, g4⟩, hM4, hP6, hnF, hfl⟩ := id hRa
        obtain ⟨ft, pl, hM, hft, hpl⟩ := id hM4
        obtain ⟨fc, m1, m2, m3, m4, m16, mpl, mcn⟩ := id hM
        refine lv_aload_n hx hb d_S_taskValue_25 rfl (lv_at hl 1 rfl) ?_
        refine va_get (D := (dC, dI)) (ci := 2) (v := .ref (ad 5)) (C := R_S) (T := F_S) (N := 9) hx hb hg in_S hown hK (hP.one g0) 0 rfl rfl 1 (by decide) (hg _ k_140) (fun _ h9 => h9) rfl d_S_taskValue_26 ?_
        refine va_getN (D := (dC, dI)) (ci := 0) (v := .ref (ad 8)) (C := R_M) (T := F_M) (N := 4) hx hb hg in_M hown hK (hP.one m1) 0 rfl rfl 3 (by decide) (hn _ u_122) (fun _ h9 => h9) rfl d_S_taskValue_29 ?_
        refine lv_iconst (v := (nI 1)) hx hb d_S_taskValue_32 (by decide) ?_
        refine lv_dup2_11 hx hb d_S_taskValue_33 rfl rfl ?_
        refine fw_iald (tys := tyl dA) hx hb hK hP m4 0 rfl (j := 1) (by omega) (by decide) d_S_taskValue_34 ?_
        refine lv_iconst (v := (nI 1)) hx hb d_S_taskValue_35 (by decide) ?_
        refine lv_iadd hx hb d_S_taskValue_36 ?_
        refine fw_iast (tys := tyl dA) hx hb hK hP hS m4 0 rfl (j := 1) (x := (((s_ta A9.2) 1) + (nI 1))) (by omega) (by decide) d_S_taskValue_37 (fun w96 H locs ew97 hP hS => ?_)
        have g0 : w96 (ad 0) = some (.inr (2, [.ref (ad 9), .ref (ad 5), .int (nI wk), .ref (ad 1), .ref (ad 2), .ref (ad 3), .ref (ad 4), .int (nI (s_ran A9.2).toNat), .int (nI (s_fl A9.2))])) := by rw [ew97, va_up_ne _ _ (hinj.ne (i := 0) (j := 8) (by decide) (by decide) (by decide))]; exact g0
        have g1 : w96 (ad 1) = some (.inl (dA 2, 12, .inl (zf (s_fin A9.2)))) := by rw [ew97, va_up_ne _ _ (hinj.ne (i := 1) (j := 8) (by decide) (by decide) (by decide))]; exact g1
        have g2 : w96 (ad 2) = some (.inl (dA 2, 12, .inl (zf (s_opn A9.2)))) := by rw [ew97, va_up_ne _ _ (hinj.ne (i := 2) (j := 8) (by decide) (by decide) (by decide))]; exact g2
        have g3 : w96 (ad 3) = some (.inl (dA 1, 12, .inr (.inl vf))) := by rw [ew97, va_up_ne _ _ (hinj.ne (i := 3) (j := 8) (by decide) (by decide) (by decide))]; exact g3
        have g4 : w96 (ad 4) = some (.inl (dA 3, 192, .inr (.inr (.inr (.inr rows1))))) := by rw [ew97, va_up_ne _ _ (hinj.ne (i := 4) (j := 8) (by decide) (by decide) (by decide))]; exact g4
        have m1 : w96 (ad 5) = some (.inr (0, [.ref (ad 6), .ref (ad 7), .int (nI pl.length), .ref (ad 8)])) := by rw [ew97, va_up_ne _ _ (hinj.ne (i := 5) (j := 8) (by decide) (by decide) (by decide))]; exact m1
        have m2 : w96 (ad 6) = some (.inl (dA 3, 24, .inr (.inr (.inr (.inr ft))))) := by rw [ew97, va_up_ne _ _ (hinj.ne (i := 6) (j := 8) (by decide) (by decide) (by decide))]; exact m2
        have m3 : w96 (ad 7) = some (.inl (dA 3, 16, .inr (.inr (.inr (.inr fc))))) := by rw [ew97, va_up_ne _ _ (hinj.ne (i := 7) (j := 8) (by decide) (by decide) (by decide))]; exact m3
        have m4 : w96 (ad 8) = some (.inl (dA 0, 11, .inl (upd (s_ta A9.2) 1 (((s_ta A9.2) 1) + (nI 1))))) := by rw [ew97]; exact va_up_self _ _ _
        obtain ⟨hRt, hot⟩ := hRa.tal hinj ew97
        have hiT2 := hiT1.kept (hRa.fz hot) (fun _ h => h)
        obtain ⟨⟨kt7, vt7, ⟨fk7, fv7, t7, -⟩, -⟩, -⟩ := id hiT2
        obtain ⟨⟨h0, -⟩, -⟩ := id hRt
        refine lv_aload_n hx hb d_S_taskValue_38 rfl (lv_at hl 1 rfl) ?_
        refine lv_iload_n hx hb d_S_taskValue_39 rfl (lv_at hl 2 rfl) ?_
        refine lv_aload_n hx hb d_S_taskValue_40 rfl (lv_at hl 0 rfl) ?_
        refine va_getN (D := (dC, dI)) (ci := 3) (v := .long T.2.2) (C := R_T) (T := F_T) (N := 5) hx hb hg in_T hown hK (hP.one t7) 0 rfl rfl 4 (by decide) (hn _ u_415) (fun _ h9 => h9) rfl d_S_taskValue_41 ?_
        refine va_calll (rn_V (n := 2) (As := [.int (nI k), .long T.2.2]) (rest := []) (C := R_S) (T := F_S) (N := 9) (ci := 2) X hP hS (c_S_finish B0 w96 ad Fz1 P wk rows1 (sTal 1 A9.2) k T.2.2 hinj hRt hk) k_364 k_366 k_13 k_57 k_367 (by decide +kernel) rfl rfl ⟨by dsimp only; omega, by dsimp only; omega⟩ h0 rfl rfl hl.1 rfl (Nat.le_of_ble_eq_true rfl) d_S_taskValue_44 ⟨by dsimp only [dm]; omega, by dsimp only [dm]; omega⟩) hS (fun q _ h => h) (fun q h => h) (fun r w98 tS H locs ht hvm hw hB hz1 hk1 hS => ?_)
        have hP : fw_P (dC, dI) cls_ (AA s0) w98 H := by rw [← ht]; exact hB
        obtain ⟨rfl, hRf, hof⟩ := hw
        have hVf : VQ dA ad P wk Fz1 rows1 w88 A9.2 Fz1 rows1 w98 (sFin k T.2.2 (sTal 1 A9.2)) := VQ.of hRf (fun z hz => (hof z hz).trans (hot z hz))
        refine W.widen (k := 3 * dm σ G9.2) (n := 11 * dm σ G9.2) (by unfold dm; omega) (by unfold dm; omega) ?_
        exact W.lret (v := T.2.2) hx hb hr (fun tS ht hW => ⟨⟨T.2.2, w98, rfl, ⟨by rw [← hG2], Fz1, rows1, by rw [← hG2]; exact VR.tr (VQ.r hV1) hVf.r hKa.1 hbk⟩, mB_of ht hP⟩, hS.F ht⟩) hS.2.2 d_S_taskValue_47
