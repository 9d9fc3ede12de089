set_option maxHeartbeats 4000000 in
set_option maxRecDepth 100000 in
theorem c_S_ask {l : Launch} {s0 : State} {dC : Nat → ClassId} {dI : Nat → Nat → Nat} {dA : Nat → ClassId} (B0 : BB s0 dC dI dA) (w : fw_W) (ad : Nat → Nat) (Fz : Nat → Prop) (P : PD) (wk : Nat) (rows : Nat → Option Nat) (h kt vt k : Nat) (x : XS) (q : Nat) (n0 : Nat) (IH : VO l s0 dC dI dA ad P wk n0) (hfr0 : fr12 x.2 ≤ n0) (hinj : Inj ad) (hU : RU dA ad P wk h kt vt k Fz rows w x) (hk : k < 12) (hpo : p_ok P) (hkd : p_kd P k = 2) (hq : q < 12) : Met l y_S_ask [.code y_S_ask b_S_ask 5 (some .long)] ({ frames := 7 * n0 + 5, cells := 3 * (dm x.2 (askV (sv P wk (n0 + 1)) q x).2.2), slots := 11 * (dm x.2 (askV (sv P wk (n0 + 1)) q x).2.2), locals := 210 * n0 + 90 }) (mP s0 dC dI w [.ref (ad 0), .ref h, .int (nI q)]) (mQl s0 dC dI (fun r w' => r = (askV (sv P wk (n0 + 1)) q x).1 ∧ ∃ (Fz' : Nat → Prop) (rows' : Nat → Option Nat), VX dA ad P wk h kt vt k Fz rows w x Fz' rows' w' (askV (sv P wk (n0 + 1)) q x).2)) (3 * (dm x.2 (askV (sv P wk (n0 + 1)) q x).2.2)) (11 * (dm x.2 (askV (sv P wk (n0 + 1)) q x).2.2)) (AA s0) := by
  refine mt_ofW B0 (by decide) (Nat.le_of_ble_eq_true rfl) (fun p e s m args below meth c ls hargs X hin hl hP => ?_)
  have X9 := X
  obtain ⟨hx, hb, hr, hml, hown, hg, hK, hn, hE, hlocks, hA⟩ := X9
  have hS : va_S (AA s0) s.heap s.heap [] := va_S.rf
  have hl : lv_has ls 5 [(0, .ref (ad 0)), (1, .ref h), (2, .int (nI q))] := hl
  obtain ⟨⟨g0, g1, g2, ⟨vf, g3, hvf⟩, g4⟩, hM4, hP6, hnF, hfl⟩ := (id hU.1)
  refine lv_aload_n hx hb d_S_ask_0 rfl (lv_at hl 0 rfl) ?_
  refine va_calli (rn_V (n := 0) (As := []) (rest := []) (C := R_S) (T := F_S) (N := 9) (ci := 2) X hP hS (c_S_hasFailed B0 w ad Fz P wk rows x.2 hinj hU.1) k_377 k_379 k_16 k_57 k_380 (by decide +kernel) rfl rfl ⟨by dsimp only; omega, by dsimp only; omega⟩ g0 rfl rfl hl.1 rfl (Nat.le_of_ble_eq_true rfl) d_S_ask_1 ⟨Nat.zero_le _, Nat.zero_le _⟩) hS (fun q _ h => h) (fun q h => h) (fun r w16 tS H locs ht hvm hw hB hz1 hk1 hS => ?_)
  have hP : fw_P (dC, dI) cls_ (AA s0) w16 H := by rw [← ht]; exact hB
  obtain ⟨ew8, b8, rfl, hb8⟩ := hw
  rw [ew8] at hP
  refine nu_ifeq (tgt := 9) hx hb d_S_ask_4 (by decide) (fun c1 => ?_) (fun c1 => ?_)
  · have hf0 : s_fl x.2 = 0 := Classical.byContradiction fun h => by rw [hb8.mpr h] at c1; cases c1
    have esp : askV (sv P wk (n0 + 1)) q x = (((sv P wk (n0 + 1)) q (sTal 0 x.2)).1, noteL x.1 q ((sv P wk (n0 + 1)) q (sTal 0 x.2)).1, ((sv P wk (n0 + 1)) q (sTal 0 x.2)).2) := by rw [askV, if_pos hf0]
    rw [esp]
    have hKs := Kp_sv P wk (n0 + 1) q (sTal 0 x.2)
    have hmd0 : s_md (sTal 0 x.2) = s_md x.2 := rfl
    obtain ⟨ft, pl, hM, hft, hpl⟩ := id hM4
    obtain ⟨fc, m1, m2, m3, m4, m16, mpl, mcn⟩ := id hM
    refine lv_aload_n hx hb d_S_ask_9 rfl (lv_at hl 0 rfl) ?_
    refine va_get (D := (dC, dI)) (ci := 2) (v := .ref (ad 5)) (C := R_S) (T := F_S) (N := 9) hx hb hg in_S hown hK (hP.one g0) 0 rfl rfl 1 (by decide) (hg _ k_140) (fun _ h9 => h9) rfl d_S_ask_10 ?_
    refine va_getN (D := (dC, dI)) (ci := 0) (v := .ref (ad 8)) (C := R_M) (T := F_M) (N := 4) hx hb hg in_M hown hK (hP.one m1) 0 rfl rfl 3 (by decide) (hn _ u_122) (fun _ h9 => h9) rfl d_S_ask_13 ?_
    refine lv_iconst (v := (nI 0)) hx hb d_S_ask_16 (by decide) ?_
    refine lv_dup2_11 hx hb d_S_ask_17 rfl rfl ?_
    refine fw_iald (tys := tyl dA) hx hb hK hP m4 0 rfl (j := 0) (by omega) (by decide) d_S_ask_18 ?_
    refine lv_iconst (v := (nI 1)) hx hb d_S_ask_19 (by decide) ?_
    refine lv_iadd hx hb d_S_ask_20 ?_
    refine fw_iast (tys := tyl dA) hx hb hK hP hS m4 0 rfl (j := 0) (x := (((s_ta x.2) 0) + (nI 1))) (by omega) (by decide) d_S_ask_21 (fun w17 H locs ew18 hP hS => ?_)
    have g0 : w17 (ad 0) = some (.inr (2, [.ref (ad 9), .ref (ad 5), .int (nI wk), .ref (ad 1), .ref (ad 2), .ref (ad 3), .ref (ad 4), .int (nI (s_ran x.2).toNat), .int (nI (s_fl x.2))])) := by rw [ew18, va_up_ne _ _ (hinj.ne (i := 0) (j := 8) (by decide) (by decide) (by decide))]; exact g0
    have g1 : w17 (ad 1) = some (.inl (dA 2, 12, .inl (zf (s_fin x.2)))) := by rw [ew18, va_up_ne _ _ (hinj.ne (i := 1) (j := 8) (by decide) (by decide) (by decide))]; exact g1
    have g2 : w17 (ad 2) = some (.inl (dA 2, 12, .inl (zf (s_opn x.2)))) := by rw [ew18, va_up_ne _ _ (hinj.ne (i := 2) (j := 8) (by decide) (by decide) (by decide))]; exact g2
    have g3 : w17 (ad 3) = some (.inl (dA 1, 12, .inr (.inl vf))) := by rw [ew18, va_up_ne _ _ (hinj.ne (i := 3) (j := 8) (by decide) (by decide) (by decide))]; exact g3
    have g4 : w17 (ad 4) = some (.inl (dA 3, 192, .inr (.inr (.inr (.inr rows))))) := by rw [ew18, va_up_ne _ _ (hinj.ne (i := 4) (j := 8) (by decide) (by decide) (by decide))]; exact g4
    have m1 : w17 (ad 5) = some (.inr (0, [.ref (ad 6), .ref (ad 7), .int (nI pl.length), .ref (ad 8)])) := by rw [ew18, va_up_ne _ _ (hinj.ne (i := 5) (j := 8) (by decide) (by decide) (by decide))]; exact m1
    have m2 : w17 (ad 6) = some (.inl (dA 3, 24, .inr (.inr (.inr (.inr ft))))) := by rw [ew18, va_up_ne _ _ (hinj.ne (i := 6) (j := 8) (by decide) (by decide) (by decide))]; exact m2
    have m3 : w17 (ad 7) = some (.inl (dA 3, 16, .inr (.inr (.inr (.inr fc))))) := by rw [ew18, va_up_ne _ _ (hinj.ne (i := 7) (j := 8) (by decide) (by decide) (by decide))]; exact m3
    have m4 : w17 (ad 8) = some (.inl (dA 0, 11, .inl (upd (s_ta x.2) 0 (((s_ta x.2) 0) + (nI 1))))) := by rw [ew18]; exact va_up_self _ _ _
    obtain ⟨hRt, hot⟩ := hU.1.tal hinj ew18
    have hVt : VQ dA ad P wk Fz rows w x.2 Fz rows w17 (sTal 0 x.2) := VQ.of hRt hot
    have hX1 := hU.step hVt
    refine lv_aload_n hx hb d_S_ask_22 rfl (lv_at hl 0 rfl) ?_
    refine lv_iload_n hx hb d_S_ask_23 rfl (lv_at hl 2 rfl) ?_
    refine va_calll (rn_V (n := 1) (As := [.int (nI q)]) (rest := []) (C := R_S) (T := F_S) (N := 9) (ci := 2) X hP hS (IH w17 Fz rows (sTal 0 x.2) q hRt hq (by rw [show fr12 (sTal 0 x.2) = fr12 x.2 from frS_same rfl rfl 12]; exact hfr0)) k_356 k_358 k_11 k_57 k_359 (by decide +kernel) rfl rfl ⟨by dsimp only [rmV]; omega, by dsimp only [rmV]; omega⟩ g0 rfl rfl hl.1 rfl (Nat.le_of_ble_eq_true rfl) d_S_ask_24 ⟨by dsimp only [dm]; omega, by dsimp only [dm]; omega⟩) hS (fun q _ h => h) (fun q h => h) (fun r w19 tS H locs ht hvm hw hB hz1 hk1 hS => ?_)
    have hP : fw_P (dC, dI) cls_ (AA s0) w19 H := by rw [← ht]; exact hB
    obtain ⟨rfl, Fz2, rows2, hV2⟩ := hw
    have hX2 := VX.tr hX1 (hX1.1.step hV2) (fun _ h => h)
    obtain ⟨fk, fv, f1, f2, f3, hl3, hL⟩ := id hX2.1.2.1
    refine lv_lstore_n (lv' := [(3, .long (((sv P wk (n0 + 1)) q (sTal 0 x.2)).1)), (0, .ref (ad 0)), (1, .ref h), (2, .int (nI q))]) hx hb d_S_ask_27 rfl hl (by decide) rfl (fun ls hl => ?_)
    refine lv_aload_n hx hb d_S_ask_28 rfl (lv_at hl 2 rfl) ?_
    refine lv_iload_n hx hb d_S_ask_29 rfl (lv_at hl 3 rfl) ?_
    refine lv_lload_n hx hb d_S_ask_30 rfl (lv_at hl 0 rfl) ?_
    refine va_callv (rn_VN (n := 2) (As := [.int (nI q), .long (((sv P wk (n0 + 1)) q (sTal 0 x.2)).1)]) (rest := []) (C := R_T) (T := F_T) (N := 5) (ci := 3) X hP hS (c_T_note B0 w19 h kt vt k q x.1 0 (sv P wk (n0 + 1) q (sTal 0 x.2)).1 hX2.1.2.1 hq) u_444 k_446 k_25 k_64 k_447 (by decide +kernel) rfl rfl ⟨by dsimp only; omega, by dsimp only; omega⟩ f1 rfl rfl hl.1 rfl (Nat.le_of_ble_eq_true rfl) d_S_ask_31 ⟨by dsimp only [dm]; omega, by dsimp only [dm]; omega⟩) hS (fun q _ h => h) (fun q h => h) (fun w20 tS H locs ht hvm hw hB hz1 hk1 hS => ?_)
    have hP : fw_P (dC, dI) cls_ (AA s0) w20 H := by rw [← ht]; exact hB
    obtain ⟨hT3, hfr3⟩ := hw
    have hX3 := VX.tr hX2 (hX2.1.note hT3 hfr3) (fun j hj => hKs.1 j hj)
    refine lv_lload_n hx hb d_S_ask_34 rfl (lv_at hl 0 rfl) ?_
    refine W.widen (k := 3 * dm x.2 ((sv P wk (n0 + 1)) q (sTal 0 x.2)).2) (n := 11 * dm x.2 ((sv P wk (n0 + 1)) q (sTal 0 x.2)).2) (by unfold dm; omega) (by unfold dm; omega) ?_
    exact W.lret (v := ((sv P wk (n0 + 1)) q (sTal 0 x.2)).1) hx hb hr (fun tS ht hW => ⟨⟨((sv P wk (n0 + 1)) q (sTal 0 x.2)).1, w20, rfl, ⟨rfl, Fz2, rows2, hX3⟩, mB_of ht hP⟩, hS.F ht⟩) hS.2.2 d_S_ask_35
  · have esp : askV (sv P wk (n0 + 1)) q x = (0, x) := by rw [askV, if_neg (hb8.mp c1)]
    rw [esp]
    refine lv_lconst (v := 0) hx hb d_S_ask_7 (by decide) ?_
    refine W.widen (k := 3 * dm x.2 x.2) (n := 11 * dm x.2 x.2) (by omega) (by omega) ?_
    exact W.lret (v := 0) hx hb hr (fun tS ht hW => ⟨⟨0, w, rfl, ⟨rfl, Fz, rows, VX.rf hU⟩, mB_of ht hP⟩, hS.F ht⟩) hS.2.2 d_S_ask_8
set_option maxHeartbeats 4000000 in
set_option maxRecDepth 100000 in
theorem c_S_askPart {l : Launch} {s0 : State} {dC : Nat → ClassId} {dI : Nat → Nat → Nat} {dA : Nat → ClassId} (B0 : BB s0 dC dI dA) (w : fw_W) (ad : Nat → Nat) (Fz : Nat → Prop) (P : PD) (wk : Nat) (rows : Nat → Option Nat) (h kt vt k : Nat) (x : XS) (i : Nat) (n0 : Nat) (IH : VO l s0 dC dI dA ad P wk n0) (hfr0 : fr12 x.2 ≤ n0) (hinj : Inj ad) (hU : RU dA ad P wk h kt vt k Fz rows w x) (hk : k < 12) (hpo : p_ok P) (hkd : p_kd P k = 2) (hi : i < p_cn P k) : Met l y_S_askPart [.code y_S_askPart b_S_askPart 3 (some .long)] ({ frames := 7 * n0 + 6, cells := 3 * (dm x.2 (askV (sv P wk (n0 + 1)) (p_pt P k i) x).2.2), slots := 11 * (dm x.2 (askV (sv P wk (n0 + 1)) (p_pt P k i) x).2.2), locals := 210 * n0 + 120 }) (mP s0 dC dI w [.ref (ad 0), .ref h, .int (nI i)]) (mQl s0 dC dI (fun r w' => r = (askV (sv P wk (n0 + 1)) (p_pt P k i) x).1 ∧ ∃ (Fz' : Nat → Prop) (rows' : Nat → Option Nat), VX dA ad P wk h kt vt k Fz rows w x Fz' rows' w' (askV (sv P wk (n0 + 1)) (p_pt P k i) x).2)) (3 * (dm x.2 (askV (sv P wk (n0 + 1)) (p_pt P k i) x).2.2)) (11 * (dm x.2 (askV (sv P wk (n0 + 1)) (p_pt P k i) x).2.2)) (AA s0) := by
  have hpk := (hpo k hk).2 hkd
  have hpi := hpk.2.2.2.1 i hi
  have hc3 := hpk.2.1
  refine mt_ofW B0 (by decide) (Nat.le_of_ble_eq_true rfl) (fun p e s m args below meth c ls hargs X hin hl hP => ?_)
  have X9 := X
  obtain ⟨hx, hb, hr, hml, hown, hg, hK, hn, hE, hlocks, hA⟩ := X9
  have hS : va_S (AA s0) s.heap s.heap [] := va_S.rf
  have hl : lv_has ls 3 [(0, .ref (ad 0)), (1, .ref h), (2, .int (nI i))] := hl
  obtain ⟨⟨g0, g1, g2, ⟨vf, g3, hvf⟩, g4⟩, hM4, hP6, hnF, hfl⟩ := (id hU.1)
  obtain ⟨p0, p1, p2, p3, ⟨rowsG, p4, hrowsG⟩, p5, p6, -⟩ := id hP6
  have p5k := p5 k hk
  have hrwk := hrowsG k hk
  obtain ⟨fk, fv, f1, f2, f3, hl3, hL⟩ := id hU.2.1
  refine lv_aload_n hx hb d_S_askPart_0 rfl (lv_at hl 0 rfl) ?_
  refine lv_aload_n hx hb d_S_askPart_1 rfl (lv_at hl 1 rfl) ?_
  refine lv_aload_n hx hb d_S_askPart_2 rfl (lv_at hl 0 rfl) ?_
  refine va_get (D := (dC, dI)) (ci := 2) (v := .ref (ad 9)) (C := R_S) (T := F_S) (N := 9) hx hb hg in_S hown hK (hP.one g0) 0 rfl rfl 0 (by decide) (hg _ k_139) (fun _ h9 => h9) rfl d_S_askPart_3 ?_
  refine va_getN (D := (dC, dI)) (ci := 1) (v := .ref (ad 13)) (C := R_P) (T := F_P) (N := 5) hx hb hg in_P hown hK (hP.one p0) 0 rfl rfl 3 (by decide) (hn _ u_92) (fun _ h9 => h9) rfl d_S_askPart_6 ?_
  refine lv_aload_n hx hb d_S_askPart_9 rfl (lv_at hl 1 rfl) ?_
  refine va_getN (D := (dC, dI)) (ci := 3) (v := .int (nI k)) (C := R_T) (T := F_T) (N := 5) hx hb hg in_T hown hK (hP.one f1) 0 rfl rfl 0 (by decide) (hn _ u_404) (fun _ h9 => h9) rfl d_S_askPart_10 ?_
  refine fw_aldg (tys := tyl dA) hx hb hK hP p4 4 rfl (j := k) (by omega) (by decide) d_S_askPart_13 ?_
  rw [hrwk]
  refine lv_iload_n hx hb d_S_askPart_14 rfl (lv_at hl 2 rfl) ?_
  refine fw_iald (tys := tyl dA) hx hb hK hP p5k 0 rfl (j := i) (by omega) (by decide) d_S_askPart_15 ?_
  rw [hpi.1]
  refine va_calll (rn_V (n := 2) (As := [.ref h, .int (nI (p_pt P k i))]) (rest := []) (C := R_S) (T := F_S) (N := 9) (ci := 2) X hP hS (c_S_ask B0 w ad Fz P wk rows h kt vt k x (p_pt P k i) n0 IH hfr0 hinj hU hk hpo hkd hpi.2) k_440 k_442 k_24 k_57 k_443 (by decide +kernel) rfl rfl ⟨by dsimp only; omega, by dsimp only; omega⟩ g0 rfl rfl hl.1 rfl (Nat.le_of_ble_eq_true rfl) d_S_askPart_16 ⟨by dsimp only; omega, by dsimp only; omega⟩) hS (fun q _ h => h) (fun q h => h) (fun r w21 tS H locs ht hvm hw hB hz1 hk1 hS => ?_)
  have hP : fw_P (dC, dI) cls_ (AA s0) w21 H := by rw [← ht]; exact hB
  refine W.widen (k := 3 * dm x.2 (askV (sv P wk (n0 + 1)) (p_pt P k i) x).2.2) (n := 11 * dm x.2 (askV (sv P wk (n0 + 1)) (p_pt P k i) x).2.2) (by omega) (by omega) ?_
  exact W.lret (v := r) hx hb hr (fun tS ht hW => ⟨⟨r, w21, rfl, hw, mB_of ht hP⟩, hS.F ht⟩) hS.2.2 d_S_askPart_19
