set_option maxHeartbeats 4000000 in
set_option maxRecDepth 100000 in
theorem c_S_sum {l : Launch} {s0 : State} {dC : Nat → ClassId} {dI : Nat → Nat → Nat} {dA : Nat → ClassId} (B0 : BB s0 dC dI dA) (w : fw_W) (ad : Nat → Nat) (Fz : Nat → Prop) (P : PD) (wk : Nat) (rows : Nat → Option Nat) (h kt vt k : Nat) (x : XS)  (n0 : Nat) (IH : VO l s0 dC dI dA ad P wk n0) (hfr0 : fr12 x.2 ≤ n0) (hinj : Inj ad) (hU : RU dA ad P wk h kt vt k Fz rows w x) (hk : k < 12) (hpo : p_ok P) (hkd : p_kd P k = 2)  : Met l y_S_sum [.code y_S_sum b_S_sum 5 (some .long)] ({ frames := 7 * n0 + 7, cells := 3 * (dm x.2 (foldV (sv P wk (n0 + 1)) (fun a b => a + b) (p_parts P k) 0 x).2.2), slots := 11 * (dm x.2 (foldV (sv P wk (n0 + 1)) (fun a b => a + b) (p_parts P k) 0 x).2.2), locals := 210 * n0 + 150 }) (mP s0 dC dI w [.ref (ad 0), .ref h]) (mQl s0 dC dI (fun r w' => r = (foldV (sv P wk (n0 + 1)) (fun a b => a + b) (p_parts P k) 0 x).1 ∧ ∃ (Fz' : Nat → Prop) (rows' : Nat → Option Nat), VX dA ad P wk h kt vt k Fz rows w x Fz' rows' w' (foldV (sv P wk (n0 + 1)) (fun a b => a + b) (p_parts P k) 0 x).2)) (3 * (dm x.2 (foldV (sv P wk (n0 + 1)) (fun a b => a + b) (p_parts P k) 0 x).2.2)) (11 * (dm x.2 (foldV (sv P wk (n0 + 1)) (fun a b => a + b) (p_parts P k) 0 x).2.2)) (AA s0) := by
  have hpk := (hpo k hk).2 hkd
  have hc3 := hpk.2.1
  generalize hfin : foldV (sv P wk (n0 + 1)) (fun a b => a + b) (p_parts P k) 0 x = fin9
  refine mt_ofW B0 (by decide) (Nat.le_of_ble_eq_true rfl) (fun p e s m args below meth c ls hargs X hin hl hP => ?_)
  have X9 := X
  obtain ⟨hx, hb, hr, hml, hown, hg, hK, hn, hE, hlocks, hA⟩ := X9
  have hS : va_S (AA s0) s.heap s.heap [] := va_S.rf
  have hl : lv_has ls 5 [(0, .ref (ad 0)), (1, .ref h)] := hl
  refine lv_lconst (v := 0) hx hb d_S_sum_0 (by decide) ?_
  refine lv_lstore_n (lv' := [(2, .long 0), (0, .ref (ad 0)), (1, .ref h)]) hx hb d_S_sum_1 rfl hl (by decide) rfl (fun ls hl => ?_)
  refine lv_iconst (v := (nI 0)) hx hb d_S_sum_2 (by decide) ?_
  refine lv_istore (lv' := [(4, .int (nI 0)), (2, .long 0), (0, .ref (ad 0)), (1, .ref h)]) hx hb d_S_sum_3 hl (by decide) rfl (fun ls hl => ?_)
  refine W.widen (k := 3 * dm x.2 x.2) (n := 11 * dm x.2 x.2) (Nat.zero_le _) (Nat.zero_le _) ?_
  suffices lp : ∀ (n : Nat) (i : Nat) (acc : Int64) (xi : XS) (Fz1 : Nat → Prop) (rows1 : Nat → Option Nat), (i ≤ p_cn P k) → (Kp x.2 xi.2) → (foldV (sv P wk (n0 + 1)) (fun a b => a + b) ((p_parts P k).drop i) acc xi = fin9) → (p_cn P k < i + n) → ∀ (wl : fw_W) (H : Heap) (locs : List Loc), (VX dA ad P wk h kt vt k Fz rows w x Fz1 rows1 wl xi) → fw_P (dC, dI) cls_ (AA s0) wl H → va_S (AA s0) s.heap H locs → ∀ (ls : Array Slot), lv_has ls 5 [(0, .ref (ad 0)), (1, .ref h), (2, .long acc), (4, .int (nI i))] → W p l e _ s m args below meth c H locs (3 * dm x.2 xi.2) (11 * dm x.2 xi.2) (MQ below _ args s (3 * dm x.2 fin9.2.2) (11 * dm x.2 fin9.2.2) (AA s0)) (F0 m 5 ls []) from lp (p_cn P k + 1) 0 0 x Fz rows (Nat.zero_le _) (Kp.rf x.2) (by rw [List.drop_zero]; exact hfin) (by omega) _ _ _  (VX.rf hU) hP hS ls (lv_sub hl [2, 3, 1, 0] rfl)
  intro n
  induction n with
  | zero => intro i acc xi Fz1 rows1 hi hKp heq hbn; exact absurd hbn (by omega)
  | succ n ih =>
    intro i acc xi Fz1 rows1 hi hKp heq hbn wl H locs  hX1 hP hS ls hl
    obtain ⟨⟨g0, g1, g2, ⟨vf, g3, hvf⟩, g4⟩, hM4, hP6, hnF, hfl⟩ := (id hX1.1.1)
    obtain ⟨p0, p1, p2, p3, ⟨rowsG, p4, hrowsG⟩, p5, p6, -⟩ := id hP6
    have p5k := p5 k hk
    have hrwk := hrowsG k hk
    obtain ⟨fk, fv, f1, f2, f3, hl3, hL⟩ := id hX1.1.2.1
    have hmd := hKp.2.2.1
    have hmd2 : s_md xi.2 ≤ s_md fin9.2.2 := by rw [← heq]; exact (Kp_fold (Kp_sv P wk (n0 + 1)) _ _ _ xi).2.2.1
    refine lv_iload hx hb d_S_sum_5 (lv_at hl 3 rfl) ?_
    refine lv_aload_n hx hb d_S_sum_7 rfl (lv_at hl 0 rfl) ?_
    refine va_get (D := (dC, dI)) (ci := 2) (v := .ref (ad 9)) (C := R_S) (T := F_S) (N := 9) hx hb hg in_S hown hK (hP.one g0) 0 rfl rfl 0 (by decide) (hg _ k_139) (fun _ h9 => h9) rfl d_S_sum_8 ?_
    refine va_getN (D := (dC, dI)) (ci := 1) (v := .ref (ad 14)) (C := R_P) (T := F_P) (N := 5) hx hb hg in_P hown hK (hP.one p0) 0 rfl rfl 4 (by decide) (hn _ u_94) (fun _ h9 => h9) rfl d_S_sum_11 ?_
    refine lv_aload_n hx hb d_S_sum_14 rfl (lv_at hl 1 rfl) ?_
    refine va_getN (D := (dC, dI)) (ci := 3) (v := .int (nI k)) (C := R_T) (T := F_T) (N := 5) hx hb hg in_T hown hK (hP.one f1) 0 rfl rfl 0 (by decide) (hn _ u_404) (fun _ h9 => h9) rfl d_S_sum_15 ?_
    refine fw_iald (tys := tyl dA) hx hb hK hP p6 0 rfl (j := k) (by omega) (by decide) d_S_sum_18 ?_
    refine nu_ge (tgt := 38) hx hb (by omega) (by omega) d_S_sum_19 (by decide) (fun c1 => ?_) (fun c1 => ?_)
    · rw [List.drop_eq_nil_of_le (by rw [parts_len]; omega)] at heq
      refine lv_lload_n hx hb d_S_sum_38 rfl (lv_at hl 2 rfl) ?_
      refine W.widen (k := 3 * dm x.2 fin9.2.2) (n := 11 * dm x.2 fin9.2.2) (by unfold dm; omega) (by unfold dm; omega) ?_
      exact W.lret (v := acc) hx hb hr (fun tS ht hW => ⟨⟨acc, wl, rfl, ⟨by rw [← heq]; rfl, Fz1, rows1, by rw [← heq]; exact hX1⟩, mB_of ht hP⟩, hS.F ht⟩) hS.2.2 d_S_sum_39
    · rw [parts_drop c1] at heq
      have hKa := Kp_ask (Kp_sv P wk (n0 + 1)) (p_pt P k i) xi
      have hmd3 : s_md (askV (sv P wk (n0 + 1)) (p_pt P k i) xi).2.2 ≤ s_md fin9.2.2 := by rw [← heq]; exact (Kp_fold (Kp_sv P wk (n0 + 1)) _ _ _ _).2.2.1
      have hma := hKa.2.2.1
      refine lv_lload_n hx hb d_S_sum_22 rfl (lv_at hl 2 rfl) ?_
      refine lv_aload_n hx hb d_S_sum_23 rfl (lv_at hl 0 rfl) ?_
      refine lv_aload_n hx hb d_S_sum_24 rfl (lv_at hl 1 rfl) ?_
      refine lv_iload hx hb d_S_sum_25 (lv_at hl 3 rfl) ?_
      refine va_calll (rn_V (n := 2) (As := [.ref h, .int (nI i)]) (rest := [.long acc]) (C := R_S) (T := F_S) (N := 9) (ci := 2) X hP hS (c_S_askPart B0 wl ad Fz1 P wk rows1 h kt vt k xi i n0 IH (Nat.le_trans hKp.fr hfr0) hinj hX1.1 hk hpo hkd c1) k_436 k_438 k_23 k_57 k_439 (by decide +kernel) rfl rfl ⟨by dsimp only; omega, by dsimp only; omega⟩ g0 rfl rfl hl.1 rfl (Nat.le_of_ble_eq_true rfl) d_S_sum_27 ⟨by dsimp only [dm]; omega, by dsimp only [dm]; omega⟩) hS (fun q _ h => h) (fun q h => h) (fun r w37 tS H locs ht hvm hw hB hz1 hk1 hS => ?_)
      have hP : fw_P (dC, dI) cls_ (AA s0) w37 H := by rw [← ht]; exact hB
      obtain ⟨rfl, Fz2, rows2, hX2⟩ := hw
      have hX3 := VX.tr hX1 hX2 hKp.1
      refine lv_ladd hx hb d_S_sum_30 ?_
      refine lv_lstore_n (lv' := [(2, .long (acc + ((askV (sv P wk (n0 + 1)) (p_pt P k i) xi).1))), (0, .ref (ad 0)), (1, .ref h), (4, .int (nI i))]) hx hb d_S_sum_31 rfl hl (by decide) rfl (fun ls hl => ?_)
      refine lv_iinc (v := nI (i + 1)) (lv' := [(4, .int (nI (i + 1))), (2, .long (acc + ((askV (sv P wk (n0 + 1)) (p_pt P k i) xi).1))), (0, .ref (ad 0)), (1, .ref h)]) hx hb d_S_sum_32 hl (k := 3) rfl (nI_add _ 1) (by decide) rfl (fun ls hl => ?_)
      refine lv_goto (tgt := 5) hx hb d_S_sum_35 (by decide) ?_
      refine W.widen (k := 3 * dm x.2 (askV (sv P wk (n0 + 1)) (p_pt P k i) xi).2.2) (n := 11 * dm x.2 (askV (sv P wk (n0 + 1)) (p_pt P k i) xi).2.2) (by unfold dm; omega) (by unfold dm; omega) ?_
      exact ih (i + 1) (acc + (askV (sv P wk (n0 + 1)) (p_pt P k i) xi).1) ((askV (sv P wk (n0 + 1)) (p_pt P k i) xi).2) Fz2 rows2 (by omega) (hKp.tr hKa) heq (by omega) _ _ _  hX3 hP hS ls (lv_sub hl [2, 3, 1, 0] rfl)
set_option maxHeartbeats 4000000 in
set_option maxRecDepth 100000 in
theorem c_S_product {l : Launch} {s0 : State} {dC : Nat → ClassId} {dI : Nat → Nat → Nat} {dA : Nat → ClassId} (B0 : BB s0 dC dI dA) (w : fw_W) (ad : Nat → Nat) (Fz : Nat → Prop) (P : PD) (wk : Nat) (rows : Nat → Option Nat) (h kt vt k : Nat) (x : XS)  (n0 : Nat) (IH : VO l s0 dC dI dA ad P wk n0) (hfr0 : fr12 x.2 ≤ n0) (hinj : Inj ad) (hU : RU dA ad P wk h kt vt k Fz rows w x) (hk : k < 12) (hpo : p_ok P) (hkd : p_kd P k = 2)  : Met l y_S_product [.code y_S_product b_S_product 5 (some .long)] ({ frames := 7 * n0 + 7, cells := 3 * (dm x.2 (foldV (sv P wk (n0 + 1)) (fun a b => a * b) (p_parts P k) 1 x).2.2), slots := 11 * (dm x.2 (foldV (sv P wk (n0 + 1)) (fun a b => a * b) (p_parts P k) 1 x).2.2), locals := 210 * n0 + 150 }) (mP s0 dC dI w [.ref (ad 0), .ref h]) (mQl s0 dC dI (fun r w' => r = (foldV (sv P wk (n0 + 1)) (fun a b => a * b) (p_parts P k) 1 x).1 ∧ ∃ (Fz' : Nat → Prop) (rows' : Nat → Option Nat), VX dA ad P wk h kt vt k Fz rows w x Fz' rows' w' (foldV (sv P wk (n0 + 1)) (fun a b => a * b) (p_parts P k) 1 x).2)) (3 * (dm x.2 (foldV (sv P wk (n0 + 1)) (fun a b => a * b) (p_parts P k) 1 x).2.2)) (11 * (dm x.2 (foldV (sv P wk (n0 + 1)) (fun a b => a * b) (p_parts P k) 1 x).2.2)) (AA s0) := by
  have hpk := (hpo k hk).2 hkd
  have hc3 := hpk.2.1
  generalize hfin : foldV (sv P wk (n0 + 1)) (fun a b => a * b) (p_parts P k) 1 x = fin9
  refine mt_ofW B0 (by decide) (Nat.le_of_ble_eq_true rfl) (fun p e s m args below meth c ls hargs X hin hl hP => ?_)
  have X9 := X
  obtain ⟨hx, hb, hr, hml, hown, hg, hK, hn, hE, hlocks, hA⟩ := X9
  have hS : va_S (AA s0) s.heap s.heap [] := va_S.rf
  have hl : lv_has ls 5 [(0, .ref (ad 0)), (1, .ref h)] := hl
  refine lv_lconst (v := 1) hx hb d_S_product_0 (by decide) ?_
  refine lv_lstore_n (lv' := [(2, .long 1), (0, .ref (ad 0)), (1, .ref h)]) hx hb d_S_product_1 rfl hl (by decide) rfl (fun ls hl => ?_)
  refine lv_iconst (v := (nI 0)) hx hb d_S_product_2 (by decide) ?_
  refine lv_istore (lv' := [(4, .int (nI 0)), (2, .long 1), (0, .ref (ad 0)), (1, .ref h)]) hx hb d_S_product_3 hl (by decide) rfl (fun ls hl => ?_)
  refine W.widen (k := 3 * dm x.2 x.2) (n := 11 * dm x.2 x.2) (Nat.zero_le _) (Nat.zero_le _) ?_
  suffices lp : ∀ (n : Nat) (i : Nat) (acc : Int64) (xi : XS) (Fz1 : Nat → Prop) (rows1 : Nat → Option Nat), (i ≤ p_cn P k) → (Kp x.2 xi.2) → (foldV (sv P wk (n0 + 1)) (fun a b => a * b) ((p_parts P k).drop i) acc xi = fin9) → (p_cn P k < i + n) → ∀ (wl : fw_W) (H : Heap) (locs : List Loc), (VX dA ad P wk h kt vt k Fz rows w x Fz1 rows1 wl xi) → fw_P (dC, dI) cls_ (AA s0) wl H → va_S (AA s0) s.heap H locs → ∀ (ls : Array Slot), lv_has ls 5 [(0, .ref (ad 0)), (1, .ref h), (2, .long acc), (4, .int (nI i))] → W p l e _ s m args below meth c H locs (3 * dm x.2 xi.2) (11 * dm x.2 xi.2) (MQ below _ args s (3 * dm x.2 fin9.2.2) (11 * dm x.2 fin9.2.2) (AA s0)) (F0 m 5 ls []) from lp (p_cn P k + 1) 0 1 x Fz rows (Nat.zero_le _) (Kp.rf x.2) (by rw [List.drop_zero]; exact hfin) (by omega) _ _ _  (VX.rf hU) hP hS ls (lv_sub hl [2, 3, 1, 0] rfl)
  intro n
  induction n with
  | zero => intro i acc xi Fz1 rows1 hi hKp heq hbn; exact absurd hbn (by omega)
  | succ n ih =>
    intro i acc xi Fz1 rows1 hi hKp heq hbn wl H locs  hX1 hP hS ls hl
    obtain ⟨⟨g0, g1, g2, ⟨vf, g3, hvf⟩, g4⟩, hM4, hP6, hnF, hfl⟩ := (id hX1.1.1)
    obtain ⟨p0, p1, p2, p3, ⟨rowsG, p4, hrowsG⟩, p5, p6, -⟩ := id hP6
    have p5k := p5 k hk
    have hrwk := hrowsG k hk
    obtain ⟨fk, fv, f1, f2, f3, hl3, hL⟩ := id hX1.1.2.1
    have hmd := hKp.2.2.1
    have hmd2 : s_md xi.2 ≤ s_md fin9.2.2 := by rw [← heq]; exact (Kp_fold (Kp_sv P wk (n0 + 1)) _ _ _ xi).2.2.1
    refine lv_iload hx hb d_S_product_5 (lv_at hl 3 rfl) ?_
    refine lv_aload_n hx hb d_S_product_7 rfl (lv_at hl 0 rfl) ?_
    refine va_get (D := (dC, dI)) (ci := 2) (v := .ref (ad 9)) (C := R_S) (T := F_S) (N := 9) hx hb hg in_S hown hK (hP.one g0) 0 rfl rfl 0 (by decide) (hg _ k_139) (fun _ h9 => h9) rfl d_S_product_8 ?_
    refine va_getN (D := (dC, dI)) (ci := 1) (v := .ref (ad 14)) (C := R_P) (T := F_P) (N := 5) hx hb hg in_P hown hK (hP.one p0) 0 rfl rfl 4 (by decide) (hn _ u_94) (fun _ h9 => h9) rfl d_S_product_11 ?_
    refine lv_aload_n hx hb d_S_product_14 rfl (lv_at hl 1 rfl) ?_
    refine va_getN (D := (dC, dI)) (ci := 3) (v := .int (nI k)) (C := R_T) (T := F_T) (N := 5) hx hb hg in_T hown hK (hP.one f1) 0 rfl rfl 0 (by decide) (hn _ u_404) (fun _ h9 => h9) rfl d_S_product_15 ?_
    refine fw_iald (tys := tyl dA) hx hb hK hP p6 0 rfl (j := k) (by omega) (by decide) d_S_product_18 ?_
    refine nu_ge (tgt := 38) hx hb (by omega) (by omega) d_S_product_19 (by decide) (fun c1 => ?_) (fun c1 => ?_)
    · rw [List.drop_eq_nil_of_le (by rw [parts_len]; omega)] at heq
      refine lv_lload_n hx hb d_S_product_38 rfl (lv_at hl 2 rfl) ?_
      refine W.widen (k := 3 * dm x.2 fin9.2.2) (n := 11 * dm x.2 fin9.2.2) (by unfold dm; omega) (by unfold dm; omega) ?_
      exact W.lret (v := acc) hx hb hr (fun tS ht hW => ⟨⟨acc, wl, rfl, ⟨by rw [← heq]; rfl, Fz1, rows1, by rw [← heq]; exact hX1⟩, mB_of ht hP⟩, hS.F ht⟩) hS.2.2 d_S_product_39
    · rw [parts_drop c1] at heq
      have hKa := Kp_ask (Kp_sv P wk (n0 + 1)) (p_pt P k i) xi
      have hmd3 : s_md (askV (sv P wk (n0 + 1)) (p_pt P k i) xi).2.2 ≤ s_md fin9.2.2 := by rw [← heq]; exact (Kp_fold (Kp_sv P wk (n0 + 1)) _ _ _ _).2.2.1
      have hma := hKa.2.2.1
      refine lv_lload_n hx hb d_S_product_22 rfl (lv_at hl 2 rfl) ?_
      refine lv_aload_n hx hb d_S_product_23 rfl (lv_at hl 0 rfl) ?_
      refine lv_aload_n hx hb d_S_product_24 rfl (lv_at hl 1 rfl) ?_
      refine lv_iload hx hb d_S_product_25 (lv_at hl 3 rfl) ?_
      refine va_calll (rn_V (n := 2) (As := [.ref h, .int (nI i)]) (rest := [.long acc]) (C := R_S) (T := F_S) (N := 9) (ci := 2) X hP hS (c_S_askPart B0 wl ad Fz1 P wk rows1 h kt vt k xi i n0 IH (Nat.le_trans hKp.fr hfr0) hinj hX1.1 hk hpo hkd c1) k_436 k_438 k_23 k_57 k_439 (by decide +kernel) rfl rfl ⟨by dsimp only; omega, by dsimp only; omega⟩ g0 rfl rfl hl.1 rfl (Nat.le_of_ble_eq_true rfl) d_S_product_27 ⟨by dsimp only [dm]; omega, by dsimp only [dm]; omega⟩) hS (fun q _ h => h) (fun q h => h) (fun r w38 tS H locs ht hvm hw hB hz1 hk1 hS => ?_)
      have hP : fw_P (dC, dI) cls_ (AA s0) w38 H := by rw [← ht]; exact hB
      obtain ⟨rfl, Fz2, rows2, hX2⟩ := hw
      have hX3 := VX.tr hX1 hX2 hKp.1
      refine lv_lmul hx hb d_S_product_30 ?_
      refine lv_lstore_n (lv' := [(2, .long (acc * ((askV (sv P wk (n0 + 1)) (p_pt P k i) xi).1))), (0, .ref (ad 0)), (1, .ref h), (4, .int (nI i))]) hx hb d_S_product_31 rfl hl (by decide) rfl (fun ls hl => ?_)
      refine lv_iinc (v := nI (i + 1)) (lv' := [(4, .int (nI (i + 1))), (2, .long (acc * ((askV (sv P wk (n0 + 1)) (p_pt P k i) xi).1))), (0, .ref (ad 0)), (1, .ref h)]) hx hb d_S_product_32 hl (k := 3) rfl (nI_add _ 1) (by decide) rfl (fun ls hl => ?_)
      refine lv_goto (tgt := 5) hx hb d_S_product_35 (by decide) ?_
      refine W.widen (k := 3 * dm x.2 (askV (sv P wk (n0 + 1)) (p_pt P k i) xi).2.2) (n := 11 * dm x.2 (askV (sv P wk (n0 + 1)) (p_pt P k i) xi).2.2) (by unfold dm; omega) (by unfold dm; omega) ?_
      exact ih (i + 1) (acc * (askV (sv P wk (n0 + 1)) (p_pt P k i) xi).1) ((askV (sv P wk (n0 + 1)) (p_pt P k i) xi).2) Fz2 rows2 (by omega) (hKp.tr hKa) heq (by omega) _ _ _  hX3 hP hS ls (lv_sub hl [2, 3, 1, 0] rfl)
set_option maxHeartbeats 4000000 in
set_option maxRecDepth 100000 in
theorem c_S_greatest {l : Launch} {s0 : State} {dC : Nat → ClassId} {dI : Nat → Nat → Nat} {dA : Nat → ClassId} (B0 : BB s0 dC dI dA) (w : fw_W) (ad : Nat → Nat) (Fz : Nat → Prop) (P : PD) (wk : Nat) (rows : Nat → Option Nat) (h kt vt k : Nat) (x : XS)  (n0 : Nat) (IH : VO l s0 dC dI dA ad P wk n0) (hfr0 : fr12 x.2 ≤ n0) (hinj : Inj ad) (hU : RU dA ad P wk h kt vt k Fz rows w x) (hk : k < 12) (hpo : p_ok P) (hkd : p_kd P k = 2)  : Met l y_S_greatest [.code y_S_greatest b_S_greatest 5 (some .long)] ({ frames := 7 * n0 + 7, cells := 3 * (dm x.2 (if p_cn P k = 0 then failV 1 x else foldV (sv P wk (n0 + 1)) (fun a b => if a < b then b else a) ((p_parts P k).drop 1) (askV (sv P wk (n0 + 1)) (p_pt P k 0) x).1 (askV (sv P wk (n0 + 1)) (p_pt P k 0) x).2).2.2), slots := 11 * (dm x.2 (if p_cn P k = 0 then failV 1 x else foldV (sv P wk (n0 + 1)) (fun a b => if a < b then b else a) ((p_parts P k).drop 1) (askV (sv P wk (n0 + 1)) (p_pt P k 0) x).1 (askV (sv P wk (n0 + 1)) (p_pt P k 0) x).2).2.2), locals := 210 * n0 + 150 }) (mP s0 dC dI w [.ref (ad 0), .ref h]) (mQl s0 dC dI (fun r w' => r = (if p_cn P k = 0 then failV 1 x else foldV (sv P wk (n0 + 1)) (fun a b => if a < b then b else a) ((p_parts P k).drop 1) (askV (sv P wk (n0 + 1)) (p_pt P k 0) x).1 (askV (sv P wk (n0 + 1)) (p_pt P k 0) x).2).1 ∧ ∃ (Fz' : Nat → Prop) (rows' : Nat → Option Nat), VX dA ad P wk h kt vt k Fz rows w x Fz' rows' w' (if p_cn P k = 0 then failV 1 x else foldV (sv P wk (n0 + 1)) (fun a b => if a < b then b else a) ((p_parts P k).drop 1) (askV (sv P wk (n0 + 1)) (p_pt P k 0) x).1 (askV (sv P wk (n0 + 1)) (p_pt P k 0) x).2).2)) (3 * (dm x.2 (if p_cn P k = 0 then failV 1 x else foldV (sv P wk (n0 + 1)) (fun a b => if a < b then b else a) ((p_parts P k).drop 1) (askV (sv P wk (n0 + 1)) (p_pt P k 0) x).1 (askV (sv P wk (n0 + 1)) (p_pt P k 0) x).2).2.2)) (11 * (dm x.2 (if p_cn P k = 0 then failV 1 x else foldV (sv P wk (n0 + 1)) (fun a b => if a < b then b else a) ((p_parts P k).drop 1) (askV (sv P wk (n0 + 1)) (p_pt P k 0) x).1 (askV (sv P wk (n0 + 1)) (p_pt P k 0) x).2).2.2)) (AA s0) := by
  have hpk := (hpo k hk).2 hkd
  have hc3 := hpk.2.1
  have hK1 := Kp_ask (Kp_sv P wk (n0 + 1)) (p_pt P k 0) x
  have cA := fun hi => c_S_askPart B0 w ad Fz P wk rows h kt vt k x 0 n0 IH hfr0 hinj hU hk hpo hkd hi
  generalize hA : askV (sv P wk (n0 + 1)) (p_pt P k 0) x = A9 at hK1 cA ⊢
  have hm1 := hK1.2.2.1
  have hfrA := Nat.le_trans hK1.fr hfr0
  refine mt_ofW B0 (by decide) (Nat.le_of_ble_eq_true rfl) (fun p e s m args below meth c ls hargs X hin hl hP => ?_)
  have X9 := X
  obtain ⟨hx, hb, hr, hml, hown, hg, hK, hn, hE, hlocks, hA⟩ := X9
  have hS : va_S (AA s0) s.heap s.heap [] := va_S.rf
  have hl : lv_has ls 5 [(0, .ref (ad 0)), (1, .ref h)] := hl
  obtain ⟨⟨g0, g1, g2, ⟨vf, g3, hvf⟩, g4⟩, hM4, hP6, hnF, hfl⟩ := (id hU.1)
  obtain ⟨p0, p1, p2, p3, ⟨rowsG, p4, hrowsG⟩, p5, p6, -⟩ := id hP6
  have p5k := p5 k hk
  have hrwk := hrowsG k hk
  obtain ⟨fk, fv, f1, f2, f3, hl3, hL⟩ := id hU.2.1
  rcases Classical.em (p_cn P k = 0) with hz | hz
  · rw [if_pos hz]
    refine lv_aload_n hx hb d_S_greatest_0 rfl (lv_at hl 0 rfl) ?_
    refine va_get (D := (dC, dI)) (ci := 2) (v := .ref (ad 9)) (C := R_S) (T := F_S) (N := 9) hx hb hg in_S hown hK (hP.one g0) 0 rfl rfl 0 (by decide) (hg _ k_139) (fun _ h9 => h9) rfl d_S_greatest_1 ?_
    refine va_getN (D := (dC, dI)) (ci := 1) (v := .ref (ad 14)) (C := R_P) (T := F_P) (N := 5) hx hb hg in_P hown hK (hP.one p0) 0 rfl rfl 4 (by decide) (hn _ u_94) (fun _ h9 => h9) rfl d_S_greatest_4 ?_
    refine lv_aload_n hx hb d_S_greatest_7 rfl (lv_at hl 1 rfl) ?_
    refine va_getN (D := (dC, dI)) (ci := 3) (v := .int (nI k)) (C := R_T) (T := F_T) (N := 5) hx hb hg in_T hown hK (hP.one f1) 0 rfl rfl 0 (by decide) (hn _ u_404) (fun _ h9 => h9) rfl d_S_greatest_8 ?_
    refine fw_iald (tys := tyl dA) hx hb hK hP p6 0 rfl (j := k) (by omega) (by decide) d_S_greatest_11 ?_
    refine lv_if_ne (tgt := 21) hx hb d_S_greatest_12 (by decide) (fun c1 => ?_) (fun c1 => ?_)
    · exact absurd (show nI (p_cn P k) = 0 by rw [hz]; rfl) c1
    · refine lv_aload_n hx hb d_S_greatest_15 rfl (lv_at hl 0 rfl) ?_
      refine lv_iconst (v := (nI 1)) hx hb d_S_greatest_16 (by decide) ?_
      have hmF : s_md (sFail 1 x.2) = s_md x.2 := rfl
      refine va_calll (rn_V (n := 1) (As := [.int (nI 1)]) (rest := []) (C := R_S) (T := F_S) (N := 9) (ci := 2) X hP hS (c_S_fail B0 w ad Fz P wk rows x.2 1 hinj hU.1 (by decide)) k_360 k_362 k_12 k_57 k_363 (by decide +kernel) rfl rfl ⟨by dsimp only; omega, by dsimp only; omega⟩ g0 rfl rfl hl.1 rfl (Nat.le_of_ble_eq_true rfl) d_S_greatest_17 ⟨by dsimp only [dm, failV]; omega, by dsimp only [dm, failV]; omega⟩) hS (fun q _ h => h) (fun q h => h) (fun r w39 tS H locs ht hvm hw hB hz1 hk1 hS => ?_)
      have hP : fw_P (dC, dI) cls_ (AA s0) w39 H := by rw [← ht]; exact hB
      obtain ⟨rfl, hRf, hof⟩ := hw
      have hX4 := hU.step (VQ.of (σ := x.2) hRf hof)
      refine W.widen (k := 3 * dm x.2 (failV 1 x).2.2) (n := 11 * dm x.2 (failV 1 x).2.2) (by omega) (by omega) ?_
      exact W.lret (v := 0) hx hb hr (fun tS ht hW => ⟨⟨0, w39, rfl, ⟨rfl, Fz, rows, hX4⟩, mB_of ht hP⟩, hS.F ht⟩) hS.2.2 d_S_greatest_20
  · rw [if_neg hz]
    have hmF : s_md A9.2.2 ≤ s_md (foldV (sv P wk (n0 + 1)) (fun a b => if a < b then b else a) ((p_parts P k).drop 1) A9.1 A9.2).2.2 := (Kp_fold (Kp_sv P wk (n0 + 1)) _ _ _ A9.2).2.2.1
    generalize hfin : foldV (sv P wk (n0 + 1)) (fun a b => if a < b then b else a) ((p_parts P k).drop 1) A9.1 A9.2 = fin9 at hmF ⊢
    refine lv_aload_n hx hb d_S_greatest_0 rfl (lv_at hl 0 rfl) ?_
    refine va_get (D := (dC, dI)) (ci := 2) (v := .ref (ad 9)) (C := R_S) (T := F_S) (N := 9) hx hb hg in_S hown hK (hP.one g0) 0 rfl rfl 0 (by decide) (hg _ k_139) (fun _ h9 => h9) rfl d_S_greatest_1 ?_
    refine va_getN (D := (dC, dI)) (ci := 1) (v := .ref (ad 14)) (C := R_P) (T := F_P) (N := 5) hx hb hg in_P hown hK (hP.one p0) 0 rfl rfl 4 (by decide) (hn _ u_94) (fun _ h9 => h9) rfl d_S_greatest_4 ?_
    refine lv_aload_n hx hb d_S_greatest_7 rfl (lv_at hl 1 rfl) ?_
    refine va_getN (D := (dC, dI)) (ci := 3) (v := .int (nI k)) (C := R_T) (T := F_T) (N := 5) hx hb hg in_T hown hK (hP.one f1) 0 rfl rfl 0 (by decide) (hn _ u_404) (fun _ h9 => h9) rfl d_S_greatest_8 ?_
    refine fw_iald (tys := tyl dA) hx hb hK hP p6 0 rfl (j := k) (by omega) (by decide) d_S_greatest_11 ?_
    refine lv_if_ne (tgt := 21) hx hb d_S_greatest_12 (by decide) (fun c1 => ?_) (fun c1 => ?_)
    · refine lv_aload_n hx hb d_S_greatest_21 rfl (lv_at hl 0 rfl) ?_
      refine lv_aload_n hx hb d_S_greatest_22 rfl (lv_at hl 1 rfl) ?_
      refine lv_iconst (v := (nI 0)) hx hb d_S_greatest_23 (by decide) ?_
      refine va_calll (rn_V (n := 2) (As := [.ref h, .int (nI 0)]) (rest := []) (C := R_S) (T := F_S) (N := 9) (ci := 2) X hP hS (cA (by omega)) k_436 k_438 k_23 k_57 k_439 (by decide +kernel) rfl rfl ⟨by dsimp only; omega, by dsimp only; omega⟩ g0 rfl rfl hl.1 rfl (Nat.le_of_ble_eq_true rfl) d_S_greatest_24 ⟨by dsimp only [dm]; omega, by dsimp only [dm]; omega⟩) hS (fun q _ h => h) (fun q h => h) (fun r w40 tS H locs ht hvm hw hB hz1 hk1 hS => ?_)
      have hP : fw_P (dC, dI) cls_ (AA s0) w40 H := by rw [← ht]; exact hB
      obtain ⟨rfl, Fz1, rows1, hX1⟩ := hw
      refine lv_lstore_n (lv' := [(2, .long A9.1), (0, .ref (ad 0)), (1, .ref h)]) hx hb d_S_greatest_27 rfl hl (by decide) rfl (fun ls hl => ?_)
      refine lv_iconst (v := (nI 1)) hx hb d_S_greatest_28 (by decide) ?_
      refine lv_istore (lv' := [(4, .int (nI 1)), (2, .long A9.1), (0, .ref (ad 0)), (1, .ref h)]) hx hb d_S_greatest_29 hl (by decide) rfl (fun ls hl => ?_)
      refine W.widen (k := 3 * dm x.2 A9.2.2) (n := 11 * dm x.2 A9.2.2) (by unfold dm; omega) (by unfold dm; omega) ?_
      suffices lp : ∀ (n : Nat) (i : Nat) (acc : Int64) (xi : XS) (Fz2 : Nat → Prop) (rows2 : Nat → Option Nat), (i ≤ p_cn P k) → (Kp x.2 xi.2) → (foldV (sv P wk (n0 + 1)) (fun a b => if a < b then b else a) ((p_parts P k).drop i) acc xi = fin9) → (p_cn P k < i + n) → ∀ (wl : fw_W) (H : Heap) (locs : List Loc), (VX dA ad P wk h kt vt k Fz rows w x Fz2 rows2 wl xi) → fw_P (dC, dI) cls_ (AA s0) wl H → va_S (AA s0) s.heap H locs → ∀ (ls : Array Slot), lv_has ls 5 [(0, .ref (ad 0)), (1, .ref h), (2, .long acc), (4, .int (nI i))] → W p l e _ s m args below meth c H locs (3 * dm x.2 xi.2) (11 * dm x.2 xi.2) (MQ below _ args s (3 * dm x.2 fin9.2.2) (11 * dm x.2 fin9.2.2) (AA s0)) (F0 m 31 ls []) from lp (p_cn P k + 1) 1 A9.1 A9.2 Fz1 rows1 (by omega) hK1 hfin (by omega) _ _ _  hX1 hP hS ls (lv_sub hl [2, 3, 1, 0] rfl)
      intro n
      induction n with
      | zero => intro i acc xi Fz2 rows2 hi hKp heq hbn; exact absurd hbn (by omega)
      | succ n ih =>
        intro i acc xi Fz2 rows2 hi hKp heq hbn wl H locs  hX2 hP hS ls hl
        obtain ⟨⟨g0, g1, g2, ⟨vf, g3, hvf⟩, g4⟩, hM4, hP6, hnF, hfl⟩ := (id hX2.1.1)
        obtain ⟨p0, p1, p2, p3, ⟨rowsG, p4, hrowsG⟩, p5, p6, -⟩ := id hP6
        have p5k := p5 k hk
        have hrwk := hrowsG k hk
        obtain ⟨fk, fv, f1, f2, f3, hl3, hL⟩ := id hX2.1.2.1
        have hmd := hKp.2.2.1
        have hmd2 : s_md xi.2 ≤ s_md fin9.2.2 := by rw [← heq]; exact (Kp_fold (Kp_sv P wk (n0 + 1)) _ _ _ xi).2.2.1
        refine lv_iload hx hb d_S_greatest_31 (lv_at hl 3 rfl) ?_
        refine lv_aload_n hx hb d_S_greatest_33 rfl (lv_at hl 0 rfl) ?_
        refine va_get (D := (dC, dI)) (ci := 2) (v := .ref (ad 9)) (C := R_S) (T := F_S) (N := 9) hx hb hg in_S hown hK (hP.one g0) 0 rfl rfl 0 (by decide) (hg _ k_139) (fun _ h9 => h9) rfl d_S_greatest_34 ?_
        refine va_getN (D := (dC, dI)) (ci := 1) (v := .ref (ad 14)) (C := R_P) (T := F_P) (N := 5) hx hb hg in_P hown hK (hP.one p0) 0 rfl rfl 4 (by decide) (hn _ u_94) (fun _ h9 => h9) rfl d_S_greatest_37 ?_
        refine lv_aload_n hx hb d_S_greatest_40 rfl (lv_at hl 1 rfl) ?_
        refine va_getN (D := (dC, dI)) (ci := 3) (v := .int (nI k)) (C := R_T) (T := F_T) (N := 5) hx hb hg in_T hown hK (hP.one f1) 0 rfl rfl 0 (by decide) (hn _ u_404) (fun _ h9 => h9) rfl d_S_greatest_41 ?_
        refine fw_iald (tys := tyl dA) hx hb hK hP p6 0 rfl (j := k) (by omega) (by decide) d_S_greatest_44 ?_
        refine nu_ge (tgt := 66) hx hb (by omega) (by omega) d_S_greatest_45 (by decide) (fun c2 => ?_) (fun c2 => ?_)
        · rw [List.drop_eq_nil_of_le (by rw [parts_len]; omega)] at heq
          refine lv_lload_n hx hb d_S_greatest_66 rfl (lv_at hl 2 rfl) ?_
          refine W.widen (k := 3 * dm x.2 fin9.2.2) (n := 11 * dm x.2 fin9.2.2) (by unfold dm; omega) (by unfold dm; omega) ?_
          exact W.lret (v := acc) hx hb hr (fun tS ht hW => ⟨⟨acc, wl, rfl, ⟨by rw [← heq]; rfl, Fz2, rows2, by rw [← heq]; exact hX2⟩, mB_of ht hP⟩, hS.F ht⟩) hS.2.2 d_S_greatest_67
        · rw [parts_drop c2] at heq
          have hKa := Kp_ask (Kp_sv P wk (n0 + 1)) (p_pt P k i) xi
          have hmd3 : s_md (askV (sv P wk (n0 + 1)) (p_pt P k i) xi).2.2 ≤ s_md fin9.2.2 := by rw [← heq]; exact (Kp_fold (Kp_sv P wk (n0 + 1)) _ _ _ _).2.2.1
          have hma := hKa.2.2.1
          refine lv_lload_n hx hb d_S_greatest_48 rfl (lv_at hl 2 rfl) ?_
          refine lv_aload_n hx hb d_S_greatest_49 rfl (lv_at hl 0 rfl) ?_
          refine lv_aload_n hx hb d_S_greatest_50 rfl (lv_at hl 1 rfl) ?_
          refine lv_iload hx hb d_S_greatest_51 (lv_at hl 3 rfl) ?_
          refine va_calll (rn_V (n := 2) (As := [.ref h, .int (nI i)]) (rest := [.long acc]) (C := R_S) (T := F_S) (N := 9) (ci := 2) X hP hS (c_S_askPart B0 wl ad Fz2 P wk rows2 h kt vt k xi i n0 IH (Nat.le_trans hKp.fr hfr0) hinj hX2.1 hk hpo hkd c2) k_436 k_438 k_23 k_57 k_439 (by decide +kernel) rfl rfl ⟨by dsimp only; omega, by dsimp only; omega⟩ g0 rfl rfl hl.1 rfl (Nat.le_of_ble_eq_true rfl) d_S_greatest_53 ⟨by dsimp only [dm]; omega, by dsimp only [dm]; omega⟩) hS (fun q _ h => h) (fun q h => h) (fun r w41 tS H locs ht hvm hw hB hz1 hk1 hS => ?_)
          have hP : fw_P (dC, dI) cls_ (AA s0) w41 H := by rw [← ht]; exact hB
          obtain ⟨rfl, Fz3, rows3, hX3⟩ := hw
          have hX4 := VX.tr hX2 hX3 hKp.1
          refine va_calll (rn_S (n := 2) (As := [.long acc, .long ((askV (sv P wk (n0 + 1)) (p_pt P k i) xi).1)]) (rest := []) X hP hS (c_J_max B0 w41 acc (askV (sv P wk (n0 + 1)) (p_pt P k i) xi).1) k_472 k_473 k_65 k_474 (by decide +kernel) rfl rfl ⟨by dsimp only; omega, by dsimp only; omega⟩ rfl hl.1 rfl (Nat.le_of_ble_eq_true rfl) d_S_greatest_56 ⟨by dsimp only [dm]; omega, by dsimp only [dm]; omega⟩) hS (fun q _ h => h) (fun q h => h) (fun r w42 tS H locs ht hvm hw hB hz1 hk1 hS => ?_)
          have hP : fw_P (dC, dI) cls_ (AA s0) w42 H := by rw [← ht]; exact hB
          obtain ⟨ew8, rfl⟩ := hw
          rw [ew8] at hP
          refine lv_lstore_n (lv' := [(2, .long (if acc < (askV (sv P wk (n0 + 1)) (p_pt P k i) xi).1 then (askV (sv P wk (n0 + 1)) (p_pt P k i) xi).1 else acc)), (0, .ref (ad 0)), (1, .ref h), (4, .int (nI i))]) hx hb d_S_greatest_59 rfl hl (by decide) rfl (fun ls hl => ?_)
          refine lv_iinc (v := nI (i + 1)) (lv' := [(4, .int (nI (i + 1))), (2, .long (if acc < (askV (sv P wk (n0 + 1)) (p_pt P k i) xi).1 then (askV (sv P wk (n0 + 1)) (p_pt P k i) xi).1 else acc)), (0, .ref (ad 0)), (1, .ref h)]) hx hb d_S_greatest_60 hl (k := 3) rfl (nI_add _ 1) (by decide) rfl (fun ls hl => ?_)
          refine lv_goto (tgt := 31) hx hb d_S_greatest_63 (by decide) ?_
          refine W.widen (k := 3 * dm x.2 (askV (sv P wk (n0 + 1)) (p_pt P k i) xi).2.2) (n := 11 * dm x.2 (askV (sv P wk (n0 + 1)) (p_pt P k i) xi).2.2) (by unfold dm; omega) (by unfold dm; omega) ?_
          exact ih (i + 1) (if acc < (askV (sv P wk (n0 + 1)) (p_pt P k i) xi).1 then (askV (sv P wk (n0 + 1)) (p_pt P k i) xi).1 else acc) ((askV (sv P wk (n0 + 1)) (p_pt P k i) xi).2) Fz3 rows3 (by omega) (hKp.tr hKa) heq (by omega) _ _ _  hX4 hP hS ls (lv_sub hl [2, 3, 1, 0] rfl)
    · exact absurd ((nI_eq (by omega) (by decide)).mp c1) hz
