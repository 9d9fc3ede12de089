set_option maxHeartbeats 4000000 in
set_option maxRecDepth 100000 in
theorem c_S_until {l : Launch} {s0 : State} {dC : Nat → ClassId} {dI : Nat → Nat → Nat} {dA : Nat → ClassId} (B0 : BB s0 dC dI dA) (w : fw_W) (ad : Nat → Nat) (Fz : Nat → Prop) (P : PD) (wk : Nat) (rows : Nat → Option Nat) (h kt vt k : Nat) (x : XS)  (n0 : Nat) (IH : VO l s0 dC dI dA ad P wk n0) (hfr0 : fr12 x.2 ≤ n0) (hinj : Inj ad) (hU : RU dA ad P wk h kt vt k Fz rows w x) (hk : k < 12) (hpo : p_ok P) (hkd : p_kd P k = 2) (hrl : p_rl P k = 7) : Met l y_S_until [.code y_S_until b_S_until 6 (some .long)] ({ frames := 7 * n0 + 7, cells := 3 * (dm x.2 (foldV (sv P wk (n0 + 1)) (fun a b => a + b) (List.replicate (fMod (askV (sv P wk (n0 + 1)) (p_pt P k 0) x).1 4).toInt32.toNatClampNeg (p_pt P k 1)) (askV (sv P wk (n0 + 1)) (p_pt P k 0) x).1 (askV (sv P wk (n0 + 1)) (p_pt P k 0) x).2).2.2), slots := 11 * (dm x.2 (foldV (sv P wk (n0 + 1)) (fun a b => a + b) (List.replicate (fMod (askV (sv P wk (n0 + 1)) (p_pt P k 0) x).1 4).toInt32.toNatClampNeg (p_pt P k 1)) (askV (sv P wk (n0 + 1)) (p_pt P k 0) x).1 (askV (sv P wk (n0 + 1)) (p_pt P k 0) x).2).2.2), locals := 210 * n0 + 150 }) (mP s0 dC dI w [.ref (ad 0), .ref h]) (mQl s0 dC dI (fun r w' => r = (foldV (sv P wk (n0 + 1)) (fun a b => a + b) (List.replicate (fMod (askV (sv P wk (n0 + 1)) (p_pt P k 0) x).1 4).toInt32.toNatClampNeg (p_pt P k 1)) (askV (sv P wk (n0 + 1)) (p_pt P k 0) x).1 (askV (sv P wk (n0 + 1)) (p_pt P k 0) x).2).1 ∧ ∃ (Fz' : Nat → Prop) (rows' : Nat → Option Nat), VX dA ad P wk h kt vt k Fz rows w x Fz' rows' w' (foldV (sv P wk (n0 + 1)) (fun a b => a + b) (List.replicate (fMod (askV (sv P wk (n0 + 1)) (p_pt P k 0) x).1 4).toInt32.toNatClampNeg (p_pt P k 1)) (askV (sv P wk (n0 + 1)) (p_pt P k 0) x).1 (askV (sv P wk (n0 + 1)) (p_pt P k 0) x).2).2)) (3 * (dm x.2 (foldV (sv P wk (n0 + 1)) (fun a b => a + b) (List.replicate (fMod (askV (sv P wk (n0 + 1)) (p_pt P k 0) x).1 4).toInt32.toNatClampNeg (p_pt P k 1)) (askV (sv P wk (n0 + 1)) (p_pt P k 0) x).1 (askV (sv P wk (n0 + 1)) (p_pt P k 0) x).2).2.2)) (11 * (dm x.2 (foldV (sv P wk (n0 + 1)) (fun a b => a + b) (List.replicate (fMod (askV (sv P wk (n0 + 1)) (p_pt P k 0) x).1 4).toInt32.toNatClampNeg (p_pt P k 1)) (askV (sv P wk (n0 + 1)) (p_pt P k 0) x).1 (askV (sv P wk (n0 + 1)) (p_pt P k 0) x).2).2.2)) (AA s0) := by
  have hpk := (hpo k hk).2 hkd
  have hc3 := hpk.2.1
  have hcn : 2 ≤ p_cn P k := by have h9 := hpk.2.2.1; rw [hrl] at h9; exact h9
  have hK1 := Kp_ask (Kp_sv P wk (n0 + 1)) (p_pt P k 0) x
  have cA := fun hi => c_S_askPart B0 w ad Fz P wk rows h kt vt k x 0 n0 IH hfr0 hinj hU hk hpo hkd hi
  generalize hA : askV (sv P wk (n0 + 1)) (p_pt P k 0) x = A9 at hK1 cA ⊢
  have hm1 := hK1.2.2.1
  have hfrA := Nat.le_trans hK1.fr hfr0
  have hf4 := fMod4 A9.1
  generalize ht9 : (fMod A9.1 4).toInt32.toNatClampNeg = t9 at hf4 ⊢
  have hmF : s_md A9.2.2 ≤ s_md (foldV (sv P wk (n0 + 1)) (fun a b => a + b) (List.replicate t9 (p_pt P k 1)) A9.1 A9.2).2.2 := (Kp_fold (Kp_sv P wk (n0 + 1)) _ _ _ A9.2).2.2.1
  generalize hfin : foldV (sv P wk (n0 + 1)) (fun a b => a + b) (List.replicate t9 (p_pt P k 1)) A9.1 A9.2 = fin9 at hmF ⊢
  refine mt_ofW B0 (by decide) (Nat.le_of_ble_eq_true rfl) (fun p e s m args below meth c ls hargs X hin hl hP => ?_)
  have X9 := X
  obtain ⟨hx, hb, hr, hml, hown, hg, hK, hn, hE, hlocks, hA⟩ := X9
  have hS : va_S (AA s0) s.heap s.heap [] := va_S.rf
  have hl : lv_has ls 6 [(0, .ref (ad 0)), (1, .ref h)] := hl
  obtain ⟨⟨g0, g1, g2, ⟨vf, g3, hvf⟩, g4⟩, hM4, hP6, hnF, hfl⟩ := (id hU.1)
  refine lv_aload_n hx hb d_S_until_0 rfl (lv_at hl 0 rfl) ?_
  refine lv_aload_n hx hb d_S_until_1 rfl (lv_at hl 1 rfl) ?_
  refine lv_iconst (v := (nI 0)) hx hb d_S_until_2 (by decide) ?_
  refine va_calll (rn_V (n := 2) (As := [.ref h, .int (nI 0)]) (rest := []) (C := R_S) (T := F_S) (N := 9) (ci := 2) X hP hS (cA (by omega)) k_436 k_438 k_23 k_57 k_439 (by decide +kernel) rfl rfl ⟨by dsimp only; omega, by dsimp only; omega⟩ g0 rfl rfl hl.1 rfl (Nat.le_of_ble_eq_true rfl) d_S_until_3 ⟨by dsimp only [dm]; omega, by dsimp only [dm]; omega⟩) hS (fun q _ h => h) (fun q h => h) (fun r w43 tS H locs ht hvm hw hB hz1 hk1 hS => ?_)
  have hP : fw_P (dC, dI) cls_ (AA s0) w43 H := by rw [← ht]; exact hB
  obtain ⟨rfl, Fz1, rows1, hX1⟩ := hw
  refine lv_lstore_n (lv' := [(2, .long A9.1), (0, .ref (ad 0)), (1, .ref h)]) hx hb d_S_until_6 rfl hl (by decide) rfl (fun ls hl => ?_)
  refine lv_lload_n hx hb d_S_until_7 rfl (lv_at hl 0 rfl) ?_
  refine lv_ldc2 (v := 4) hx hb hown (hg _ k_479) d_S_until_8 ?_
  refine va_calll (rn_S (n := 2) (As := [.long A9.1, .long 4]) (rest := []) X hP hS (c_J_floorMod B0 w43 A9.1 4 (by decide)) k_461 k_462 k_65 k_463 (by decide +kernel) rfl rfl ⟨by dsimp only; omega, by dsimp only; omega⟩ rfl hl.1 rfl (Nat.le_of_ble_eq_true rfl) d_S_until_11 ⟨by dsimp only [dm]; omega, by dsimp only [dm]; omega⟩) hS (fun q _ h => h) (fun q h => h) (fun r w44 tS H locs ht hvm hw hB hz1 hk1 hS => ?_)
  have hP : fw_P (dC, dI) cls_ (AA s0) w44 H := by rw [← ht]; exact hB
  obtain ⟨ew8, rfl⟩ := hw
  rw [ew8] at hP
  refine lv_l2i (v := (fMod A9.1 4).toInt32) hx hb d_S_until_14 rfl ?_
  rw [hf4.1]
  refine lv_istore (lv' := [(4, .int (nI t9)), (2, .long A9.1), (0, .ref (ad 0)), (1, .ref h)]) hx hb d_S_until_15 hl (by decide) rfl (fun ls hl => ?_)
  refine lv_iconst (v := (nI 0)) hx hb d_S_until_17 (by decide) ?_
  refine lv_istore (lv' := [(5, .int (nI 0)), (4, .int (nI t9)), (2, .long A9.1), (0, .ref (ad 0)), (1, .ref h)]) hx hb d_S_until_18 hl (by decide) rfl (fun ls hl => ?_)
  refine W.widen (k := 3 * dm x.2 A9.2.2) (n := 11 * dm x.2 A9.2.2) (by unfold dm; omega) (by unfold dm; omega) ?_
  suffices lp : ∀ (n : Nat) (i : Nat) (acc : Int64) (xi : XS) (Fz2 : Nat → Prop) (rows2 : Nat → Option Nat), (i ≤ t9) → (Kp x.2 xi.2) → (foldV (sv P wk (n0 + 1)) (fun a b => a + b) ((List.replicate t9 (p_pt P k 1)).drop i) acc xi = fin9) → (t9 < i + n) → ∀ (wl : fw_W) (H : Heap) (locs : List Loc), (VX dA ad P wk h kt vt k Fz rows w x Fz2 rows2 wl xi) → fw_P (dC, dI) cls_ (AA s0) wl H → va_S (AA s0) s.heap H locs → ∀ (ls : Array Slot), lv_has ls 6 [(0, .ref (ad 0)), (1, .ref h), (2, .long acc), (4, .int (nI t9)), (5, .int (nI i))] → W p l e _ s m args below meth c H locs (3 * dm x.2 xi.2) (11 * dm x.2 xi.2) (MQ below _ args s (3 * dm x.2 fin9.2.2) (11 * dm x.2 fin9.2.2) (AA s0)) (F0 m 20 ls []) from lp (t9 + 1) 0 A9.1 A9.2 Fz1 rows1 (Nat.zero_le _) hK1 hfin (by omega) _ _ _  hX1 hP hS ls (lv_sub hl [3, 4, 2, 1, 0] rfl)
  intro n
  induction n with
  | zero => intro i acc xi Fz2 rows2 hi hKp heq hbn; exact absurd hbn (by omega)
  | succ n ih =>
    intro i acc xi Fz2 rows2 hi hKp heq hbn wl H locs  hX2 hP hS ls hl
    obtain ⟨⟨g0, g1, g2, ⟨vf, g3, hvf⟩, g4⟩, hM4, hP6, hnF, hfl⟩ := (id hX2.1.1)
    have hmd := hKp.2.2.1
    have hmd2 : s_md xi.2 ≤ s_md fin9.2.2 := by rw [← heq]; exact (Kp_fold (Kp_sv P wk (n0 + 1)) _ _ _ xi).2.2.1
    refine lv_iload hx hb d_S_until_20 (lv_at hl 4 rfl) ?_
    refine lv_iload hx hb d_S_until_22 (lv_at hl 3 rfl) ?_
    refine nu_ge (tgt := 42) hx hb (by omega) (by omega) d_S_until_24 (by decide) (fun c2 => ?_) (fun c2 => ?_)
    · rw [List.drop_eq_nil_of_le (by rw [List.length_replicate]; omega)] at heq
      refine lv_lload_n hx hb d_S_until_42 rfl (lv_at hl 2 rfl) ?_
      refine W.widen (k := 3 * dm x.2 fin9.2.2) (n := 11 * dm x.2 fin9.2.2) (by unfold dm; omega) (by unfold dm; omega) ?_
      exact W.lret (v := acc) hx hb hr (fun tS ht hW => ⟨⟨acc, wl, rfl, ⟨by rw [← heq]; rfl, Fz2, rows2, by rw [← heq]; exact hX2⟩, mB_of ht hP⟩, hS.F ht⟩) hS.2.2 d_S_until_43
    · rw [rep_drop c2] at heq
      have hKa := Kp_ask (Kp_sv P wk (n0 + 1)) (p_pt P k 1) xi
      have hmd3 : s_md (askV (sv P wk (n0 + 1)) (p_pt P k 1) xi).2.2 ≤ s_md fin9.2.2 := by rw [← heq]; exact (Kp_fold (Kp_sv P wk (n0 + 1)) _ _ _ _).2.2.1
      have hma := hKa.2.2.1
      refine lv_lload_n hx hb d_S_until_27 rfl (lv_at hl 2 rfl) ?_
      refine lv_aload_n hx hb d_S_until_28 rfl (lv_at hl 0 rfl) ?_
      refine lv_aload_n hx hb d_S_until_29 rfl (lv_at hl 1 rfl) ?_
      refine lv_iconst (v := (nI 1)) hx hb d_S_until_30 (by decide) ?_
      refine va_calll (rn_V (n := 2) (As := [.ref h, .int (nI 1)]) (rest := [.long acc]) (C := R_S) (T := F_S) (N := 9) (ci := 2) X hP hS (c_S_askPart B0 wl ad Fz2 P wk rows2 h kt vt k xi 1 n0 IH (Nat.le_trans hKp.fr hfr0) hinj hX2.1 hk hpo hkd (by omega)) k_436 k_438 k_23 k_57 k_439 (by decide +kernel) rfl rfl ⟨by dsimp only; omega, by dsimp only; omega⟩ g0 rfl rfl hl.1 rfl (Nat.le_of_ble_eq_true rfl) d_S_until_31 ⟨by dsimp only [dm]; omega, by dsimp only [dm]; omega⟩) hS (fun q _ h => h) (fun q h => h) (fun r w45 tS H locs ht hvm hw hB hz1 hk1 hS => ?_)
      have hP : fw_P (dC, dI) cls_ (AA s0) w45 H := by rw [← ht]; exact hB
      obtain ⟨rfl, Fz3, rows3, hX3⟩ := hw
      have hX4 := VX.tr hX2 hX3 hKp.1
      refine lv_ladd hx hb d_S_until_34 ?_
      refine lv_lstore_n (lv' := [(2, .long (acc + ((askV (sv P wk (n0 + 1)) (p_pt P k 1) xi).1))), (0, .ref (ad 0)), (1, .ref h), (4, .int (nI t9)), (5, .int (nI i))]) hx hb d_S_until_35 rfl hl (by decide) rfl (fun ls hl => ?_)
      refine lv_iinc (v := nI (i + 1)) (lv' := [(5, .int (nI (i + 1))), (2, .long (acc + ((askV (sv P wk (n0 + 1)) (p_pt P k 1) xi).1))), (0, .ref (ad 0)), (1, .ref h), (4, .int (nI t9))]) hx hb d_S_until_36 hl (k := 4) rfl (nI_add _ 1) (by decide) rfl (fun ls hl => ?_)
      refine lv_goto (tgt := 20) hx hb d_S_until_39 (by decide) ?_
      refine W.widen (k := 3 * dm x.2 (askV (sv P wk (n0 + 1)) (p_pt P k 1) xi).2.2) (n := 11 * dm x.2 (askV (sv P wk (n0 + 1)) (p_pt P k 1) xi).2.2) (by unfold dm; omega) (by unfold dm; omega) ?_
      exact ih (i + 1) (acc + (askV (sv P wk (n0 + 1)) (p_pt P k 1) xi).1) ((askV (sv P wk (n0 + 1)) (p_pt P k 1) xi).2) Fz3 rows3 (by omega) (hKp.tr hKa) heq (by omega) _ _ _  hX4 hP hS ls (lv_sub hl [2, 3, 1, 4, 0] rfl)
set_option maxHeartbeats 4000000 in
set_option maxRecDepth 100000 in
theorem c_S_ruleValue {l : Launch} {s0 : State} {dC : Nat → ClassId} {dI : Nat → Nat → Nat} {dA : Nat → ClassId} (B0 : BB s0 dC dI dA) (w : fw_W) (ad : Nat → Nat) (Fz : Nat → Prop) (P : PD) (wk : Nat) (rows : Nat → Option Nat) (h kt vt k : Nat) (x : XS)  (n0 : Nat) (IH : VO l s0 dC dI dA ad P wk n0) (hfr0 : fr12 x.2 ≤ n0) (hinj : Inj ad) (hU : RU dA ad P wk h kt vt k Fz rows w x) (hk : k < 12) (hpo : p_ok P) (hkd : p_kd P k = 2)  : Met l y_S_ruleValue [.code y_S_ruleValue b_S_ruleValue 2 (some .long)] ({ frames := 7 * n0 + 8, cells := 3 * (dm x.2 (ruleV (sv P wk (n0 + 1)) P k x).2.2), slots := 11 * (dm x.2 (ruleV (sv P wk (n0 + 1)) P k x).2.2), locals := 210 * n0 + 180 }) (mP s0 dC dI w [.ref (ad 0), .ref h]) (mQl s0 dC dI (fun r w' => r = (ruleV (sv P wk (n0 + 1)) P k x).1 ∧ ∃ (Fz' : Nat → Prop) (rows' : Nat → Option Nat), VX dA ad P wk h kt vt k Fz rows w x Fz' rows' w' (ruleV (sv P wk (n0 + 1)) P k x).2)) (3 * (dm x.2 (ruleV (sv P wk (n0 + 1)) P k x).2.2)) (11 * (dm x.2 (ruleV (sv P wk (n0 + 1)) P k x).2.2)) (AA s0) := by
  have hpk := (hpo k hk).2 hkd
  have hc3 := hpk.2.1
  have hr10 := hpk.1
  refine mt_ofW B0 (by decide) (Nat.le_of_ble_eq_true rfl) (fun p e s m args below meth c ls hargs X hin hl hP => ?_)
  have X9 := X
  obtain ⟨hx, hb, hr, hml, hown, hg, hK, hn, hE, hlocks, hA⟩ := X9
  have hS : va_S (AA s0) s.heap s.heap [] := va_S.rf
  have hl : lv_has ls 2 [(0, .ref (ad 0)), (1, .ref h)] := hl
  obtain ⟨⟨g0, g1, g2, ⟨vf, g3, hvf⟩, g4⟩, hM4, hP6, hnF, hfl⟩ := (id hU.1)
  obtain ⟨p0, p1, p2, p3, ⟨rowsG, p4, hrowsG⟩, p5, p6, -⟩ := id hP6
  have p5k := p5 k hk
  have hrwk := hrowsG k hk
  obtain ⟨fk, fv, f1, f2, f3, hl3, hL⟩ := id hU.2.1
  refine lv_aload_n hx hb d_S_ruleValue_0 rfl (lv_at hl 0 rfl) ?_
  refine va_get (D := (dC, dI)) (ci := 2) (v := .ref (ad 9)) (C := R_S) (T := F_S) (N := 9) hx hb hg in_S hown hK (hP.one g0) 0 rfl rfl 0 (by decide) (hg _ k_139) (fun _ h9 => h9) rfl d_S_ruleValue_1 ?_
  refine va_getN (D := (dC, dI)) (ci := 1) (v := .ref (ad 12)) (C := R_P) (T := F_P) (N := 5) hx hb hg in_P hown hK (hP.one p0) 0 rfl rfl 2 (by decide) (hn _ u_90) (fun _ h9 => h9) rfl d_S_ruleValue_4 ?_
  refine lv_aload_n hx hb d_S_ruleValue_7 rfl (lv_at hl 1 rfl) ?_
  refine va_getN (D := (dC, dI)) (ci := 3) (v := .int (nI k)) (C := R_T) (T := F_T) (N := 5) hx hb hg in_T hown hK (hP.one f1) 0 rfl rfl 0 (by decide) (hn _ u_404) (fun _ h9 => h9) rfl d_S_ruleValue_8 ?_
  refine fw_iald (tys := tyl dA) hx hb hK hP p3 0 rfl (j := k) (by omega) (by decide) d_S_ruleValue_11 ?_
  rcases (show p_rl P k = 0 ∨ p_rl P k = 1 ∨ p_rl P k = 2 ∨ p_rl P k = 3 ∨ p_rl P k = 4 ∨ p_rl P k = 5 ∨ p_rl P k = 6 ∨ p_rl P k = 7 ∨ p_rl P k = 8 ∨ p_rl P k = 9 by omega) with hrl | hrl | hrl | hrl | hrl | hrl | hrl | hrl | hrl | hrl
  · rw [show nf (p_rl P) k = nI 0 from congrArg nI hrl]
    refine lv_tableIn (off := 56) (tgt := 68) hx hb d_S_ruleValue_12 (by decide) (by decide) (by decide) (by decide) ?_
    have cR := c_S_sum B0 w ad Fz P wk rows h kt vt k x n0 IH hfr0 hinj hU hk hpo hkd
    rw [show ruleV (sv P wk (n0 + 1)) P k x = (foldV (sv P wk (n0 + 1)) (fun a b => a + b) (p_parts P k) 0 x) from by unfold ruleV; rw [hrl]; rfl]
    refine lv_aload_n hx hb d_S_ruleValue_68 rfl (lv_at hl 0 rfl) ?_
    refine lv_aload_n hx hb d_S_ruleValue_69 rfl (lv_at hl 1 rfl) ?_
    refine va_calll (rn_V (n := 1) (As := [.ref h]) (rest := []) (C := R_S) (T := F_S) (N := 9) (ci := 2) X hP hS (cR) k_432 k_434 k_22 k_57 k_435 (by decide +kernel) rfl rfl ⟨by dsimp only; omega, by dsimp only; omega⟩ g0 rfl rfl hl.1 rfl (Nat.le_of_ble_eq_true rfl) d_S_ruleValue_70 ⟨by dsimp only; omega, by dsimp only; omega⟩) hS (fun q _ h => h) (fun q h => h) (fun r w46 tS H locs ht hvm hw hB hz1 hk1 hS => ?_)
    have hP : fw_P (dC, dI) cls_ (AA s0) w46 H := by rw [← ht]; exact hB
    refine W.cs (Nat.zero_add _) (Nat.zero_add _) ?_
    exact W.lret (v := r) hx hb hr (fun tS ht hW => ⟨⟨r, w46, rfl, hw, mB_of ht hP⟩, hS.F ht⟩) hS.2.2 d_S_ruleValue_73
  · rw [show nf (p_rl P) k = nI 1 from congrArg nI hrl]
    refine lv_tableIn (off := 62) (tgt := 74) hx hb d_S_ruleValue_12 (by decide) (by decide) (by decide) (by decide) ?_
    have cR := c_S_product B0 w ad Fz P wk rows h kt vt k x n0 IH hfr0 hinj hU hk hpo hkd
    rw [show ruleV (sv P wk (n0 + 1)) P k x = (foldV (sv P wk (n0 + 1)) (fun a b => a * b) (p_parts P k) 1 x) from by unfold ruleV; rw [hrl]; rfl]
    refine lv_aload_n hx hb d_S_ruleValue_74 rfl (lv_at hl 0 rfl) ?_
    refine lv_aload_n hx hb d_S_ruleValue_75 rfl (lv_at hl 1 rfl) ?_
    refine va_calll (rn_V (n := 1) (As := [.ref h]) (rest := []) (C := R_S) (T := F_S) (N := 9) (ci := 2) X hP hS (cR) k_452 k_454 k_27 k_57 k_455 (by decide +kernel) rfl rfl ⟨by dsimp only; omega, by dsimp only; omega⟩ g0 rfl rfl hl.1 rfl (Nat.le_of_ble_eq_true rfl) d_S_ruleValue_76 ⟨by dsimp only; omega, by dsimp only; omega⟩) hS (fun q _ h => h) (fun q h => h) (fun r w47 tS H locs ht hvm hw hB hz1 hk1 hS => ?_)
    have hP : fw_P (dC, dI) cls_ (AA s0) w47 H := by rw [← ht]; exact hB
    refine W.cs (Nat.zero_add _) (Nat.zero_add _) ?_
    exact W.lret (v := r) hx hb hr (fun tS ht hW => ⟨⟨r, w47, rfl, hw, mB_of ht hP⟩, hS.F ht⟩) hS.2.2 d_S_ruleValue_79
  · rw [show nf (p_rl P) k = nI 2 from congrArg nI hrl]
    refine lv_tableIn (off := 68) (tgt := 80) hx hb d_S_ruleValue_12 (by decide) (by decide) (by decide) (by decide) ?_
    have hcn : 3 ≤ p_cn P k := by have h9 := hpk.2.2.1; rw [hrl] at h9; exact h9
    rw [show ruleV (sv P wk (n0 + 1)) P k x = askV (sv P wk (n0 + 1)) (if 0 < (askV (sv P wk (n0 + 1)) (p_pt P k 0) x).1 then (p_pt P k 1) else (p_pt P k 2)) (askV (sv P wk (n0 + 1)) (p_pt P k 0) x).2 from by unfold ruleV; rw [hrl]; rfl]
    have hK1 := Kp_ask (Kp_sv P wk (n0 + 1)) (p_pt P k 0) x
    have cA := fun hi => c_S_askPart B0 w ad Fz P wk rows h kt vt k x 0 n0 IH hfr0 hinj hU hk hpo hkd hi
    generalize hA : askV (sv P wk (n0 + 1)) (p_pt P k 0) x = A9 at hK1 cA ⊢
    have hm1 := hK1.2.2.1
    have hfrA := Nat.le_trans hK1.fr hfr0
    have hK2 := fun q => Kp_ask (Kp_sv P wk (n0 + 1)) q A9.2
    rcases Classical.em (0 < A9.1) with hz | hz
    · rw [if_pos hz]
      have hm2 := (hK2 (p_pt P k 1)).2.2.1
      refine lv_aload_n hx hb d_S_ruleValue_80 rfl (lv_at hl 0 rfl) ?_
      refine lv_aload_n hx hb d_S_ruleValue_81 rfl (lv_at hl 1 rfl) ?_
      refine lv_aload_n hx hb d_S_ruleValue_82 rfl (lv_at hl 0 rfl) ?_
      refine lv_aload_n hx hb d_S_ruleValue_83 rfl (lv_at hl 1 rfl) ?_
      refine lv_iconst (v := (nI 0)) hx hb d_S_ruleValue_84 (by decide) ?_
      refine va_calll (rn_V (n := 2) (As := [.ref h, .int (nI 0)]) (rest := [.ref h, .ref (ad 0)]) (C := R_S) (T := F_S) (N := 9) (ci := 2) X hP hS (cA (by omega)) k_436 k_438 k_23 k_57 k_439 (by decide +kernel) rfl rfl ⟨by dsimp only; omega, by dsimp only; omega⟩ g0 rfl rfl hl.1 rfl (Nat.le_of_ble_eq_true rfl) d_S_ruleValue_85 ⟨by dsimp only [dm]; omega, by dsimp only [dm]; omega⟩) hS (fun q _ h => h) (fun q h => h) (fun r w48 tS H locs ht hvm hw hB hz1 hk1 hS => ?_)
      have hP : fw_P (dC, dI) cls_ (AA s0) w48 H := by rw [← ht]; exact hB
      obtain ⟨rfl, Fz1, rows1, hX1⟩ := hw
      refine lv_lconst (v := 0) hx hb d_S_ruleValue_88 (by decide) ?_
      refine W.lcmp hx hb d_S_ruleValue_89 ?_
      refine lv_if_le (tgt := 97) hx hb d_S_ruleValue_90 (by decide) (fun c1 => ?_) (fun c1 => ?_)
      · exact absurd ((lg_cmp_le _ _).mp c1) (Int64.not_le.mpr hz)
      · obtain ⟨⟨g0, -⟩, -⟩ := id hX1.1.1
        refine lv_iconst (v := (nI 1)) hx hb d_S_ruleValue_93 (by decide) ?_
        refine lv_goto (tgt := 98) hx hb d_S_ruleValue_94 (by decide) ?_
        refine va_calll (rn_V (n := 2) (As := [.ref h, .int (nI 1)]) (rest := []) (C := R_S) (T := F_S) (N := 9) (ci := 2) X hP hS (c_S_askPart B0 w48 ad Fz1 P wk rows1 h kt vt k A9.2 1 n0 IH hfrA hinj hX1.1 hk hpo hkd (by omega)) k_436 k_438 k_23 k_57 k_439 (by decide +kernel) rfl rfl ⟨by dsimp only; omega, by dsimp only; omega⟩ g0 rfl rfl hl.1 rfl (Nat.le_of_ble_eq_true rfl) d_S_ruleValue_98 ⟨by dsimp only [dm]; omega, by dsimp only [dm]; omega⟩) hS (fun q _ h => h) (fun q h => h) (fun r w49 tS H locs ht hvm hw hB hz1 hk1 hS => ?_)
        have hP : fw_P (dC, dI) cls_ (AA s0) w49 H := by rw [← ht]; exact hB
        obtain ⟨rfl, Fz2, rows2, hX2⟩ := hw
        refine W.widen (k := 3 * dm x.2 (askV (sv P wk (n0 + 1)) (p_pt P k 1) A9.2).2.2) (n := 11 * dm x.2 (askV (sv P wk (n0 + 1)) (p_pt P k 1) A9.2).2.2) (by unfold dm; omega) (by unfold dm; omega) ?_
        exact W.lret (v := (askV (sv P wk (n0 + 1)) (p_pt P k 1) A9.2).1) hx hb hr (fun tS ht hW => ⟨⟨(askV (sv P wk (n0 + 1)) (p_pt P k 1) A9.2).1, w49, rfl, ⟨rfl, Fz2, rows2, VX.tr hX1 hX2 hK1.1⟩, mB_of ht hP⟩, hS.F ht⟩) hS.2.2 d_S_ruleValue_101
    · rw [if_neg hz]
      have hm2 := (hK2 (p_pt P k 2)).2.2.1
      refine lv_aload_n hx hb d_S_ruleValue_80 rfl (lv_at hl 0 rfl) ?_
      refine lv_aload_n hx hb d_S_ruleValue_81 rfl (lv_at hl 1 rfl) ?_
      refine lv_aload_n hx hb d_S_ruleValue_82 rfl (lv_at hl 0 rfl) ?_
      refine lv_aload_n hx hb d_S_ruleValue_83 rfl (lv_at hl 1 rfl) ?_
      refine lv_iconst (v := (nI 0)) hx hb d_S_ruleValue_84 (by decide) ?_
      refine va_calll (rn_V (n := 2) (As := [.ref h, .int (nI 0)]) (rest := [.ref h, .ref (ad 0)]) (C := R_S) (T := F_S) (N := 9) (ci := 2) X hP hS (cA (by omega)) k_436 k_438 k_23 k_57 k_439 (by decide +kernel) rfl rfl ⟨by dsimp only; omega, by dsimp only; omega⟩ g0 rfl rfl hl.1 rfl (Nat.le_of_ble_eq_true rfl) d_S_ruleValue_85 ⟨by dsimp only [dm]; omega, by dsimp only [dm]; omega⟩) hS (fun q _ h => h) (fun q h => h) (fun r w50 tS H locs ht hvm hw hB hz1 hk1 hS => ?_)
      have hP : fw_P (dC, dI) cls_ (AA s0) w50 H := by rw [← ht]; exact hB
      obtain ⟨rfl, Fz1, rows1, hX1⟩ := hw
      refine lv_lconst (v := 0) hx hb d_S_ruleValue_88 (by decide) ?_
      refine W.lcmp hx hb d_S_ruleValue_89 ?_
      refine lv_if_le (tgt := 97) hx hb d_S_ruleValue_90 (by decide) (fun c1 => ?_) (fun c1 => ?_)
      · obtain ⟨⟨g0, -⟩, -⟩ := id hX1.1.1
        refine lv_iconst (v := (nI 2)) hx hb d_S_ruleValue_97 (by decide) ?_
        refine va_calll (rn_V (n := 2) (As := [.ref h, .int (nI 2)]) (rest := []) (C := R_S) (T := F_S) (N := 9) (ci := 2) X hP hS (c_S_askPart B0 w50 ad Fz1 P wk rows1 h kt vt k A9.2 2 n0 IH hfrA hinj hX1.1 hk hpo hkd (by omega)) k_436 k_438 k_23 k_57 k_439 (by decide +kernel) rfl rfl ⟨by dsimp only; omega, by dsimp only; omega⟩ g0 rfl rfl hl.1 rfl (Nat.le_of_ble_eq_true rfl) d_S_ruleValue_98 ⟨by dsimp only [dm]; omega, by dsimp only [dm]; omega⟩) hS (fun q _ h => h) (fun q h => h) (fun r w51 tS H locs ht hvm hw hB hz1 hk1 hS => ?_)
        have hP : fw_P (dC, dI) cls_ (AA s0) w51 H := by rw [← ht]; exact hB
        obtain ⟨rfl, Fz2, rows2, hX2⟩ := hw
        refine W.widen (k := 3 * dm x.2 (askV (sv P wk (n0 + 1)) (p_pt P k 2) A9.2).2.2) (n := 11 * dm x.2 (askV (sv P wk (n0 + 1)) (p_pt P k 2) A9.2).2.2) (by unfold dm; omega) (by unfold dm; omega) ?_
        exact W.lret (v := (askV (sv P wk (n0 + 1)) (p_pt P k 2) A9.2).1) hx hb hr (fun tS ht hW => ⟨⟨(askV (sv P wk (n0 + 1)) (p_pt P k 2) A9.2).1, w51, rfl, ⟨rfl, Fz2, rows2, VX.tr hX1 hX2 hK1.1⟩, mB_of ht hP⟩, hS.F ht⟩) hS.2.2 d_S_ruleValue_101
      · exact absurd ((lg_cmp_le _ _).mpr (Int64.not_lt.mp hz)) c1
  · rw [show nf (p_rl P) k = nI 3 from congrArg nI hrl]
    refine lv_tableIn (off := 90) (tgt := 102) hx hb d_S_ruleValue_12 (by decide) (by decide) (by decide) (by decide) ?_
    have cR := c_S_quotient B0 w ad Fz P wk rows h kt vt k x n0 IH hfr0 hinj hU hk hpo hkd hrl
    rw [show ruleV (sv P wk (n0 + 1)) P k x = (if (askV (sv P wk (n0 + 1)) (p_pt P k 1) (askV (sv P wk (n0 + 1)) (p_pt P k 0) x).2).1 = 0 then failV 2 (askV (sv P wk (n0 + 1)) (p_pt P k 1) (askV (sv P wk (n0 + 1)) (p_pt P k 0) x).2).2 else ((askV (sv P wk (n0 + 1)) (p_pt P k 0) x).1 / (askV (sv P wk (n0 + 1)) (p_pt P k 1) (askV (sv P wk (n0 + 1)) (p_pt P k 0) x).2).1, (askV (sv P wk (n0 + 1)) (p_pt P k 1) (askV (sv P wk (n0 + 1)) (p_pt P k 0) x).2).2)) from by unfold ruleV; rw [hrl]; rfl]
    refine lv_aload_n hx hb d_S_ruleValue_102 rfl (lv_at hl 0 rfl) ?_
    refine lv_aload_n hx hb d_S_ruleValue_103 rfl (lv_at hl 1 rfl) ?_
    refine va_calll (rn_V (n := 1) (As := [.ref h]) (rest := []) (C := R_S) (T := F_S) (N := 9) (ci := 2) X hP hS (cR) k_456 k_458 k_28 k_57 k_459 (by decide +kernel) rfl rfl ⟨by dsimp only; omega, by dsimp only; omega⟩ g0 rfl rfl hl.1 rfl (Nat.le_of_ble_eq_true rfl) d_S_ruleValue_104 ⟨by dsimp only; omega, by dsimp only; omega⟩) hS (fun q _ h => h) (fun q h => h) (fun r w52 tS H locs ht hvm hw hB hz1 hk1 hS => ?_)
    have hP : fw_P (dC, dI) cls_ (AA s0) w52 H := by rw [← ht]; exact hB
    refine W.cs (Nat.zero_add _) (Nat.zero_add _) ?_
    exact W.lret (v := r) hx hb hr (fun tS ht hW => ⟨⟨r, w52, rfl, hw, mB_of ht hP⟩, hS.F ht⟩) hS.2.2 d_S_ruleValue_107
  · rw [show nf (p_rl P) k = nI 4 from congrArg nI hrl]
    refine lv_tableIn (off := 96) (tgt := 108) hx hb d_S_ruleValue_12 (by decide) (by decide) (by decide) (by decide) ?_
    have hcn : 1 ≤ p_cn P k := by have h9 := hpk.2.2.1; rw [hrl] at h9; exact h9
    rw [show ruleV (sv P wk (n0 + 1)) P k x = askV (sv P wk (n0 + 1)) (fMod (askV (sv P wk (n0 + 1)) (p_pt P k 0) x).1 12).toInt32.toNatClampNeg (askV (sv P wk (n0 + 1)) (p_pt P k 0) x).2 from by unfold ruleV; rw [hrl]; rfl]
    have hK1 := Kp_ask (Kp_sv P wk (n0 + 1)) (p_pt P k 0) x
    have cA := fun hi => c_S_askPart B0 w ad Fz P wk rows h kt vt k x 0 n0 IH hfr0 hinj hU hk hpo hkd hi
    generalize hA : askV (sv P wk (n0 + 1)) (p_pt P k 0) x = A9 at hK1 cA ⊢
    have hm1 := hK1.2.2.1
    have hfrA := Nat.le_trans hK1.fr hfr0
    have hf4 := fMod12 A9.1
    generalize ht9 : (fMod A9.1 12).toInt32.toNatClampNeg = t9 at hf4 ⊢
    have hm2 := (Kp_ask (Kp_sv P wk (n0 + 1)) t9 A9.2).2.2.1
    refine lv_aload_n hx hb d_S_ruleValue_108 rfl (lv_at hl 0 rfl) ?_
    refine lv_aload_n hx hb d_S_ruleValue_109 rfl (lv_at hl 1 rfl) ?_
    refine lv_aload_n hx hb d_S_ruleValue_110 rfl (lv_at hl 0 rfl) ?_
    refine lv_aload_n hx hb d_S_ruleValue_111 rfl (lv_at hl 1 rfl) ?_
    refine lv_iconst (v := (nI 0)) hx hb d_S_ruleValue_112 (by decide) ?_
    refine va_calll (rn_V (n := 2) (As := [.ref h, .int (nI 0)]) (rest := [.ref h, .ref (ad 0)]) (C := R_S) (T := F_S) (N := 9) (ci := 2) X hP hS (cA (by omega)) k_436 k_438 k_23 k_57 k_439 (by decide +kernel) rfl rfl ⟨by dsimp only; omega, by dsimp only; omega⟩ g0 rfl rfl hl.1 rfl (Nat.le_of_ble_eq_true rfl) d_S_ruleValue_113 ⟨by dsimp only [dm]; omega, by dsimp only [dm]; omega⟩) hS (fun q _ h => h) (fun q h => h) (fun r w53 tS H locs ht hvm hw hB hz1 hk1 hS => ?_)
    have hP : fw_P (dC, dI) cls_ (AA s0) w53 H := by rw [← ht]; exact hB
    obtain ⟨rfl, Fz1, rows1, hX1⟩ := hw
    refine lv_ldc2 (v := 12) hx hb hown (hg _ k_460) d_S_ruleValue_116 ?_
    refine va_calll (rn_S (n := 2) (As := [.long A9.1, .long 12]) (rest := [.ref h, .ref (ad 0)]) X hP hS (c_J_floorMod B0 w53 A9.1 12 (by decide)) k_461 k_462 k_65 k_463 (by decide +kernel) rfl rfl ⟨by dsimp only; omega, by dsimp only; omega⟩ rfl hl.1 rfl (Nat.le_of_ble_eq_true rfl) d_S_ruleValue_119 ⟨by dsimp only [dm]; omega, by dsimp only [dm]; omega⟩) hS (fun q _ h => h) (fun q h => h) (fun r w54 tS H locs ht hvm hw hB hz1 hk1 hS => ?_)
    have hP : fw_P (dC, dI) cls_ (AA s0) w54 H := by rw [← ht]; exact hB
    obtain ⟨ew8, rfl⟩ := hw
    rw [ew8] at hP
    refine lv_l2i (v := (fMod A9.1 12).toInt32) hx hb d_S_ruleValue_122 rfl ?_
    rw [hf4.1]
    obtain ⟨⟨g0, -⟩, -⟩ := id hX1.1.1
    refine va_calll (rn_V (n := 2) (As := [.ref h, .int (nI t9)]) (rest := []) (C := R_S) (T := F_S) (N := 9) (ci := 2) X hP hS (c_S_ask B0 w53 ad Fz1 P wk rows1 h kt vt k A9.2 t9 n0 IH hfrA hinj hX1.1 hk hpo hkd hf4.2) k_440 k_442 k_24 k_57 k_443 (by decide +kernel) rfl rfl ⟨by dsimp only; omega, by dsimp only; omega⟩ g0 rfl rfl hl.1 rfl (Nat.le_of_ble_eq_true rfl) d_S_ruleValue_123 ⟨by dsimp only [dm]; omega, by dsimp only [dm]; omega⟩) hS (fun q _ h => h) (fun q h => h) (fun r w55 tS H locs ht hvm hw hB hz1 hk1 hS => ?_)
    have hP : fw_P (dC, dI) cls_ (AA s0) w55 H := by rw [← ht]; exact hB
    obtain ⟨rfl, Fz2, rows2, hX2⟩ := hw
    refine W.widen (k := 3 * dm x.2 (askV (sv P wk (n0 + 1)) t9 A9.2).2.2) (n := 11 * dm x.2 (askV (sv P wk (n0 + 1)) t9 A9.2).2.2) (by unfold dm; omega) (by unfold dm; omega) ?_
    exact W.lret (v := (askV (sv P wk (n0 + 1)) t9 A9.2).1) hx hb hr (fun tS ht hW => ⟨⟨(askV (sv P wk (n0 + 1)) t9 A9.2).1, w55, rfl, ⟨rfl, Fz2, rows2, VX.tr hX1 hX2 hK1.1⟩, mB_of ht hP⟩, hS.F ht⟩) hS.2.2 d_S_ruleValue_126
  · rw [show nf (p_rl P) k = nI 5 from congrArg nI hrl]
    refine lv_tableIn (off := 115) (tgt := 127) hx hb d_S_ruleValue_12 (by decide) (by decide) (by decide) (by decide) ?_
    have cR := c_S_rest B0 w ad Fz P wk rows h kt vt k x n0 IH hfr0 hinj hU hk hpo hkd hrl
    rw [show ruleV (sv P wk (n0 + 1)) P k x = (if (askV (sv P wk (n0 + 1)) (p_pt P k 1) (askV (sv P wk (n0 + 1)) (p_pt P k 0) x).2).1 = 0 then failV 2 (askV (sv P wk (n0 + 1)) (p_pt P k 1) (askV (sv P wk (n0 + 1)) (p_pt P k 0) x).2).2 else ((askV (sv P wk (n0 + 1)) (p_pt P k 0) x).1 - (askV (sv P wk (n0 + 1)) (p_pt P k 0) x).1 / (askV (sv P wk (n0 + 1)) (p_pt P k 1) (askV (sv P wk (n0 + 1)) (p_pt P k 0) x).2).1 * (askV (sv P wk (n0 + 1)) (p_pt P k 1) (askV (sv P wk (n0 + 1)) (p_pt P k 0) x).2).1, (askV (sv P wk (n0 + 1)) (p_pt P k 1) (askV (sv P wk (n0 + 1)) (p_pt P k 0) x).2).2)) from by unfold ruleV; rw [hrl]; rfl]
    refine lv_aload_n hx hb d_S_ruleValue_127 rfl (lv_at hl 0 rfl) ?_
    refine lv_aload_n hx hb d_S_ruleValue_128 rfl (lv_at hl 1 rfl) ?_
    refine va_calll (rn_V (n := 1) (As := [.ref h]) (rest := []) (C := R_S) (T := F_S) (N := 9) (ci := 2) X hP hS (cR) k_464 k_466 k_29 k_57 k_467 (by decide +kernel) rfl rfl ⟨by dsimp only; omega, by dsimp only; omega⟩ g0 rfl rfl hl.1 rfl (Nat.le_of_ble_eq_true rfl) d_S_ruleValue_129 ⟨by dsimp only; omega, by dsimp only; omega⟩) hS (fun q _ h => h) (fun q h => h) (fun r w56 tS H locs ht hvm hw hB hz1 hk1 hS => ?_)
    have hP : fw_P (dC, dI) cls_ (AA s0) w56 H := by rw [← ht]; exact hB
    refine W.cs (Nat.zero_add _) (Nat.zero_add _) ?_
    exact W.lret (v := r) hx hb hr (fun tS ht hW => ⟨⟨r, w56, rfl, hw, mB_of ht hP⟩, hS.F ht⟩) hS.2.2 d_S_ruleValue_132
  · rw [show nf (p_rl P) k = nI 6 from congrArg nI hrl]
    refine lv_tableIn (off := 121) (tgt := 133) hx hb d_S_ruleValue_12 (by decide) (by decide) (by decide) (by decide) ?_
    have cR := c_S_greatest B0 w ad Fz P wk rows h kt vt k x n0 IH hfr0 hinj hU hk hpo hkd
    rw [show ruleV (sv P wk (n0 + 1)) P k x = (if p_cn P k = 0 then failV 1 x else foldV (sv P wk (n0 + 1)) (fun a b => if a < b then b else a) ((p_parts P k).drop 1) (askV (sv P wk (n0 + 1)) (p_pt P k 0) x).1 (askV (sv P wk (n0 + 1)) (p_pt P k 0) x).2) from by unfold ruleV; rw [hrl]; rfl]
    refine lv_aload_n hx hb d_S_ruleValue_133 rfl (lv_at hl 0 rfl) ?_
    refine lv_aload_n hx hb d_S_ruleValue_134 rfl (lv_at hl 1 rfl) ?_
    refine va_calll (rn_V (n := 1) (As := [.ref h]) (rest := []) (C := R_S) (T := F_S) (N := 9) (ci := 2) X hP hS (cR) k_468 k_470 k_30 k_57 k_471 (by decide +kernel) rfl rfl ⟨by dsimp only; omega, by dsimp only; omega⟩ g0 rfl rfl hl.1 rfl (Nat.le_of_ble_eq_true rfl) d_S_ruleValue_135 ⟨by dsimp only; omega, by dsimp only; omega⟩) hS (fun q _ h => h) (fun q h => h) (fun r w57 tS H locs ht hvm hw hB hz1 hk1 hS => ?_)
    have hP : fw_P (dC, dI) cls_ (AA s0) w57 H := by rw [← ht]; exact hB
    refine W.cs (Nat.zero_add _) (Nat.zero_add _) ?_
    exact W.lret (v := r) hx hb hr (fun tS ht hW => ⟨⟨r, w57, rfl, hw, mB_of ht hP⟩, hS.F ht⟩) hS.2.2 d_S_ruleValue_138
  · rw [show nf (p_rl P) k = nI 7 from congrArg nI hrl]
    refine lv_tableIn (off := 127) (tgt := 139) hx hb d_S_ruleValue_12 (by decide) (by decide) (by decide) (by decide) ?_
    have cR := c_S_until B0 w ad Fz P wk rows h kt vt k x n0 IH hfr0 hinj hU hk hpo hkd hrl
    rw [show ruleV (sv P wk (n0 + 1)) P k x = (foldV (sv P wk (n0 + 1)) (fun a b => a + b) (List.replicate (fMod (askV (sv P wk (n0 + 1)) (p_pt P k 0) x).1 4).toInt32.toNatClampNeg (p_pt P k 1)) (askV (sv P wk (n0 + 1)) (p_pt P k 0) x).1 (askV (sv P wk (n0 + 1)) (p_pt P k 0) x).2) from by unfold ruleV; rw [hrl]; rfl]
    refine lv_aload_n hx hb d_S_ruleValue_139 rfl (lv_at hl 0 rfl) ?_
    refine lv_aload_n hx hb d_S_ruleValue_140 rfl (lv_at hl 1 rfl) ?_
    refine va_calll (rn_V (n := 1) (As := [.ref h]) (rest := []) (C := R_S) (T := F_S) (N := 9) (ci := 2) X hP hS (cR) k_475 k_477 k_31 k_57 k_478 (by decide +kernel) rfl rfl ⟨by dsimp only; omega, by dsimp only; omega⟩ g0 rfl rfl hl.1 rfl (Nat.le_of_ble_eq_true rfl) d_S_ruleValue_141 ⟨by dsimp only; omega, by dsimp only; omega⟩) hS (fun q _ h => h) (fun q h => h) (fun r w58 tS H locs ht hvm hw hB hz1 hk1 hS => ?_)
    have hP : fw_P (dC, dI) cls_ (AA s0) w58 H := by rw [← ht]; exact hB
    refine W.cs (Nat.zero_add _) (Nat.zero_add _) ?_
    exact W.lret (v := r) hx hb hr (fun tS ht hW => ⟨⟨r, w58, rfl, hw, mB_of ht hP⟩, hS.F ht⟩) hS.2.2 d_S_ruleValue_144
  · rw [show nf (p_rl P) k = nI 8 from congrArg nI hrl]
    refine lv_tableIn (off := 133) (tgt := 145) hx hb d_S_ruleValue_12 (by decide) (by decide) (by decide) (by decide) ?_
    have hcn : 1 ≤ p_cn P k := by have h9 := hpk.2.2.1; rw [hrl] at h9; exact h9
    rw [show ruleV (sv P wk (n0 + 1)) P k x = (7, (askV (sv P wk (n0 + 1)) (p_pt P k 0) x).2) from by unfold ruleV; rw [hrl]; rfl]
    have hK1 := Kp_ask (Kp_sv P wk (n0 + 1)) (p_pt P k 0) x
    have cA := fun hi => c_S_askPart B0 w ad Fz P wk rows h kt vt k x 0 n0 IH hfr0 hinj hU hk hpo hkd hi
    generalize hA : askV (sv P wk (n0 + 1)) (p_pt P k 0) x = A9 at hK1 cA ⊢
    have hm1 := hK1.2.2.1
    have hfrA := Nat.le_trans hK1.fr hfr0
    refine lv_aload_n hx hb d_S_ruleValue_145 rfl (lv_at hl 0 rfl) ?_
    refine lv_aload_n hx hb d_S_ruleValue_146 rfl (lv_at hl 1 rfl) ?_
    refine lv_iconst (v := (nI 0)) hx hb d_S_ruleValue_147 (by decide) ?_
    refine va_calll (rn_V (n := 2) (As := [.ref h, .int (nI 0)]) (rest := []) (C := R_S) (T := F_S) (N := 9) (ci := 2) X hP hS (cA (by omega)) k_436 k_438 k_23 k_57 k_439 (by decide +kernel) rfl rfl ⟨by dsimp only; omega, by dsimp only; omega⟩ g0 rfl rfl hl.1 rfl (Nat.le_of_ble_eq_true rfl) d_S_ruleValue_148 ⟨by dsimp only [dm]; omega, by dsimp only [dm]; omega⟩) hS (fun q _ h => h) (fun q h => h) (fun r w59 tS H locs ht hvm hw hB hz1 hk1 hS => ?_)
    have hP : fw_P (dC, dI) cls_ (AA s0) w59 H := by rw [← ht]; exact hB
    obtain ⟨rfl, Fz1, rows1, hX1⟩ := hw
    refine lv_pop2_2 hx hb d_S_ruleValue_151 rfl ?_
    refine lv_ldc2 (v := 7) hx hb hown (hg _ k_480) d_S_ruleValue_152 ?_
    refine W.widen (k := 3 * dm x.2 A9.2.2) (n := 11 * dm x.2 A9.2.2) (by unfold dm; omega) (by unfold dm; omega) ?_
    exact W.lret (v := 7) hx hb hr (fun tS ht hW => ⟨⟨7, w59, rfl, ⟨rfl, Fz1, rows1, hX1⟩, mB_of ht hP⟩, hS.F ht⟩) hS.2.2 d_S_ruleValue_155
  · rw [show nf (p_rl P) k = nI 9 from congrArg nI hrl]
    refine lv_tableIn (off := 144) (tgt := 156) hx hb d_S_ruleValue_12 (by decide) (by decide) (by decide) (by decide) ?_
    have cR := c_S_limit B0 w ad Fz P wk rows h kt vt k x n0 IH hfr0 hinj hU hk hpo hkd hrl
    rw [show ruleV (sv P wk (n0 + 1)) P k x = (if (askV (sv P wk (n0 + 1)) (p_pt P k 1) (askV (sv P wk (n0 + 1)) (p_pt P k 0) x).2).1 < (askV (sv P wk (n0 + 1)) (p_pt P k 0) x).1 then failV 3 (askV (sv P wk (n0 + 1)) (p_pt P k 1) (askV (sv P wk (n0 + 1)) (p_pt P k 0) x).2).2 else ((askV (sv P wk (n0 + 1)) (p_pt P k 0) x).1, (askV (sv P wk (n0 + 1)) (p_pt P k 1) (askV (sv P wk (n0 + 1)) (p_pt P k 0) x).2).2)) from by unfold ruleV; rw [hrl]; rfl]
    refine lv_aload_n hx hb d_S_ruleValue_156 rfl (lv_at hl 0 rfl) ?_
    refine lv_aload_n hx hb d_S_ruleValue_157 rfl (lv_at hl 1 rfl) ?_
    refine va_calll (rn_V (n := 1) (As := [.ref h]) (rest := []) (C := R_S) (T := F_S) (N := 9) (ci := 2) X hP hS (cR) k_481 k_483 k_32 k_57 k_484 (by decide +kernel) rfl rfl ⟨by dsimp only; omega, by dsimp only; omega⟩ g0 rfl rfl hl.1 rfl (Nat.le_of_ble_eq_true rfl) d_S_ruleValue_158 ⟨by dsimp only; omega, by dsimp only; omega⟩) hS (fun q _ h => h) (fun q h => h) (fun r w60 tS H locs ht hvm hw hB hz1 hk1 hS => ?_)
    have hP : fw_P (dC, dI) cls_ (AA s0) w60 H := by rw [← ht]; exact hB
    refine W.cs (Nat.zero_add _) (Nat.zero_add _) ?_
    exact W.lret (v := r) hx hb hr (fun tS ht hW => ⟨⟨r, w60, rfl, hw, mB_of ht hP⟩, hS.F ht⟩) hS.2.2 d_S_ruleValue_161
