set_option maxHeartbeats 4000000 in
set_option maxRecDepth 100000 in
theorem c_S_result {l : Launch} {s0 : State} {dC : Nat → ClassId} {dI : Nat → Nat → Nat} {dA : Nat → ClassId} (B0 : BB s0 dC dI dA) (w : fw_W) (ad : Nat → Nat) (Fz : Nat → Prop) (P : PD) (wk k : Nat) (tr : Nat → Option tv) (cl : List tv) (ta : Nat → Int32) (hinj : Inj ad) (hSI : SI dA ad w) (hM4 : M4 dA ad Fz w tr cl ta) (hP6 : P6 dA ad w P) (hnF : (∀ i, i < 27 → ¬ Fz (ad i)) ∧ ∀ q, Fz q → w q ≠ none) (hk : k < 12) (hpo : p_ok P) (hwk : wk < 2) : Met l y_S_result [.code y_S_result b_S_result 5 (some .long)] ({ frames := 120, cells := 3 * (dm (s_0 tr cl ta) (sv P wk 13 k (s_0 tr cl ta)).2), slots := 11 * (dm (s_0 tr cl ta) (sv P wk 13 k (s_0 tr cl ta)).2), locals := 3000 }) (mP s0 dC dI w [.ref (ad 0), .ref (ad 5), .int (nI wk), .int (nI k)]) (mQl s0 dC dI (fun r w' => r = (sv P wk 13 k (s_0 tr cl ta)).1 ∧ VS dA ad P wk Fz w w' (sv P wk 13 k (s_0 tr cl ta)).2)) (3 * (dm (s_0 tr cl ta) (sv P wk 13 k (s_0 tr cl ta)).2)) (11 * (dm (s_0 tr cl ta) (sv P wk 13 k (s_0 tr cl ta)).2)) (AA s0) := by
  obtain ⟨mr, wk0, ran0, fl0, fin, opn, vf, rows, g0, g1, g2, g3, g4⟩ := hSI
  refine mt_ofW B0 (by decide) (Nat.le_of_ble_eq_true rfl) (fun p e s m args below meth c ls hargs X hin hl hP => ?_)
  have X9 := X
  obtain ⟨hx, hb, hr, hml, hown, hg, hK, hn, hE, hlocks, hA⟩ := X9
  have hS : va_S (AA s0) s.heap s.heap [] := va_S.rf
  have hl : lv_has ls 5 [(0, .ref (ad 0)), (1, .ref (ad 5)), (2, .int (nI wk)), (3, .int (nI k))] := hl
  refine lv_aload_n hx hb d_S_result_0 rfl (lv_at hl 0 rfl) ?_
  refine lv_aload_n hx hb d_S_result_1 rfl (lv_at hl 1 rfl) ?_
  refine fw_put (D := (dC, dI)) (ci := 2) (v := .ref (ad 5)) (ty := (.object "TraceBuilder$Memory")) (C := R_S) (T := F_S) (N := 9) hx hb hg in_S ft_S ft_S_ok n_S hown hK hP hS g0 rfl 1 (by decide) (hg _ k_140) (fun _ h9 => h9) rfl (by decide +kernel) rfl rfl (Nat.le_of_ble_eq_true rfl) d_S_result_2 (fun w107 H locs ew108 hP hS => ?_)
  have g1 : w107 (ad 1) = some (.inl (dA 2, 12, .inl (zf fin))) := by rw [ew108, va_up_ne _ _ (hinj.ne (i := 1) (j := 0) (by decide) (by decide) (by decide))]; exact g1
  have g2 : w107 (ad 2) = some (.inl (dA 2, 12, .inl (zf opn))) := by rw [ew108, va_up_ne _ _ (hinj.ne (i := 2) (j := 0) (by decide) (by decide) (by decide))]; exact g2
  have g3 : w107 (ad 3) = some (.inl (dA 1, 12, .inr (.inl vf))) := by rw [ew108, va_up_ne _ _ (hinj.ne (i := 3) (j := 0) (by decide) (by decide) (by decide))]; exact g3
  have g4 : w107 (ad 4) = some (.inl (dA 3, 192, .inr (.inr (.inr (.inr rows))))) := by rw [ew108, va_up_ne _ _ (hinj.ne (i := 4) (j := 0) (by decide) (by decide) (by decide))]; exact g4
  have g0 : w107 (ad 0) = some (.inr (2, [.ref (ad 9), .ref (ad 5), wk0, .ref (ad 1), .ref (ad 2), .ref (ad 3), .ref (ad 4), ran0, fl0])) := by rw [ew108]; exact va_up_self _ _ _
  refine lv_aload_n hx hb d_S_result_5 rfl (lv_at hl 0 rfl) ?_
  refine lv_iload_n hx hb d_S_result_6 rfl (lv_at hl 2 rfl) ?_
  refine fw_put (D := (dC, dI)) (ci := 2) (v := .int (nI wk)) (ty := .int) (C := R_S) (T := F_S) (N := 9) hx hb hg in_S ft_S ft_S_ok n_S hown hK hP hS g0 rfl 2 (by decide) (hg _ k_141) (fun _ h9 => h9) rfl (by decide +kernel) rfl rfl (Nat.le_of_ble_eq_true rfl) d_S_result_7 (fun w109 H locs ew110 hP hS => ?_)
  have g1 : w109 (ad 1) = some (.inl (dA 2, 12, .inl (zf fin))) := by rw [ew110, va_up_ne _ _ (hinj.ne (i := 1) (j := 0) (by decide) (by decide) (by decide))]; exact g1
  have g2 : w109 (ad 2) = some (.inl (dA 2, 12, .inl (zf opn))) := by rw [ew110, va_up_ne _ _ (hinj.ne (i := 2) (j := 0) (by decide) (by decide) (by decide))]; exact g2
  have g3 : w109 (ad 3) = some (.inl (dA 1, 12, .inr (.inl vf))) := by rw [ew110, va_up_ne _ _ (hinj.ne (i := 3) (j := 0) (by decide) (by decide) (by decide))]; exact g3
  have g4 : w109 (ad 4) = some (.inl (dA 3, 192, .inr (.inr (.inr (.inr rows))))) := by rw [ew110, va_up_ne _ _ (hinj.ne (i := 4) (j := 0) (by decide) (by decide) (by decide))]; exact g4
  have g0 : w109 (ad 0) = some (.inr (2, [.ref (ad 9), .ref (ad 5), .int (nI wk), .ref (ad 1), .ref (ad 2), .ref (ad 3), .ref (ad 4), ran0, fl0])) := by rw [ew110]; exact va_up_self _ _ _
  refine lv_aload_n hx hb d_S_result_10 rfl (lv_at hl 0 rfl) ?_
  refine lv_iconst (v := (nI 0)) hx hb d_S_result_11 (by decide) ?_
  refine fw_put (D := (dC, dI)) (ci := 2) (v := .int (nI 0)) (ty := .boolean) (C := R_S) (T := F_S) (N := 9) hx hb hg in_S ft_S ft_S_ok n_S hown hK hP hS g0 rfl 7 (by decide) (hg _ k_146) (fun _ h9 => h9) rfl (by decide +kernel) (by decide) (by decide) (Nat.le_of_ble_eq_true rfl) d_S_result_12 (fun w111 H locs ew112 hP hS => ?_)
  have g1 : w111 (ad 1) = some (.inl (dA 2, 12, .inl (zf fin))) := by rw [ew112, va_up_ne _ _ (hinj.ne (i := 1) (j := 0) (by decide) (by decide) (by decide))]; exact g1
  have g2 : w111 (ad 2) = some (.inl (dA 2, 12, .inl (zf opn))) := by rw [ew112, va_up_ne _ _ (hinj.ne (i := 2) (j := 0) (by decide) (by decide) (by decide))]; exact g2
  have g3 : w111 (ad 3) = some (.inl (dA 1, 12, .inr (.inl vf))) := by rw [ew112, va_up_ne _ _ (hinj.ne (i := 3) (j := 0) (by decide) (by decide) (by decide))]; exact g3
  have g4 : w111 (ad 4) = some (.inl (dA 3, 192, .inr (.inr (.inr (.inr rows))))) := by rw [ew112, va_up_ne _ _ (hinj.ne (i := 4) (j := 0) (by decide) (by decide) (by decide))]; exact g4
  have g0 : w111 (ad 0) = some (.inr (2, [.ref (ad 9), .ref (ad 5), .int (nI wk), .ref (ad 1), .ref (ad 2), .ref (ad 3), .ref (ad 4), .int (nI 0), fl0])) := by rw [ew112]; exact va_up_self _ _ _
  refine lv_aload_n hx hb d_S_result_15 rfl (lv_at hl 0 rfl) ?_
  refine lv_iconst (v := (nI 0)) hx hb d_S_result_16 (by decide) ?_
  refine fw_put (D := (dC, dI)) (ci := 2) (v := .int (nI 0)) (ty := .int) (C := R_S) (T := F_S) (N := 9) hx hb hg in_S ft_S ft_S_ok n_S hown hK hP hS g0 rfl 8 (by decide) (hg _ k_148) (fun _ h9 => h9) rfl (by decide +kernel) rfl rfl (Nat.le_of_ble_eq_true rfl) d_S_result_17 (fun w113 H locs ew114 hP hS => ?_)
  have g1 : w113 (ad 1) = some (.inl (dA 2, 12, .inl (zf fin))) := by rw [ew114, va_up_ne _ _ (hinj.ne (i := 1) (j := 0) (by decide) (by decide) (by decide))]; exact g1
  have g2 : w113 (ad 2) = some (.inl (dA 2, 12, .inl (zf opn))) := by rw [ew114, va_up_ne _ _ (hinj.ne (i := 2) (j := 0) (by decide) (by decide) (by decide))]; exact g2
  have g3 : w113 (ad 3) = some (.inl (dA 1, 12, .inr (.inl vf))) := by rw [ew114, va_up_ne _ _ (hinj.ne (i := 3) (j := 0) (by decide) (by decide) (by decide))]; exact g3
  have g4 : w113 (ad 4) = some (.inl (dA 3, 192, .inr (.inr (.inr (.inr rows))))) := by rw [ew114, va_up_ne _ _ (hinj.ne (i := 4) (j := 0) (by decide) (by decide) (by decide))]; exact g4
  have g0 : w113 (ad 0) = some (.inr (2, [.ref (ad 9), .ref (ad 5), .int (nI wk), .ref (ad 1), .ref (ad 2), .ref (ad 3), .ref (ad 4), .int (nI 0), .int (nI 0)])) := by rw [ew114]; exact va_up_self _ _ _
  refine lv_iconst (v := (nI 0)) hx hb d_S_result_20 (by decide) ?_
  refine lv_istore (lv' := [(4, .int (nI 0)), (0, .ref (ad 0)), (1, .ref (ad 5)), (2, .int (nI wk)), (3, .int (nI k))]) hx hb d_S_result_21 hl (by decide) rfl (fun ls hl => ?_)
  have hfrA : ∀ z, z ≠ ad 0 → w113 z = w z := (fun z z1 => by rw [ew114, va_up_ne _ _ z1, ew112, va_up_ne _ _ z1, ew110, va_up_ne _ _ z1, ew108, va_up_ne _ _ z1])
  suffices lp : ∀ (n : Nat) (i : Nat) (ff : Nat → Bool) (fo : Nat → Bool), (i ≤ 12) → (∀ j, j < i → ff j = false) → (∀ j, j < i → fo j = false) → (12 < i + n) → ∀ (wl : fw_W) (H : Heap) (locs : List Loc), (wl (ad 0) = some (.inr (2, [.ref (ad 9), .ref (ad 5), .int (nI wk), .ref (ad 1), .ref (ad 2), .ref (ad 3), .ref (ad 4), .int (nI 0), .int (nI 0)]))) → (wl (ad 1) = some (.inl (dA 2, 12, .inl (zf ff)))) → (wl (ad 2) = some (.inl (dA 2, 12, .inl (zf fo)))) → (wl (ad 3) = some (.inl (dA 1, 12, .inr (.inl vf)))) → (wl (ad 4) = some (.inl (dA 3, 192, .inr (.inr (.inr (.inr rows)))))) → (∀ z, z ≠ ad 0 → z ≠ ad 1 → z ≠ ad 2 → wl z = w z) → fw_P (dC, dI) cls_ (AA s0) wl H → va_S (AA s0) s.heap H locs → ∀ (ls : Array Slot), lv_has ls 5 [(0, .ref (ad 0)), (3, .int (nI k)), (4, .int (nI i))] → W p l e _ s m args below meth c H locs 0 0 (MQ below _ args s (3 * (dm (s_0 tr cl ta) (sv P wk 13 k (s_0 tr cl ta)).2)) (11 * (dm (s_0 tr cl ta) (sv P wk 13 k (s_0 tr cl ta)).2)) (AA s0)) (F0 m 23 ls []) from lp 13 0 fin opn (by omega) (fun j hj => absurd hj (Nat.not_lt_zero j)) (fun j hj => absurd hj (Nat.not_lt_zero j)) (by omega) _ _ _ g0 g1 g2 g3 g4 (fun z z1 _ _ => hfrA z z1) hP hS ls (lv_sub hl [1, 4, 0] rfl)
  intro n
  induction n with
  | zero => intro i ff fo hi h1 h2 hbn; exact absurd hbn (by omega)
  | succ n ih =>
    intro i ff fo hi h1 h2 hbn wl H locs g0 g1 g2 g3 g4 hfr hP hS ls hl
    refine lv_iload hx hb d_S_result_23 (lv_at hl 2 rfl) ?_
    refine lv_bipush (v := (nI 12)) hx hb d_S_result_25 (by decide) ?_
    refine nu_ge (tgt := 52) hx hb (by omega) (by omega) d_S_result_27 (by decide) (fun c1 => ?_) (fun c1 => ?_)
    · obtain rfl : i = 12 := by omega
      have hP := fw_relab (g := zf (fun _ => false)) hP g1 (fun j hj => by show nI (ff j).toNat = nI false.toNat; rw [h1 j hj])
      have hP := fw_relab (a := ad 2) (g := zf (fun _ => false)) hP (by rw [va_up_ne _ _ (hinj.ne (i := 2) (j := 1) (by decide) (by decide) (by decide))]; exact g2) (fun j hj => by show nI (fo j).toNat = nI false.toNat; rw [h2 j hj])
      generalize ewm : va_up (va_up wl (ad 1) (some (.inl (dA 2, 12, .inl (zf (fun _ => false)))))) (ad 2) (some (.inl (dA 2, 12, .inl (zf (fun _ => false))))) = wm at hP
      have hfm : ∀ z, z ≠ ad 0 → z ≠ ad 1 → z ≠ ad 2 → wm z = w z := fun z z1 z2 z3 => by rw [← ewm, va_up_ne _ _ z3, va_up_ne _ _ z2]; exact hfr z z1 z2 z3
      have hom : Out ad w wm := fun z hz => hfm z (hz 0 (by decide)) (hz 1 (by decide)) (hz 2 (by decide))
      have hkm : ∀ i, 2 < i → i < 27 → wm (ad i) = w (ad i) := fun i h1 h2 => hfm _ (hinj.ne h2 (by decide) (by omega)) (hinj.ne h2 (by decide) (by omega)) (hinj.ne h2 (by decide) (by omega))
      have hzm : ∀ q, Fz q → wm q = w q := fun q hq => hom q (fun i hi e9 => hnF.1 i hi (e9 ▸ hq))
      have hRm : RS dA ad Fz P wk rows wm (s_0 tr cl ta) := by
        refine ⟨⟨?_, ?_, ?_, ⟨vf, ?_, fun j hj => by cases hj⟩, ?_⟩, hM4.kept (fun i h1 h2 => hkm i (by omega) (by omega)) hzm (fun _ h => h), hP6.kept (fun i h1 h2 => hkm i (by omega) h2), ⟨hnF.1, fd_kept hzm hnF.2⟩, (show (0 : Nat) < 4 by decide)⟩
        · rw [← ewm, va_up_ne _ _ (hinj.ne (i := 0) (j := 2) (by decide) (by decide) (by decide)), va_up_ne _ _ (hinj.ne (i := 0) (j := 1) (by decide) (by decide) (by decide))]; exact g0
        · rw [← ewm, va_up_ne _ _ (hinj.ne (i := 1) (j := 2) (by decide) (by decide) (by decide))]; exact va_up_self _ _ _
        · rw [← ewm]; exact va_up_self _ _ _
        · rw [← ewm, va_up_ne _ _ (hinj.ne (i := 3) (j := 2) (by decide) (by decide) (by decide)), va_up_ne _ _ (hinj.ne (i := 3) (j := 1) (by decide) (by decide) (by decide))]; exact g3
        · rw [← ewm, va_up_ne _ _ (hinj.ne (i := 4) (j := 2) (by decide) (by decide) (by decide)), va_up_ne _ _ (hinj.ne (i := 4) (j := 1) (by decide) (by decide) (by decide))]; exact g4
      have hKf := Kp_sv P wk 13 k (s_0 tr cl ta)
      have cV := VO_all (l := l) B0 hinj hpo hwk 12 wm Fz rows (s_0 tr cl ta) k hRm hk (by rw [fr_0]; exact Nat.le_refl _)
      rw [show 12 + 1 = 13 from rfl] at cV
      refine lv_aload_n hx hb d_S_result_52 rfl (lv_at hl 0 rfl) ?_
      refine lv_iload_n hx hb d_S_result_53 rfl (lv_at hl 1 rfl) ?_
      refine va_calll (rn_V (n := 1) (As := [.int (nI k)]) (rest := []) (C := R_S) (T := F_S) (N := 9) (ci := 2) X hP hS (cV) k_356 k_358 k_11 k_57 k_359 (by decide +kernel) rfl rfl ⟨by dsimp only [rmV]; omega, by dsimp only [rmV]; omega⟩ hRm.1.1 rfl rfl hl.1 rfl (Nat.le_of_ble_eq_true rfl) d_S_result_54 ⟨by dsimp only [rmV]; omega, by dsimp only [rmV]; omega⟩) hS (fun q _ h => h) (fun q h => h) (fun r w115 tS H locs ht hvm hw hB hz1 hk1 hS => ?_)
      have hP : fw_P (dC, dI) cls_ (AA s0) w115 H := by rw [← ht]; exact hB
      obtain ⟨rfl, Fz1, rows1, hV⟩ := hw
      have hVS : VS dA ad P wk Fz w w115 (sv P wk 13 k (s_0 tr cl ta)).2 := by
        refine ⟨Fz1, rows1, hV.1, hV.2.1, fun q hq => (hV.2.2.1 q hq).elim Or.inl (fun h9 => Or.inr ?_), fun q e hq hn => hV.2.2.2.1 q e ((hom q hn).trans hq) hn⟩
        have nb : ∀ i, i < 27 → q ≠ ad i := fun i hi e9 => hRm.blk i hi (e9 ▸ h9)
        rw [← hom q nb]; exact h9
      refine W.widen (k := 3 * (dm (s_0 tr cl ta) (sv P wk 13 k (s_0 tr cl ta)).2)) (n := 11 * (dm (s_0 tr cl ta) (sv P wk 13 k (s_0 tr cl ta)).2)) (by omega) (by omega) ?_
      exact W.lret (v := (sv P wk 13 k (s_0 tr cl ta)).1) hx hb hr (fun tS ht hW => ⟨⟨(sv P wk 13 k (s_0 tr cl ta)).1, w115, rfl, ⟨rfl, hVS⟩, mB_of ht hP⟩, hS.F ht⟩) hS.2.2 d_S_result_57
    · refine lv_aload_n hx hb d_S_result_30 rfl (lv_at hl 0 rfl) ?_
      refine va_get (D := (dC, dI)) (ci := 2) (v := .ref (ad 1)) (C := R_S) (T := F_S) (N := 9) hx hb hg in_S hown hK (hP.one g0) 0 rfl rfl 3 (by decide) (hg _ k_142) (fun _ h9 => h9) rfl d_S_result_31 ?_
      refine lv_iload hx hb d_S_result_34 (lv_at hl 2 rfl) ?_
      refine lv_iconst (v := (nI 0)) hx hb d_S_result_36 (by decide) ?_
      refine fw_zast (tys := tyl dA) hx hb hK hP hS g1 2 rfl (j := i) (x := (nI 0)) (by omega) (by decide) d_S_result_37 (fun w116 H locs ew117 hP hS => ?_)
      rw [show (nI 0) = nI (false).toNat from rfl] at ew117
      rw [zf_up] at ew117
      have g0 : w116 (ad 0) = some (.inr (2, [.ref (ad 9), .ref (ad 5), .int (nI wk), .ref (ad 1), .ref (ad 2), .ref (ad 3), .ref (ad 4), .int (nI 0), .int (nI 0)])) := by rw [ew117, va_up_ne _ _ (hinj.ne (i := 0) (j := 1) (by decide) (by decide) (by decide))]; exact g0
      have g2 : w116 (ad 2) = some (.inl (dA 2, 12, .inl (zf fo))) := by rw [ew117, va_up_ne _ _ (hinj.ne (i := 2) (j := 1) (by decide) (by decide) (by decide))]; exact g2
      have g3 : w116 (ad 3) = some (.inl (dA 1, 12, .inr (.inl vf))) := by rw [ew117, va_up_ne _ _ (hinj.ne (i := 3) (j := 1) (by decide) (by decide) (by decide))]; exact g3
      have g4 : w116 (ad 4) = some (.inl (dA 3, 192, .inr (.inr (.inr (.inr rows))))) := by rw [ew117, va_up_ne _ _ (hinj.ne (i := 4) (j := 1) (by decide) (by decide) (by decide))]; exact g4
      have g1 : w116 (ad 1) = some (.inl (dA 2, 12, .inl (zf (va_up ff i false)))) := by rw [ew117]; exact va_up_self _ _ _
      refine lv_aload_n hx hb d_S_result_38 rfl (lv_at hl 0 rfl) ?_
      refine va_get (D := (dC, dI)) (ci := 2) (v := .ref (ad 2)) (C := R_S) (T := F_S) (N := 9) hx hb hg in_S hown hK (hP.one g0) 0 rfl rfl 4 (by decide) (hg _ k_143) (fun _ h9 => h9) rfl d_S_result_39 ?_
      refine lv_iload hx hb d_S_result_42 (lv_at hl 2 rfl) ?_
      refine lv_iconst (v := (nI 0)) hx hb d_S_result_44 (by decide) ?_
      refine fw_zast (tys := tyl dA) hx hb hK hP hS g2 2 rfl (j := i) (x := (nI 0)) (by omega) (by decide) d_S_result_45 (fun w118 H locs ew119 hP hS => ?_)
      rw [show (nI 0) = nI (false).toNat from rfl] at ew119
      rw [zf_up] at ew119
      have g0 : w118 (ad 0) = some (.inr (2, [.ref (ad 9), .ref (ad 5), .int (nI wk), .ref (ad 1), .ref (ad 2), .ref (ad 3), .ref (ad 4), .int (nI 0), .int (nI 0)])) := by rw [ew119, va_up_ne _ _ (hinj.ne (i := 0) (j := 2) (by decide) (by decide) (by decide))]; exact g0
      have g1 : w118 (ad 1) = some (.inl (dA 2, 12, .inl (zf (va_up ff i false)))) := by rw [ew119, va_up_ne _ _ (hinj.ne (i := 1) (j := 2) (by decide) (by decide) (by decide))]; exact g1
      have g3 : w118 (ad 3) = some (.inl (dA 1, 12, .inr (.inl vf))) := by rw [ew119, va_up_ne _ _ (hinj.ne (i := 3) (j := 2) (by decide) (by decide) (by decide))]; exact g3
      have g4 : w118 (ad 4) = some (.inl (dA 3, 192, .inr (.inr (.inr (.inr rows))))) := by rw [ew119, va_up_ne _ _ (hinj.ne (i := 4) (j := 2) (by decide) (by decide) (by decide))]; exact g4
      have g2 : w118 (ad 2) = some (.inl (dA 2, 12, .inl (zf (va_up fo i false)))) := by rw [ew119]; exact va_up_self _ _ _
      refine lv_iinc (v := nI (i + 1)) (lv' := [(4, .int (nI (i + 1))), (0, .ref (ad 0)), (3, .int (nI k))]) hx hb d_S_result_46 hl (k := 2) rfl (nI_add _ 1) (by decide) rfl (fun ls hl => ?_)
      refine lv_goto (tgt := 23) hx hb d_S_result_49 (by decide) ?_
      exact ih (i + 1) (va_up ff i false) (va_up fo i false) (by omega) (fun j hj => by by_cases e9 : j = i; rw [e9, va_up_self]; rw [va_up_ne _ _ e9]; exact h1 j (by omega)) (fun j hj => by by_cases e9 : j = i; rw [e9, va_up_self]; rw [va_up_ne _ _ e9]; exact h2 j (by omega)) (by omega) _ _ _ g0 g1 g2 g3 g4 (fun z z1 z2 z3 => by rw [ew119, va_up_ne _ _ z3, ew117, va_up_ne _ _ z2]; exact hfr z z1 z2 z3) hP hS ls (lv_sub hl [1, 2, 0] rfl)
