set_option maxHeartbeats 4000000 in
set_option maxRecDepth 100000 in
theorem c_M_copyOf {l : Launch} {s0 : State} {dC : Nat → ClassId} {dI : Nat → Nat → Nat} {dA : Nat → ClassId} (B0 : BB s0 dC dI dA) (w : fw_W) (h2 tr2 ca2 ta2 : Nat) (ft2 : Nat → Option Nat) (pl2 : List Nat) (fa2 : Nat → Int32) (h tr ca ta : Nat) (ft : Nat → Option Nat) (pl : List Nat) (fa : Nat → Int32) (ow : Nat → Nat) (hM2 : aM dA w h2 tr2 ca2 ta2 ft2 pl2 fa2) (hM : aM dA w h tr ca ta ft pl fa) (hO : ∀ t ∈ pl, oT w t (ow t)) (hO2 : ∀ i, i < 24 → ∀ t, ft i = some t → ∃ o, oT w t o) (n1 : h2 ≠ h) (n2 : tr2 ≠ tr) (n3 : ca2 ≠ ca) : Met l y_M_becomeCopyOf [.code y_M_becomeCopyOf b_M_becomeCopyOf 3 none] ({ frames := 0, cells := 0, slots := 0, locals := 0 }) (mP s0 dC dI w [.ref h2, .ref h]) (mQv s0 dC dI (fun w' => (∃ ft' : Nat → Option Nat, aM dA w' h2 tr2 ca2 ta2 ft' pl fa2 ∧ ∀ i, i < 24 → ft' i = ft i) ∧ ∀ z, z ≠ h2 → z ≠ tr2 → z ≠ ca2 → w' z = w z)) 0 0 (AA s0) := by
  obtain ⟨fd, k1, k2, k3, k4, k16, kpl, kcn⟩ := hM2
  obtain ⟨fc, f1, f2, f3, f4, h16, hpl, hcn⟩ := hM
  refine mt_ofW B0 (by decide) (Nat.le_of_ble_eq_true rfl) (fun p e s m args below meth c ls hargs X hin hl hP => ?_)
  have X9 := X
  obtain ⟨hx, hb, hr, hml, hown, hg, hK, hn, hE, hlocks, hA⟩ := X9
  have hS : va_S (AA s0) s.heap s.heap [] := va_S.rf
  have hl : lv_has ls 3 [(0, .ref h2), (1, .ref h)] := hl
  have f1w := f1
  have f2w := f2
  have f3w := f3
  have k1w := k1
  have k2w := k2
  have k3w := k3
  refine lv_iconst (v := (nI 0)) hx hb d_M_becomeCopyOf_0 (by decide) ?_
  refine lv_istore_n (lv' := [(2, .int (nI 0)), (0, .ref h2), (1, .ref h)]) hx hb d_M_becomeCopyOf_1 rfl hl (by decide) rfl (fun ls hl => ?_)
  suffices lp : ∀ (n : Nat) (i : Nat) (fx : Nat → Option Nat), (i ≤ 24) → (∀ j, j < i → fx j = ft j) → (24 < i + n) → ∀ (wl : fw_W) (H : Heap) (locs : List Loc), (wl h = some (.inr (0, [.ref tr, .ref ca, .int (nI pl.length), .ref ta]))) → (wl tr = some (.inl (dA 3, 24, .inr (.inr (.inr (.inr ft)))))) → (wl ca = some (.inl (dA 3, 16, .inr (.inr (.inr (.inr fc)))))) → (wl ta = some (.inl (dA 0, 11, .inl fa))) → (wl h2 = some (.inr (0, [.ref tr2, .ref ca2, .int (nI pl2.length), .ref ta2]))) → (wl tr2 = some (.inl (dA 3, 24, .inr (.inr (.inr (.inr fx)))))) → (wl ca2 = some (.inl (dA 3, 16, .inr (.inr (.inr (.inr fd)))))) → (wl ta2 = some (.inl (dA 0, 11, .inl fa2))) → (∀ z, z ≠ tr2 → wl z = w z) → fw_P (dC, dI) cls_ (AA s0) wl H → va_S (AA s0) s.heap H locs → ∀ (ls : Array Slot), lv_has ls 3 [(0, .ref h2), (1, .ref h), (2, .int (nI i))] → W p l e _ s m args below meth c H locs 0 0 (MQ below _ args s 0 0 (AA s0)) (F0 m 2 ls []) from lp 25 0 ft2 (by omega) (fun j hj => absurd hj (Nat.not_lt_zero j)) (by omega) _ _ _ f1 f2 f3 f4 k1 k2 k3 k4 (fun z _ => rfl) hP hS ls (lv_sub hl [1, 2, 0] rfl)
  intro n
  induction n with
  | zero => intro i fx hi hfx hbn; exact absurd hbn (by omega)
  | succ n ih =>
    intro i fx hi hfx hbn wl H locs f1 f2 f3 f4 k1 k2 k3 k4 hfr hP hS ls hl
    refine lv_iload_n hx hb d_M_becomeCopyOf_2 rfl (lv_at hl 2 rfl) ?_
    refine lv_aload_n hx hb d_M_becomeCopyOf_3 rfl (lv_at hl 0 rfl) ?_
    refine va_get (D := (dC, dI)) (ci := 0) (v := .ref tr2) (C := R_M) (T := F_M) (N := 4) hx hb hg in_M hown hK (hP.one k1) 0 rfl rfl 0 (by decide) (hg _ k_116) (fun _ h9 => h9) rfl d_M_becomeCopyOf_4 ?_
    refine va_alen (D := (dC, dI)) (v := nI 24) hx hb hK (hP.one k2) 0 3 rfl rfl rfl d_M_becomeCopyOf_7 ?_
    refine nu_ge (tgt := 29) hx hb (by omega) (by omega) d_M_becomeCopyOf_8 (by decide) (fun c1 => ?_) (fun c1 => ?_)
    · clear ih
      refine lv_iconst (v := (nI 0)) hx hb d_M_becomeCopyOf_29 (by decide) ?_
      refine lv_istore_n (lv' := [(2, .int (nI 0)), (0, .ref h2), (1, .ref h)]) hx hb d_M_becomeCopyOf_30 rfl hl (by decide) rfl (fun ls hl => ?_)
      suffices lp : ∀ (n : Nat) (i2 : Nat) (fy : Nat → Option Nat), (i2 ≤ 16) → (∀ j, j < i2 → fy j = fc j) → (16 < i2 + n) → ∀ (wm : fw_W) (H : Heap) (locs : List Loc), (wm h = some (.inr (0, [.ref tr, .ref ca, .int (nI pl.length), .ref ta]))) → (wm tr = some (.inl (dA 3, 24, .inr (.inr (.inr (.inr ft)))))) → (wm ca = some (.inl (dA 3, 16, .inr (.inr (.inr (.inr fc)))))) → (wm ta = some (.inl (dA 0, 11, .inl fa))) → (wm h2 = some (.inr (0, [.ref tr2, .ref ca2, .int (nI pl2.length), .ref ta2]))) → (wm tr2 = some (.inl (dA 3, 24, .inr (.inr (.inr (.inr fx)))))) → (wm ca2 = some (.inl (dA 3, 16, .inr (.inr (.inr (.inr fy)))))) → (wm ta2 = some (.inl (dA 0, 11, .inl fa2))) → (∀ z, z ≠ tr2 → z ≠ ca2 → wm z = w z) → fw_P (dC, dI) cls_ (AA s0) wm H → va_S (AA s0) s.heap H locs → ∀ (ls : Array Slot), lv_has ls 3 [(0, .ref h2), (1, .ref h), (2, .int (nI i2))] → W p l e _ s m args below meth c H locs 0 0 (MQ below _ args s 0 0 (AA s0)) (F0 m 31 ls []) from lp 17 0 fd (by omega) (fun j hj => absurd hj (Nat.not_lt_zero j)) (by omega) _ _ _ f1 f2 f3 f4 k1 k2 k3 k4 (fun z z1 _ => hfr z z1) hP hS ls (lv_sub hl [1, 2, 0] rfl)
      intro n
      induction n with
      | zero => intro i2 fy hi2 hy1 hbn; exact absurd hbn (by omega)
      | succ n ih =>
        intro i2 fy hi2 hy1 hbn wm H locs f1 f2 f3 f4 k1 k2 k3 k4 hfm hP hS ls hl
        refine lv_iload_n hx hb d_M_becomeCopyOf_31 rfl (lv_at hl 2 rfl) ?_
        refine lv_bipush (v := (nI 16)) hx hb d_M_becomeCopyOf_32 (by decide) ?_
        refine nu_ge (tgt := 55) hx hb (by omega) (by omega) d_M_becomeCopyOf_34 (by decide) (fun c3 => ?_) (fun c3 => ?_)
        · refine lv_aload_n hx hb d_M_becomeCopyOf_55 rfl (lv_at hl 0 rfl) ?_
          refine lv_aload_n hx hb d_M_becomeCopyOf_56 rfl (lv_at hl 1 rfl) ?_
          refine va_get (D := (dC, dI)) (ci := 0) (v := .int (nI pl.length)) (C := R_M) (T := F_M) (N := 4) hx hb hg in_M hown hK (hP.one f1) 0 rfl rfl 2 (by decide) (hg _ k_118) (fun _ h9 => h9) rfl d_M_becomeCopyOf_57 ?_
          refine fw_put (D := (dC, dI)) (ci := 0) (v := .int (nI pl.length)) (ty := .int) (C := R_M) (T := F_M) (N := 4) hx hb hg in_M ft_M ft_M_ok n_M hown hK hP hS k1 rfl 2 (by decide) (hg _ k_118) (fun _ h9 => h9) rfl (by decide +kernel) rfl rfl (Nat.le_of_ble_eq_true rfl) d_M_becomeCopyOf_60 (fun w51 H locs ew52 hP hS => ?_)
          have f1 : w51 h = some (.inr (0, [.ref tr, .ref ca, .int (nI pl.length), .ref ta])) := by rw [ew52, va_up_ne _ _ (Ne.symm n1)]; exact f1
          have f2 : w51 tr = some (.inl (dA 3, 24, .inr (.inr (.inr (.inr ft))))) := by rw [ew52, va_up_ne _ _ (fw_ne f2 k1 (by simp))]; exact f2
          have f3 : w51 ca = some (.inl (dA 3, 16, .inr (.inr (.inr (.inr fc))))) := by rw [ew52, va_up_ne _ _ (fw_ne f3 k1 (by simp))]; exact f3
          have f4 : w51 ta = some (.inl (dA 0, 11, .inl fa)) := by rw [ew52, va_up_ne _ _ (fw_ne f4 k1 (by simp))]; exact f4
          have k2 : w51 tr2 = some (.inl (dA 3, 24, .inr (.inr (.inr (.inr fx))))) := by rw [ew52, va_up_ne _ _ (fw_ne k2 k1 (by simp))]; exact k2
          have k3 : w51 ca2 = some (.inl (dA 3, 16, .inr (.inr (.inr (.inr fy))))) := by rw [ew52, va_up_ne _ _ (fw_ne k3 k1 (by simp))]; exact k3
          have k4 : w51 ta2 = some (.inl (dA 0, 11, .inl fa2)) := by rw [ew52, va_up_ne _ _ (fw_ne k4 k1 (by simp))]; exact k4
          have k1 : w51 h2 = some (.inr (0, [.ref tr2, .ref ca2, .int (nI pl.length), .ref ta2])) := by rw [ew52]; exact va_up_self _ _ _
          exact W.vret hx hb hr (fun tS ht hW => ⟨⟨w51, rfl, ⟨⟨fx, ⟨fy, k1, k2, k3, k4, h16, fun j t hj => (hy1 j (by have := (List.getElem?_eq_some_iff.mp hj).1; omega)).trans (hpl j t hj), fun j h1 h2 => (hy1 j (by omega)).trans (hcn j h1 h2)⟩, fun j hj => hfx j (by omega)⟩, fun z z1 z2 z3 => by rw [ew52, va_up_ne _ _ z1]; exact hfm z z2 z3⟩, mB_of ht hP⟩, hS.F ht⟩) hS.2.2 d_M_becomeCopyOf_63
        · refine lv_aload_n hx hb d_M_becomeCopyOf_37 rfl (lv_at hl 0 rfl) ?_
          refine va_get (D := (dC, dI)) (ci := 0) (v := .ref ca2) (C := R_M) (T := F_M) (N := 4) hx hb hg in_M hown hK (hP.one k1) 0 rfl rfl 1 (by decide) (hg _ k_117) (fun _ h9 => h9) rfl d_M_becomeCopyOf_38 ?_
          refine lv_iload_n hx hb d_M_becomeCopyOf_41 rfl (lv_at hl 2 rfl) ?_
          refine lv_aload_n hx hb d_M_becomeCopyOf_42 rfl (lv_at hl 1 rfl) ?_
          refine va_get (D := (dC, dI)) (ci := 0) (v := .ref ca) (C := R_M) (T := F_M) (N := 4) hx hb hg in_M hown hK (hP.one f1) 0 rfl rfl 1 (by decide) (hg _ k_117) (fun _ h9 => h9) rfl d_M_becomeCopyOf_43 ?_
          refine lv_iload_n hx hb d_M_becomeCopyOf_46 rfl (lv_at hl 2 rfl) ?_
          refine fw_aldq (tys := tyl dA) hx hb hK hP f3 3 rfl (j := i2) (by omega) (by decide) d_M_becomeCopyOf_47 ?_
          by_cases hlt : i2 < pl.length
          · obtain ⟨t9, ht9⟩ : ∃ t, pl[i2]? = some t := ⟨_, List.getElem?_eq_getElem hlt⟩
            obtain ⟨x1, x2, x3, x4, f5⟩ := hO t9 (List.mem_of_getElem? ht9)
            rw [← hfm t9 (fw_ne f5 k2w (by simp)) (fw_ne f5 k3w (by simp))] at f5
            rw [hpl i2 t9 ht9]
            refine fw_astq (tys := tyl dA) (r := (R_T, F_T, 5)) hx hb hK hP hS k3 3 rfl 3 f5 rfl (j := i2) (by omega) (by decide) d_M_becomeCopyOf_48 (fun w53 H locs ew54 hP hS => ?_)
            have f1 : w53 h = some (.inr (0, [.ref tr, .ref ca, .int (nI pl.length), .ref ta])) := by rw [ew54, va_up_ne _ _ (fw_ne f1 k3 (by simp))]; exact f1
            have f2 : w53 tr = some (.inl (dA 3, 24, .inr (.inr (.inr (.inr ft))))) := by rw [ew54, va_up_ne _ _ (fw_ne f2 k3 (by simp))]; exact f2
            have f3 : w53 ca = some (.inl (dA 3, 16, .inr (.inr (.inr (.inr fc))))) := by rw [ew54, va_up_ne _ _ (Ne.symm n3)]; exact f3
            have f4 : w53 ta = some (.inl (dA 0, 11, .inl fa)) := by rw [ew54, va_up_ne _ _ (fw_ne f4 k3 (by simp))]; exact f4
            have k1 : w53 h2 = some (.inr (0, [.ref tr2, .ref ca2, .int (nI pl2.length), .ref ta2])) := by rw [ew54, va_up_ne _ _ (fw_ne k1 k3 (by simp))]; exact k1
            have k2 : w53 tr2 = some (.inl (dA 3, 24, .inr (.inr (.inr (.inr fx))))) := by rw [ew54, va_up_ne _ _ (fw_ne k2 k3 (by simp))]; exact k2
            have k4 : w53 ta2 = some (.inl (dA 0, 11, .inl fa2)) := by rw [ew54, va_up_ne _ _ (fw_ne k4 k3 (by simp))]; exact k4
            have f5 : w53 t9 = some (.inr (3, [.int (nI (ow t9)), x1, x2, x3, x4])) := by rw [ew54, va_up_ne _ _ (fw_ne f5 k3 (by simp))]; exact f5
            have k3 : w53 ca2 = some (.inl (dA 3, 16, .inr (.inr (.inr (.inr (va_up fy i2 (some t9))))))) := by rw [ew54]; exact va_up_self _ _ _
            refine lv_iinc (v := nI (i2 + 1)) (lv' := [(2, .int (nI (i2 + 1))), (0, .ref h2), (1, .ref h)]) hx hb d_M_becomeCopyOf_49 hl (k := 2) rfl (nI_add _ 1) (by decide) rfl (fun ls hl => ?_)
            refine lv_goto (tgt := 31) hx hb d_M_becomeCopyOf_52 (by decide) ?_
            exact ih (i2 + 1) (va_up fy i2 (some t9)) (by omega) (fun j hj => by by_cases h9 : j = i2; rw [h9, va_up_self]; exact (hpl i2 t9 ht9).symm; rw [va_up_ne _ _ h9]; exact hy1 j (by omega)) (by omega) _ _ _ f1 f2 f3 f4 k1 k2 k3 k4 (fun z z1 z2 => by rw [ew54, va_up_ne _ _ z2]; exact hfm z z1 z2) hP hS ls (lv_sub hl [1, 2, 0] rfl)
          · rw [hcn i2 (by omega) (by omega)]
            refine fw_astqN (tys := tyl dA) hx hb hK hP hS k3 3 rfl (j := i2) (by omega) (by decide) d_M_becomeCopyOf_48 (fun w55 H locs ew56 hP hS => ?_)
            have f1 : w55 h = some (.inr (0, [.ref tr, .ref ca, .int (nI pl.length), .ref ta])) := by rw [ew56, va_up_ne _ _ (fw_ne f1 k3 (by simp))]; exact f1
            have f2 : w55 tr = some (.inl (dA 3, 24, .inr (.inr (.inr (.inr ft))))) := by rw [ew56, va_up_ne _ _ (fw_ne f2 k3 (by simp))]; exact f2
            have f3 : w55 ca = some (.inl (dA 3, 16, .inr (.inr (.inr (.inr fc))))) := by rw [ew56, va_up_ne _ _ (Ne.symm n3)]; exact f3
            have f4 : w55 ta = some (.inl (dA 0, 11, .inl fa)) := by rw [ew56, va_up_ne _ _ (fw_ne f4 k3 (by simp))]; exact f4
            have k1 : w55 h2 = some (.inr (0, [.ref tr2, .ref ca2, .int (nI pl2.length), .ref ta2])) := by rw [ew56, va_up_ne _ _ (fw_ne k1 k3 (by simp))]; exact k1
            have k2 : w55 tr2 = some (.inl (dA 3, 24, .inr (.inr (.inr (.inr fx))))) := by rw [ew56, va_up_ne _ _ (fw_ne k2 k3 (by simp))]; exact k2
            have k4 : w55 ta2 = some (.inl (dA 0, 11, .inl fa2)) := by rw [ew56, va_up_ne _ _ (fw_ne k4 k3 (by simp))]; exact k4
            have k3 : w55 ca2 = some (.inl (dA 3, 16, .inr (.inr (.inr (.inr (va_up fy i2 none)))))) := by rw [ew56]; exact va_up_self _ _ _
            refine lv_iinc (v := nI (i2 + 1)) (lv' := [(2, .int (nI (i2 + 1))), (0, .ref h2), (1, .ref h)]) hx hb d_M_becomeCopyOf_49 hl (k := 2) rfl (nI_add _ 1) (by decide) rfl (fun ls hl => ?_)
            refine lv_goto (tgt := 31) hx hb d_M_becomeCopyOf_52 (by decide) ?_
            exact ih (i2 + 1) (va_up fy i2 none) (by omega) (fun j hj => by by_cases h9 : j = i2; rw [h9, va_up_self]; exact (hcn i2 (by omega) (by omega)).symm; rw [va_up_ne _ _ h9]; exact hy1 j (by omega)) (by omega) _ _ _ f1 f2 f3 f4 k1 k2 k3 k4 (fun z z1 z2 => by rw [ew56, va_up_ne _ _ z2]; exact hfm z z1 z2) hP hS ls (lv_sub hl [1, 2, 0] rfl)
    · refine lv_aload_n hx hb d_M_becomeCopyOf_11 rfl (lv_at hl 0 rfl) ?_
      refine va_get (D := (dC, dI)) (ci := 0) (v := .ref tr2) (C := R_M) (T := F_M) (N := 4) hx hb hg in_M hown hK (hP.one k1) 0 rfl rfl 0 (by decide) (hg _ k_116) (fun _ h9 => h9) rfl d_M_becomeCopyOf_12 ?_
      refine lv_iload_n hx hb d_M_becomeCopyOf_15 rfl (lv_at hl 2 rfl) ?_
      refine lv_aload_n hx hb d_M_becomeCopyOf_16 rfl (lv_at hl 1 rfl) ?_
      refine va_get (D := (dC, dI)) (ci := 0) (v := .ref tr) (C := R_M) (T := F_M) (N := 4) hx hb hg in_M hown hK (hP.one f1) 0 rfl rfl 0 (by decide) (hg _ k_116) (fun _ h9 => h9) rfl d_M_becomeCopyOf_17 ?_
      refine lv_iload_n hx hb d_M_becomeCopyOf_20 rfl (lv_at hl 2 rfl) ?_
      refine fw_aldq (tys := tyl dA) hx hb hK hP f2 3 rfl (j := i) (by omega) (by decide) d_M_becomeCopyOf_21 ?_
      rcases hq : ft i with _ | t9
      · refine fw_astqN (tys := tyl dA) hx hb hK hP hS k2 3 rfl (j := i) (by omega) (by decide) d_M_becomeCopyOf_22 (fun w57 H locs ew58 hP hS => ?_)
        have f1 : w57 h = some (.inr (0, [.ref tr, .ref ca, .int (nI pl.length), .ref ta])) := by rw [ew58, va_up_ne _ _ (fw_ne f1 k2 (by simp))]; exact f1
        have f2 : w57 tr = some (.inl (dA 3, 24, .inr (.inr (.inr (.inr ft))))) := by rw [ew58, va_up_ne _ _ (Ne.symm n2)]; exact f2
        have f3 : w57 ca = some (.inl (dA 3, 16, .inr (.inr (.inr (.inr fc))))) := by rw [ew58, va_up_ne _ _ (fw_ne f3 k2 (by simp))]; exact f3
        have f4 : w57 ta = some (.inl (dA 0, 11, .inl fa)) := by rw [ew58, va_up_ne _ _ (fw_ne f4 k2 (by simp))]; exact f4
        have k1 : w57 h2 = some (.inr (0, [.ref tr2, .ref ca2, .int (nI pl2.length), .ref ta2])) := by rw [ew58, va_up_ne _ _ (fw_ne k1 k2 (by simp))]; exact k1
        have k3 : w57 ca2 = some (.inl (dA 3, 16, .inr (.inr (.inr (.inr fd))))) := by rw [ew58, va_up_ne _ _ (fw_ne k3 k2 (by simp))]; exact k3
        have k4 : w57 ta2 = some (.inl (dA 0, 11, .inl fa2)) := by rw [ew58, va_up_ne _ _ (fw_ne k4 k2 (by simp))]; exact k4
        have k2 : w57 tr2 = some (.inl (dA 3, 24, .inr (.inr (.inr (.inr (va_up fx i none)))))) := by rw [ew58]; exact va_up_self _ _ _
        refine lv_iinc (v := nI (i + 1)) (lv' := [(2, .int (nI (i + 1))), (0, .ref h2), (1, .ref h)]) hx hb d_M_becomeCopyOf_23 hl (k := 2) rfl (nI_add _ 1) (by decide) rfl (fun ls hl => ?_)
        refine lv_goto (tgt := 2) hx hb d_M_becomeCopyOf_26 (by decide) ?_
        exact ih (i + 1) (va_up fx i none) (by omega) (fun j hj => by by_cases h9 : j = i; rw [h9, va_up_self]; exact hq.symm; rw [va_up_ne _ _ h9]; exact hfx j (by omega)) (by omega) _ _ _ f1 f2 f3 f4 k1 k2 k3 k4 (fun z z1 => by rw [ew58, va_up_ne _ _ z1]; exact hfr z z1) hP hS ls (lv_sub hl [1, 2, 0] rfl)
      · obtain ⟨o9, x1, x2, x3, x4, f5⟩ := hO2 i (by omega) t9 hq
        rw [← hfr t9 (fw_ne f5 k2w (by simp))] at f5
        refine fw_astq (tys := tyl dA) (r := (R_T, F_T, 5)) hx hb hK hP hS k2 3 rfl 3 f5 rfl (j := i) (by omega) (by decide) d_M_becomeCopyOf_22 (fun w59 H locs ew60 hP hS => ?_)
        have f1 : w59 h = some (.inr (0, [.ref tr, .ref ca, .int (nI pl.length), .ref ta])) := by rw [ew60, va_up_ne _ _ (fw_ne f1 k2 (by simp))]; exact f1
        have f2 : w59 tr = some (.inl (dA 3, 24, .inr (.inr (.inr (.inr ft))))) := by rw [ew60, va_up_ne _ _ (Ne.symm n2)]; exact f2
        have f3 : w59 ca = some (.inl (dA 3, 16, .inr (.inr (.inr (.inr fc))))) := by rw [ew60, va_up_ne _ _ (fw_ne f3 k2 (by simp))]; exact f3
        have f4 : w59 ta = some (.inl (dA 0, 11, .inl fa)) := by rw [ew60, va_up_ne _ _ (fw_ne f4 k2 (by simp))]; exact f4
        have k1 : w59 h2 = some (.inr (0, [.ref tr2, .ref ca2, .int (nI pl2.length), .ref ta2])) := by rw [ew60, va_up_ne _ _ (fw_ne k1 k2 (by simp))]; exact k1
        have k3 : w59 ca2 = some (.inl (dA 3, 16, .inr (.inr (.inr (.inr fd))))) := by rw [ew60, va_up_ne _ _ (fw_ne k3 k2 (by simp))]; exact k3
        have k4 : w59 ta2 = some (.inl (dA 0, 11, .inl fa2)) := by rw [ew60, va_up_ne _ _ (fw_ne k4 k2 (by simp))]; exact k4
        have f5 : w59 t9 = some (.inr (3, [.int (nI o9), x1, x2, x3, x4])) := by rw [ew60, va_up_ne _ _ (fw_ne f5 k2 (by simp))]; exact f5
        have k2 : w59 tr2 = some (.inl (dA 3, 24, .inr (.inr (.inr (.inr (va_up fx i (some t9))))))) := by rw [ew60]; exact va_up_self _ _ _
        refine lv_iinc (v := nI (i + 1)) (lv' := [(2, .int (nI (i + 1))), (0, .ref h2), (1, .ref h)]) hx hb d_M_becomeCopyOf_23 hl (k := 2) rfl (nI_add _ 1) (by decide) rfl (fun ls hl => ?_)
        refine lv_goto (tgt := 2) hx hb d_M_becomeCopyOf_26 (by decide) ?_
        exact ih (i + 1) (va_up fx i (some t9)) (by omega) (fun j hj => by by_cases h9 : j = i; rw [h9, va_up_self]; exact hq.symm; rw [va_up_ne _ _ h9]; exact hfx j (by omega)) (by omega) _ _ _ f1 f2 f3 f4 k1 k2 k3 k4 (fun z z1 => by rw [ew60, va_up_ne _ _ z1]; exact hfr z z1) hP hS ls (lv_sub hl [1, 2, 0] rfl)
