set_option maxHeartbeats 4000000 in
set_option maxRecDepth 100000 in
theorem c_M_append {l : Launch} {s0 : State} {dC : Nat → ClassId} {dI : Nat → Nat → Nat} {dA : Nat → ClassId} (B0 : BB s0 dC dI dA) (w : fw_W) (h tr ca ta : Nat) (ft : Nat → Option Nat) (pl : List Nat) (fa : Nat → Int32) (ow : Nat → Nat) (t o : Nat) (hM : aM dA w h tr ca ta ft pl fa) (hO : ∀ t ∈ pl, oT w t (ow t)) (hT : oT w t o) : Met l y_M_append [.code y_M_append b_M_append 2 none] ({ frames := 2, cells := 0, slots := 0, locals := 45 }) (mP s0 dC dI w [.ref h, .ref t]) (mQv s0 dC dI (fun w' => aM dA w' h tr ca ta ft (pl.drop (pl.length - 15) ++ [t]) fa ∧ ∀ z, z ≠ h → z ≠ ca → w' z = w z)) 0 0 (AA s0) := by
  have hM9 := hM
  obtain ⟨x1, x2, x3, x4, f5⟩ := hT
  obtain ⟨fc, f1, f2, f3, f4, h16, hpl, hcn⟩ := hM
  refine mt_ofW B0 (by decide) (Nat.le_of_ble_eq_true rfl) (fun p e s m args below meth c ls hargs X hin hl hP => ?_)
  have X9 := X
  obtain ⟨hx, hb, hr, hml, hown, hg, hK, hn, hE, hlocks, hA⟩ := X9
  have hS : va_S (AA s0) s.heap s.heap [] := va_S.rf
  have hl : lv_has ls 2 [(0, .ref h), (1, .ref t)] := hl
  refine lv_aload_n hx hb d_M_append_0 rfl (lv_at hl 0 rfl) ?_
  refine lv_bipush (v := (nI 15)) hx hb d_M_append_1 (by decide) ?_
  refine va_calli (rn_V (n := 1) (As := [.int (nI 15)]) (rest := []) (C := R_M) (T := F_M) (N := 4) (ci := 0) X hP hS (c_M_cut B0 w h tr ca ta ft pl fa ow 15 hM9 hO (by omega)) k_489 k_491 k_34 k_56 k_492 (by decide +kernel) rfl rfl ⟨Nat.le_of_ble_eq_true rfl, Nat.le_of_ble_eq_true rfl⟩ f1 rfl rfl hl.1 rfl (Nat.le_of_ble_eq_true rfl) d_M_append_3 ⟨Nat.le_of_ble_eq_true rfl, Nat.le_of_ble_eq_true rfl⟩) hS (fun q _ h => h) (fun q h => h) (fun r w14 tS H locs ht hvm hw hB hz1 hk1 hS => ?_)
  have hP : fw_P (dC, dI) cls_ (AA s0) w14 H := by rw [← ht]; exact hB
  obtain ⟨-, ⟨fy, g1, g2, g3, g4, g16, gpl, gcn⟩, gfr⟩ := hw
  rw [← gfr t (fw_ne f5 f1 (by simp)) (fw_ne f5 f3 (by simp))] at f5
  have hlen : (pl.drop (pl.length - 15)).length ≤ 15 := by rw [List.length_drop]; omega
  generalize hdr : pl.drop (pl.length - 15) = dr at g1 g16 gpl gcn hlen ⊢
  refine lv_pop hx hb d_M_append_6 rfl ?_
  refine lv_aload_n hx hb d_M_append_7 rfl (lv_at hl 0 rfl) ?_
  refine va_get (D := (dC, dI)) (ci := 0) (v := .ref ca) (C := R_M) (T := F_M) (N := 4) hx hb hg in_M hown hK (hP.one g1) 0 rfl rfl 1 (by decide) (hg _ k_117) (fun _ h9 => h9) rfl d_M_append_8 ?_
  refine lv_aload_n hx hb d_M_append_11 rfl (lv_at hl 0 rfl) ?_
  refine va_get (D := (dC, dI)) (ci := 0) (v := .int (nI dr.length)) (C := R_M) (T := F_M) (N := 4) hx hb hg in_M hown hK (hP.one g1) 0 rfl rfl 2 (by decide) (hg _ k_118) (fun _ h9 => h9) rfl d_M_append_12 ?_
  refine lv_aload_n hx hb d_M_append_15 rfl (lv_at hl 1 rfl) ?_
  refine fw_astq (tys := tyl dA) (r := (R_T, F_T, 5)) hx hb hK hP hS g3 3 rfl 3 f5 rfl (j := dr.length) (by omega) (by decide) d_M_append_16 (fun w15 H locs ew16 hP hS => ?_)
  have g1 : w15 h = some (.inr (0, [.ref tr, .ref ca, .int (nI dr.length), .ref ta])) := by rw [ew16, va_up_ne _ _ (fw_ne g1 g3 (by simp))]; exact g1
  have g2 : w15 tr = some (.inl (dA 3, 24, .inr (.inr (.inr (.inr ft))))) := by rw [ew16, va_up_ne _ _ (fw_ne g2 g3 (by simp))]; exact g2
  have g4 : w15 ta = some (.inl (dA 0, 11, .inl fa)) := by rw [ew16, va_up_ne _ _ (fw_ne g4 g3 (by simp))]; exact g4
  have f5 : w15 t = some (.inr (3, [.int (nI o), x1, x2, x3, x4])) := by rw [ew16, va_up_ne _ _ (fw_ne f5 g3 (by simp))]; exact f5
  have g3 : w15 ca = some (.inl (dA 3, 16, .inr (.inr (.inr (.inr (va_up fy dr.length (some t))))))) := by rw [ew16]; exact va_up_self _ _ _
  refine lv_aload_n hx hb d_M_append_17 rfl (lv_at hl 0 rfl) ?_
  refine lv_dup hx hb d_M_append_18 rfl ?_
  refine va_get (D := (dC, dI)) (ci := 0) (v := .int (nI dr.length)) (C := R_M) (T := F_M) (N := 4) hx hb hg in_M hown hK (hP.one g1) 0 rfl rfl 2 (by decide) (hg _ k_118) (fun _ h9 => h9) rfl d_M_append_19 ?_
  refine lv_iconst (v := (nI 1)) hx hb d_M_append_22 (by decide) ?_
  refine nu_iadd (r := dr.length + 1) hx hb d_M_append_23 (by omega) ?_
  refine fw_put (D := (dC, dI)) (ci := 0) (v := .int (nI (dr.length + 1))) (ty := .int) (C := R_M) (T := F_M) (N := 4) hx hb hg in_M ft_M ft_M_ok n_M hown hK hP hS g1 rfl 2 (by decide) (hg _ k_118) (fun _ h9 => h9) rfl (by decide +kernel) rfl rfl (Nat.le_of_ble_eq_true rfl) d_M_append_24 (fun w17 H locs ew18 hP hS => ?_)
  have g2 : w17 tr = some (.inl (dA 3, 24, .inr (.inr (.inr (.inr ft))))) := by rw [ew18, va_up_ne _ _ (fw_ne g2 g1 (by simp))]; exact g2
  have g3 : w17 ca = some (.inl (dA 3, 16, .inr (.inr (.inr (.inr (va_up fy dr.length (some t))))))) := by rw [ew18, va_up_ne _ _ (fw_ne g3 g1 (by simp))]; exact g3
  have g4 : w17 ta = some (.inl (dA 0, 11, .inl fa)) := by rw [ew18, va_up_ne _ _ (fw_ne g4 g1 (by simp))]; exact g4
  have f5 : w17 t = some (.inr (3, [.int (nI o), x1, x2, x3, x4])) := by rw [ew18, va_up_ne _ _ (fw_ne f5 g1 (by simp))]; exact f5
  have g1 : w17 h = some (.inr (0, [.ref tr, .ref ca, .int (nI (dr.length + 1)), .ref ta])) := by rw [ew18]; exact va_up_self _ _ _
  exact W.vret hx hb hr (fun tS ht hW => ⟨⟨w17, rfl, ⟨⟨_, by rw [List.length_append]; exact g1, g2, g3, g4, by rw [List.length_append]; exact Nat.succ_le_succ hlen, cP_app gpl, by rw [List.length_append]; exact cN_app gcn⟩, fun z z1 z2 => by rw [ew18, va_up_ne _ _ z1, ew16, va_up_ne _ _ z2]; exact gfr z z1 z2⟩, mB_of ht hP⟩, hS.F ht⟩) hS.2.2 d_M_append_27
set_option maxHeartbeats 4000000 in
set_option maxRecDepth 100000 in
theorem c_M_dropKey {l : Launch} {s0 : State} {dC : Nat → ClassId} {dI : Nat → Nat → Nat} {dA : Nat → ClassId} (B0 : BB s0 dC dI dA) (w : fw_W) (h tr ca ta : Nat) (ft : Nat → Option Nat) (pl : List Nat) (fa : Nat → Int32) (ow : Nat → Nat) (k : Nat) (hM : aM dA w h tr ca ta ft pl fa) (hO : ∀ t ∈ pl, oT w t (ow t)) (hok : ∀ t ∈ pl, ow t < 12) (hk : k < 12) : Met l y_M_dropKey [.code y_M_dropKey b_M_dropKey 5 none] ({ frames := 1, cells := 0, slots := 0, locals := 22 }) (mP s0 dC dI w [.ref h, .int (nI k)]) (mQv s0 dC dI (fun w' => aM dA w' h tr ca ta (va_up (va_up ft k none) (12 + k) none) (pl.filter (fun t => !(ow t == k))) fa ∧ ∀ z, z ≠ h → z ≠ tr → z ≠ ca → w' z = w z)) 0 0 (AA s0) := by
  obtain ⟨fc, f1, f2, f3, f4, h16, hpl, hcn⟩ := hM
  refine mt_ofW B0 (by decide) (Nat.le_of_ble_eq_true rfl) (fun p e s m args below meth c ls hargs X hin hl hP => ?_)
  have X9 := X
  obtain ⟨hx, hb, hr, hml, hown, hg, hK, hn, hE, hlocks, hA⟩ := X9
  have hS : va_S (AA s0) s.heap s.heap [] := va_S.rf
  have hl : lv_has ls 5 [(0, .ref h), (1, .int (nI k))] := hl
  have f1w := f1
  have f2w := f2
  have f3w := f3
  refine lv_iconst (v := (nI 0)) hx hb d_M_dropKey_0 (by decide) ?_
  refine lv_istore_n (lv' := [(2, .int (nI 0)), (0, .ref h), (1, .int (nI k))]) hx hb d_M_dropKey_1 rfl hl (by decide) rfl (fun ls hl => ?_)
  refine lv_iload_n hx hb d_M_dropKey_2 rfl (lv_at hl 0 rfl) ?_
  refine lv_iconst (v := (nI 2)) hx hb d_M_dropKey_3 (by decide) ?_
  refine nu_ge (tgt := 25) hx hb (by omega) (by omega) d_M_dropKey_4 (by decide) (fun c9 => absurd c9 (by omega)) (fun _ => ?_)
  refine lv_aload_n hx hb d_M_dropKey_7 rfl (lv_at hl 1 rfl) ?_
  refine va_get (D := (dC, dI)) (ci := 0) (v := .ref tr) (C := R_M) (T := F_M) (N := 4) hx hb hg in_M hown hK (hP.one f1) 0 rfl rfl 0 (by decide) (hg _ k_116) (fun _ h9 => h9) rfl d_M_dropKey_8 ?_
  refine lv_iload_n hx hb d_M_dropKey_11 rfl (lv_at hl 0 rfl) ?_
  refine lv_bipush (v := (nI 12)) hx hb d_M_dropKey_12 (by decide) ?_
  refine nu_imul (r := 12 * 0) hx hb d_M_dropKey_14 (by omega) ?_
  refine lv_iload_n hx hb d_M_dropKey_15 rfl (lv_at hl 2 rfl) ?_
  refine nu_iadd (r := 12 * 0 + k) hx hb d_M_dropKey_16 (by omega) ?_
  rw [show 12 * 0 + k = k by omega]
  refine lv_null hx hb d_M_dropKey_17 ?_
  refine fw_astqN (tys := tyl dA) hx hb hK hP hS f2 3 rfl (j := k) (by omega) (by decide) d_M_dropKey_18 (fun w19 H locs ew20 hP hS => ?_)
  have f1 : w19 h = some (.inr (0, [.ref tr, .ref ca, .int (nI pl.length), .ref ta])) := by rw [ew20, va_up_ne _ _ (fw_ne f1 f2 (by simp))]; exact f1
  have f3 : w19 ca = some (.inl (dA 3, 16, .inr (.inr (.inr (.inr fc))))) := by rw [ew20, va_up_ne _ _ (fw_ne f3 f2 (by simp))]; exact f3
  have f4 : w19 ta = some (.inl (dA 0, 11, .inl fa)) := by rw [ew20, va_up_ne _ _ (fw_ne f4 f2 (by simp))]; exact f4
  have f2 : w19 tr = some (.inl (dA 3, 24, .inr (.inr (.inr (.inr (va_up ft k none)))))) := by rw [ew20]; exact va_up_self _ _ _
  refine lv_iinc (v := nI 1) (lv' := [(2, .int (nI 1)), (0, .ref h), (1, .int (nI k))]) hx hb d_M_dropKey_19 hl (k := 0) rfl (nI_add _ 1) (by decide) rfl (fun ls hl => ?_)
  refine lv_goto (tgt := 2) hx hb d_M_dropKey_22 (by decide) ?_
  refine lv_iload_n hx hb d_M_dropKey_2 rfl (lv_at hl 0 rfl) ?_
  refine lv_iconst (v := (nI 2)) hx hb d_M_dropKey_3 (by decide) ?_
  refine nu_ge (tgt := 25) hx hb (by omega) (by omega) d_M_dropKey_4 (by decide) (fun c9 => absurd c9 (by omega)) (fun _ => ?_)
  refine lv_aload_n hx hb d_M_dropKey_7 rfl (lv_at hl 1 rfl) ?_
  refine va_get (D := (dC, dI)) (ci := 0) (v := .ref tr) (C := R_M) (T := F_M) (N := 4) hx hb hg in_M hown hK (hP.one f1) 0 rfl rfl 0 (by decide) (hg _ k_116) (fun _ h9 => h9) rfl d_M_dropKey_8 ?_
  refine lv_iload_n hx hb d_M_dropKey_11 rfl (lv_at hl 0 rfl) ?_
  refine lv_bipush (v := (nI 12)) hx hb d_M_dropKey_12 (by decide) ?_
  refine nu_imul (r := 12 * 1) hx hb d_M_dropKey_14 (by omega) ?_
  refine lv_iload_n hx hb d_M_dropKey_15 rfl (lv_at hl 2 rfl) ?_
  refine nu_iadd (r := 12 * 1 + k) hx hb d_M_dropKey_16 (by omega) ?_
  rw [show 12 * 1 + k = 12 + k by omega]
  refine lv_null hx hb d_M_dropKey_17 ?_
  refine fw_astqN (tys := tyl dA) hx hb hK hP hS f2 3 rfl (j := 12 + k) (by omega) (by decide) d_M_dropKey_18 (fun w21 H locs ew22 hP hS => ?_)
  have f1 : w21 h = some (.inr (0, [.ref tr, .ref ca, .int (nI pl.length), .ref ta])) := by rw [ew22, va_up_ne _ _ (fw_ne f1 f2 (by simp))]; exact f1
  have f3 : w21 ca = some (.inl (dA 3, 16, .inr (.inr (.inr (.inr fc))))) := by rw [ew22, va_up_ne _ _ (fw_ne f3 f2 (by simp))]; exact f3
  have f4 : w21 ta = some (.inl (dA 0, 11, .inl fa)) := by rw [ew22, va_up_ne _ _ (fw_ne f4 f2 (by simp))]; exact f4
  have f2 : w21 tr = some (.inl (dA 3, 24, .inr (.inr (.inr (.inr (va_up (va_up ft k none) (12 + k) none)))))) := by rw [ew22]; exact va_up_self _ _ _
  refine lv_iinc (v := nI 2) (lv' := [(2, .int (nI 2)), (0, .ref h), (1, .int (nI k))]) hx hb d_M_dropKey_19 hl (k := 0) rfl (nI_add _ 1) (by decide) rfl (fun ls hl => ?_)
  refine lv_goto (tgt := 2) hx hb d_M_dropKey_22 (by decide) ?_
  refine lv_iload_n hx hb d_M_dropKey_2 rfl (lv_at hl 0 rfl) ?_
  refine lv_iconst (v := (nI 2)) hx hb d_M_dropKey_3 (by decide) ?_
  refine nu_ge (tgt := 25) hx hb (by omega) (by omega) d_M_dropKey_4 (by decide) (fun _ => ?_) (fun c9 => absurd c9 (by omega))
  refine lv_iconst (v := (nI 0)) hx hb d_M_dropKey_25 (by decide) ?_
  refine lv_istore_n (lv' := [(2, .int (nI 0)), (0, .ref h), (1, .int (nI k))]) hx hb d_M_dropKey_26 rfl hl (by decide) rfl (fun ls hl => ?_)
  refine lv_iconst (v := (nI 0)) hx hb d_M_dropKey_27 (by decide) ?_
  refine lv_istore_n (lv' := [(3, .int (nI 0)), (2, .int (nI 0)), (0, .ref h), (1, .int (nI k))]) hx hb d_M_dropKey_28 rfl hl (by decide) rfl (fun ls hl => ?_)
  have hfr0 : ∀ z, z ≠ tr → w21 z = w z := fun z z1 => by rw [ew22, va_up_ne _ _ z1, ew20, va_up_ne _ _ z1]
  have hl : lv_has ls 5 [(3, .int (nI 0)), (2, .int (nI (((pl.take 0).filter (fun t => !(ow t == k))).length))), (0, .ref h), (1, .int (nI k))] := hl
  suffices lp : ∀ (n : Nat) (i : Nat) (fx : Nat → Option Nat), (i ≤ pl.length) → (cP fx ((pl.take i).filter (fun t => !(ow t == k)))) → (∀ j, i ≤ j → fx j = fc j) → (pl.length < i + n) → ∀ (wl : fw_W) (H : Heap) (locs : List Loc), (wl h = some (.inr (0, [.ref tr, .ref ca, .int (nI pl.length), .ref ta]))) → (wl tr = some (.inl (dA 3, 24, .inr (.inr (.inr (.inr (va_up (va_up ft k none) (12 + k) none))))))) → (wl ca = some (.inl (dA 3, 16, .inr (.inr (.inr (.inr fx)))))) → (wl ta = some (.inl (dA 0, 11, .inl fa))) → (∀ z, z ≠ tr → z ≠ ca → wl z = w z) → fw_P (dC, dI) cls_ (AA s0) wl H → va_S (AA s0) s.heap H locs → ∀ (ls : Array Slot), lv_has ls 5 [(0, .ref h), (1, .int (nI k)), (2, .int (nI (((pl.take i).filter (fun t => !(ow t == k))).length))), (3, .int (nI i))] → W p l e _ s m args below meth c H locs 0 0 (MQ below _ args s 0 0 (AA s0)) (F0 m 29 ls []) from lp (pl.length + 1) 0 fc (by omega) (fun j t hj => by simp at hj) (fun j _ => rfl) (by omega) _ _ _ f1 f2 f3 f4 (fun z z1 _ => hfr0 z z1) hP hS ls (lv_sub hl [2, 3, 1, 0] rfl)
  intro n
  induction n with
  | zero => intro i fx hi hf1 hf2 hbn; exact absurd hbn (by omega)
  | succ n ih =>
    intro i fx hi hf1 hf2 hbn wl H locs f1 f2 f3 f4 hfr hP hS ls hl
    have hle : ((pl.take i).filter (fun t => !(ow t == k))).length ≤ i := filt_len
    refine lv_iload_n hx hb d_M_dropKey_29 rfl (lv_at hl 3 rfl) ?_
    refine lv_aload_n hx hb d_M_dropKey_30 rfl (lv_at hl 0 rfl) ?_
    refine va_get (D := (dC, dI)) (ci := 0) (v := .int (nI pl.length)) (C := R_M) (T := F_M) (N := 4) hx hb hg in_M hown hK (hP.one f1) 0 rfl rfl 2 (by decide) (hg _ k_118) (fun _ h9 => h9) rfl d_M_dropKey_31 ?_
    refine nu_ge (tgt := 75) hx hb (by omega) (by omega) d_M_dropKey_34 (by decide) (fun c1 => ?_) (fun c1 => ?_)
    · refine lv_aload_n hx hb d_M_dropKey_75 rfl (lv_at hl 0 rfl) ?_
      refine lv_iload_n hx hb d_M_dropKey_76 rfl (lv_at hl 2 rfl) ?_
      refine va_callv (rn_V (n := 1) (As := [.int (nI (((pl.take i).filter (fun t => !(ow t == k))).length))]) (rest := []) (C := R_M) (T := F_M) (N := 4) (ci := 0) X hP hS (c_M_clear B0 wl h tr ca ta fx pl.length ((pl.take i).filter (fun t => !(ow t == k))).length f1 f3 h16 (fun j h1 h2 => (hf2 j (by omega)).trans (hcn j h1 h2)) (by omega)) k_286 k_288 k_7 k_56 k_289 (by decide +kernel) rfl rfl ⟨Nat.le_of_ble_eq_true rfl, Nat.le_of_ble_eq_true rfl⟩ f1 rfl rfl hl.1 rfl (Nat.le_of_ble_eq_true rfl) d_M_dropKey_77 ⟨Nat.le_of_ble_eq_true rfl, Nat.le_of_ble_eq_true rfl⟩) hS (fun q _ h => h) (fun q h => h) (fun w23 tS H locs ht hvm hw hB hz1 hk1 hS => ?_)
      have hP : fw_P (dC, dI) cls_ (AA s0) w23 H := by rw [← ht]; exact hB
      obtain ⟨g1, ⟨fy, g2, g3, gcn⟩, g4⟩ := hw
      have g5 : w23 tr = some (.inl (dA 3, 24, .inr (.inr (.inr (.inr (va_up (va_up ft k none) (12 + k) none)))))) := (g4 tr (fw_ne f2 f1 (by simp)) (fw_ne f2 f3 (by simp))).trans f2
      have g6 : w23 ta = some (.inl (dA 0, 11, .inl fa)) := (g4 ta (fw_ne f4 f1 (by simp)) (fw_ne f4 f3 (by simp))).trans f4
      rw [show i = pl.length by omega, List.take_length] at g1 g3 gcn hf1 hle
      exact W.vret hx hb hr (fun tS ht hW => ⟨⟨w23, rfl, ⟨⟨fy, g1, g5, g2, g6, by omega, fun j t hj => (g3 j (List.getElem?_eq_some_iff.mp hj).1).trans (hf1 j t hj), gcn⟩, fun z z1 z2 z3 => (g4 z z1 z3).trans (hfr z z2 z3)⟩, mB_of ht hP⟩, hS.F ht⟩) hS.2.2 d_M_dropKey_80
    · obtain ⟨t9, ht9⟩ : ∃ t, pl[i]? = some t := ⟨_, List.getElem?_eq_getElem c1⟩
      obtain ⟨x1, x2, x3, x4, f5⟩ := hO t9 (List.mem_of_getElem? ht9)
      have ho9 := hok t9 (List.mem_of_getElem? ht9)
      rw [← hfr t9 (fw_ne f5 f2w (by simp)) (fw_ne f5 f3w (by simp))] at f5
      refine lv_aload_n hx hb d_M_dropKey_37 rfl (lv_at hl 0 rfl) ?_
      refine lv_iload_n hx hb d_M_dropKey_38 rfl (lv_at hl 3 rfl) ?_
      refine va_callq (rn_V (n := 1) (As := [.int (nI i)]) (rest := []) (C := R_M) (T := F_M) (N := 4) (ci := 0) X hP hS (c_M_entryIn B0 wl h tr ca ta fx pl.length i f1 f3 h16 c1) k_282 k_284 k_6 k_56 k_285 (by decide +kernel) rfl rfl ⟨Nat.le_of_ble_eq_true rfl, Nat.le_of_ble_eq_true rfl⟩ f1 rfl rfl hl.1 rfl (Nat.le_of_ble_eq_true rfl) d_M_dropKey_39 ⟨Nat.le_of_ble_eq_true rfl, Nat.le_of_ble_eq_true rfl⟩) hS (fun q _ h => h) (fun q h => h) (fun r w24 tS H locs ht hvm hw hB hz1 hk1 hS => ?_)
      have hP : fw_P (dC, dI) cls_ (AA s0) w24 H := by rw [← ht]; exact hB
      obtain ⟨ew9, er9⟩ := hw
      rw [ew9] at hP
      rw [er9, hf2 i (Nat.le_refl _), hpl i t9 ht9]
      refine lv_astore (lv' := [(4, .ref t9), (0, .ref h), (1, .int (nI k)), (2, .int (nI (((pl.take i).filter (fun t => !(ow t == k))).length))), (3, .int (nI i))]) hx hb d_M_dropKey_42 hl (by decide) rfl (fun ls hl => ?_)
      refine lv_aload hx hb d_M_dropKey_44 (lv_at hl 0 rfl) ?_
      refine lv_ifnull hx hb d_M_dropKey_46 ?_
      refine lv_aload hx hb d_M_dropKey_49 (lv_at hl 0 rfl) ?_
      refine va_getN (D := (dC, dI)) (ci := 3) (v := .int (nI (ow t9))) (C := R_T) (T := F_T) (N := 5) hx hb hg in_T hown hK (hP.one f5) 0 rfl rfl 0 (by decide) (hn _ u_403) (fun _ h9 => h9) rfl d_M_dropKey_51 ?_
      refine lv_iload_n hx hb d_M_dropKey_54 rfl (lv_at hl 2 rfl) ?_
      refine nu_eq (tgt := 69) hx hb (by omega) (by omega) d_M_dropKey_55 (by decide) (fun c2 => ?_) (fun c2 => ?_)
      · refine lv_iinc (v := nI (i + 1)) (lv' := [(3, .int (nI (i + 1))), (4, .ref t9), (0, .ref h), (1, .int (nI k)), (2, .int (nI (((pl.take i).filter (fun t => !(ow t == k))).length)))]) hx hb d_M_dropKey_69 hl (k := 4) rfl (nI_add _ 1) (by decide) rfl (fun ls hl => ?_)
        refine lv_goto (tgt := 29) hx hb d_M_dropKey_72 (by decide) ?_
        have hs9 := cP_skip (p := (fun t => !(ow t == k))) ht9 (by simp [c2])
        rw [← hs9] at hl hf1
        exact ih (i + 1) fx (by omega) hf1 (fun j hj => hf2 j (by omega)) (by omega) _ _ _ f1 f2 f3 f4 hfr hP hS ls (lv_sub hl [2, 3, 4, 0] rfl)
      · refine lv_aload_n hx hb d_M_dropKey_58 rfl (lv_at hl 1 rfl) ?_
        refine va_get (D := (dC, dI)) (ci := 0) (v := .ref ca) (C := R_M) (T := F_M) (N := 4) hx hb hg in_M hown hK (hP.one f1) 0 rfl rfl 1 (by decide) (hg _ k_117) (fun _ h9 => h9) rfl d_M_dropKey_59 ?_
        refine lv_iload_n hx hb d_M_dropKey_62 rfl (lv_at hl 3 rfl) ?_
        refine lv_aload hx hb d_M_dropKey_63 (lv_at hl 0 rfl) ?_
        refine fw_astq (tys := tyl dA) (r := (R_T, F_T, 5)) hx hb hK hP hS f3 3 rfl 3 f5 rfl (j := ((pl.take i).filter (fun t => !(ow t == k))).length) (by omega) (by decide) d_M_dropKey_65 (fun w25 H locs ew26 hP hS => ?_)
        have f1 : w25 h = some (.inr (0, [.ref tr, .ref ca, .int (nI pl.length), .ref ta])) := by rw [ew26, va_up_ne _ _ (fw_ne f1 f3 (by simp))]; exact f1
        have f2 : w25 tr = some (.inl (dA 3, 24, .inr (.inr (.inr (.inr (va_up (va_up ft k none) (12 + k) none)))))) := by rw [ew26, va_up_ne _ _ (fw_ne f2 f3 (by simp))]; exact f2
        have f4 : w25 ta = some (.inl (dA 0, 11, .inl fa)) := by rw [ew26, va_up_ne _ _ (fw_ne f4 f3 (by simp))]; exact f4
        have f5 : w25 t9 = some (.inr (3, [.int (nI (ow t9)), x1, x2, x3, x4])) := by rw [ew26, va_up_ne _ _ (fw_ne f5 f3 (by simp))]; exact f5
        have f3 : w25 ca = some (.inl (dA 3, 16, .inr (.inr (.inr (.inr (va_up fx (((pl.take i).filter (fun t => !(ow t == k))).length) (some t9))))))) := by rw [ew26]; exact va_up_self _ _ _
        refine lv_iinc (v := nI (((pl.take i).filter (fun t => !(ow t == k))).length + 1)) (lv' := [(2, .int (nI (((pl.take i).filter (fun t => !(ow t == k))).length + 1))), (4, .ref t9), (0, .ref h), (1, .int (nI k)), (3, .int (nI i))]) hx hb d_M_dropKey_66 hl (k := 3) rfl (nI_add _ 1) (by decide) rfl (fun ls hl => ?_)
        refine lv_iinc (v := nI (i + 1)) (lv' := [(3, .int (nI (i + 1))), (2, .int (nI (((pl.take i).filter (fun t => !(ow t == k))).length + 1))), (4, .ref t9), (0, .ref h), (1, .int (nI k))]) hx hb d_M_dropKey_69 hl (k := 4) rfl (nI_add _ 1) (by decide) rfl (fun ls hl => ?_)
        refine lv_goto (tgt := 29) hx hb d_M_dropKey_72 (by decide) ?_
        have hs9 := filt_one (p := (fun t => !(ow t == k))) ht9 (by simp [c2])
        rw [← hs9] at hl
        exact ih (i + 1) (va_up fx ((pl.take i).filter (fun t => !(ow t == k))).length (some t9)) (by omega) (cP_filt ht9 hf1 (by simp [c2])) (fun j hj => by rw [va_up_ne _ _ (by omega)]; exact hf2 j (by omega)) (by omega) _ _ _ f1 f2 f3 f4 (fun z z1 z2 => by rw [ew26, va_up_ne _ _ z2]; exact hfr z z1 z2) hP hS ls (lv_sub hl [3, 4, 1, 0] rfl)
