set_option maxHeartbeats 4000000 in
set_option maxRecDepth 100000 in
theorem c_M_cut {l : Launch} {s0 : State} {dC : Nat → ClassId} {dI : Nat → Nat → Nat} {dA : Nat → ClassId} (B0 : BB s0 dC dI dA) (w : fw_W) (h tr ca ta : Nat) (ft : Nat → Option Nat) (pl : List Nat) (fa : Nat → Int32) (ow : Nat → Nat) (n0 : Nat) (hM : aM dA w h tr ca ta ft pl fa) (hO : ∀ t ∈ pl, oT w t (ow t)) (hn0 : n0 ≤ 16) : Met l y_M_cutCacheTo [.code y_M_cutCacheTo b_M_cutCacheTo 4 (some .int)] ({ frames := 1, cells := 0, slots := 0, locals := 22 }) (mP s0 dC dI w [.ref h, .int (nI n0)]) (mQi s0 dC dI (fun r w' => r = nI (pl.length - n0) ∧ aM dA w' h tr ca ta ft (pl.drop (pl.length - n0)) fa ∧ ∀ z, z ≠ h → z ≠ ca → w' z = w z)) 0 0 (AA s0) := by
  obtain ⟨fc, f1, f2, f3, f4, h16, hpl, hcn⟩ := hM
  refine mt_ofW B0 (by decide) (Nat.le_of_ble_eq_true rfl) (fun p e s m args below meth c ls hargs X hin hl hP => ?_)
  have X9 := X
  obtain ⟨hx, hb, hr, hml, hown, hg, hK, hn, hE, hlocks, hA⟩ := X9
  have hS : va_S (AA s0) s.heap s.heap [] := va_S.rf
  have hl : lv_has ls 4 [(0, .ref h), (1, .int (nI n0))] := hl
  rcases Nat.lt_or_ge n0 pl.length with hlt | hge
  · refine lv_aload_n hx hb d_M_cutCacheTo_0 rfl (lv_at hl 0 rfl) ?_
    refine va_get (D := (dC, dI)) (ci := 0) (v := .int (nI pl.length)) (C := R_M) (T := F_M) (N := 4) hx hb hg in_M hown hK (hP.one f1) 0 rfl rfl 2 (by decide) (hg _ k_118) (fun _ h9 => h9) rfl d_M_cutCacheTo_1 ?_
    refine lv_iload_n hx hb d_M_cutCacheTo_4 rfl (lv_at hl 1 rfl) ?_
    refine nu_isub (r := pl.length - n0) hx hb d_M_cutCacheTo_5 (by omega) ?_
    refine lv_istore_n (lv' := [(2, .int (nI (pl.length - n0))), (0, .ref h), (1, .int (nI n0))]) hx hb d_M_cutCacheTo_6 rfl hl (by decide) rfl (fun ls hl => ?_)
    refine lv_iload_n hx hb d_M_cutCacheTo_7 rfl (lv_at hl 0 rfl) ?_
    refine lv_if_gt (tgt := 13) hx hb d_M_cutCacheTo_8 (by decide) (fun c1 => ?_) (fun c1 => ?_)
    · have f1w := f1
      have f3w := f3
      refine lv_iconst (v := (nI 0)) hx hb d_M_cutCacheTo_13 (by decide) ?_
      refine lv_istore_n (lv' := [(3, .int (nI 0)), (2, .int (nI (pl.length - n0))), (0, .ref h), (1, .int (nI n0))]) hx hb d_M_cutCacheTo_14 rfl hl (by decide) rfl (fun ls hl => ?_)
      suffices lp : ∀ (n : Nat) (i : Nat) (fx : Nat → Option Nat), (i ≤ n0) → (∀ j, j < i → fx j = fc (j + (pl.length - n0))) → (∀ j, i ≤ j → fx j = fc j) → (n0 < i + n) → ∀ (wl : fw_W) (H : Heap) (locs : List Loc), (wl h = some (.inr (0, [.ref tr, .ref ca, .int (nI pl.length), .ref ta]))) → (wl tr = some (.inl (dA 3, 24, .inr (.inr (.inr (.inr ft)))))) → (wl ca = some (.inl (dA 3, 16, .inr (.inr (.inr (.inr fx)))))) → (wl ta = some (.inl (dA 0, 11, .inl fa))) → (∀ z, z ≠ ca → wl z = w z) → fw_P (dC, dI) cls_ (AA s0) wl H → va_S (AA s0) s.heap H locs → ∀ (ls : Array Slot), lv_has ls 4 [(0, .ref h), (1, .int (nI n0)), (2, .int (nI (pl.length - n0))), (3, .int (nI i))] → W p l e _ s m args below meth c H locs 0 0 (MQ below _ args s 0 0 (AA s0)) (F0 m 15 ls []) from lp (n0 + 1) 0 fc (by omega) (fun j hj => absurd hj (Nat.not_lt_zero j)) (fun j _ => rfl) (by omega) _ _ _ f1 f2 f3 f4 (fun z _ => rfl) hP hS ls (lv_sub hl [2, 3, 1, 0] rfl)
      intro n
      induction n with
      | zero => intro i fx hi hf1 hf2 hbn; exact absurd hbn (by omega)
      | succ n ih =>
        intro i fx hi hf1 hf2 hbn wl H locs f1 f2 f3 f4 hfr hP hS ls hl
        refine lv_iload_n hx hb d_M_cutCacheTo_15 rfl (lv_at hl 3 rfl) ?_
        refine lv_iload_n hx hb d_M_cutCacheTo_16 rfl (lv_at hl 1 rfl) ?_
        refine nu_ge (tgt := 40) hx hb (by omega) (by omega) d_M_cutCacheTo_17 (by decide) (fun c2 => ?_) (fun c2 => ?_)
        · refine lv_aload_n hx hb d_M_cutCacheTo_40 rfl (lv_at hl 0 rfl) ?_
          refine lv_iload_n hx hb d_M_cutCacheTo_41 rfl (lv_at hl 1 rfl) ?_
          refine va_callv (rn_V (n := 1) (As := [.int (nI n0)]) (rest := []) (C := R_M) (T := F_M) (N := 4) (ci := 0) X hP hS (c_M_clear B0 wl h tr ca ta fx pl.length n0 f1 f3 h16 (fun j h1 h2 => (hf2 j (by omega)).trans (hcn j h1 h2)) (by omega)) k_286 k_288 k_7 k_56 k_289 (by decide +kernel) rfl rfl ⟨Nat.le_of_ble_eq_true rfl, Nat.le_of_ble_eq_true rfl⟩ f1 rfl rfl hl.1 rfl (Nat.le_of_ble_eq_true rfl) d_M_cutCacheTo_42 ⟨Nat.le_of_ble_eq_true rfl, Nat.le_of_ble_eq_true rfl⟩) hS (fun q _ h => h) (fun q h => h) (fun w11 tS H locs ht hvm hw hB hz1 hk1 hS => ?_)
          have hP : fw_P (dC, dI) cls_ (AA s0) w11 H := by rw [← ht]; exact hB
          obtain ⟨g1, ⟨fy, g2, g3, gcn⟩, g4⟩ := hw
          have g5 : w11 tr = some (.inl (dA 3, 24, .inr (.inr (.inr (.inr ft))))) := (g4 tr (fw_ne f2 f1 (by simp)) (fw_ne f2 f3 (by simp))).trans f2
          have g6 : w11 ta = some (.inl (dA 0, 11, .inl fa)) := (g4 ta (fw_ne f4 f1 (by simp)) (fw_ne f4 f3 (by simp))).trans f4
          refine lv_iload_n hx hb d_M_cutCacheTo_45 rfl (lv_at hl 2 rfl) ?_
          exact W.iret (v := (nI (pl.length - n0))) hx hb hr (fun tS ht hW => ⟨⟨(nI (pl.length - n0)), w11, rfl, ⟨rfl, ⟨fy, by rw [show (pl.drop (pl.length - n0)).length = n0 by rw [List.length_drop]; omega]; exact g1, g5, g2, g6, by rw [List.length_drop]; omega, cP_drop hpl (fun j hj => (g3 j (by omega)).trans (hf1 j (by omega))), by rw [show (pl.drop (pl.length - n0)).length = n0 by rw [List.length_drop]; omega]; exact gcn⟩, fun z z1 z2 => (g4 z z1 z2).trans (hfr z z2)⟩, mB_of ht hP⟩, hS.F ht⟩) hS.2.2 d_M_cutCacheTo_46
        · refine lv_aload_n hx hb d_M_cutCacheTo_20 rfl (lv_at hl 0 rfl) ?_
          refine va_get (D := (dC, dI)) (ci := 0) (v := .ref ca) (C := R_M) (T := F_M) (N := 4) hx hb hg in_M hown hK (hP.one f1) 0 rfl rfl 1 (by decide) (hg _ k_117) (fun _ h9 => h9) rfl d_M_cutCacheTo_21 ?_
          refine lv_iload_n hx hb d_M_cutCacheTo_24 rfl (lv_at hl 3 rfl) ?_
          refine lv_aload_n hx hb d_M_cutCacheTo_25 rfl (lv_at hl 0 rfl) ?_
          refine va_get (D := (dC, dI)) (ci := 0) (v := .ref ca) (C := R_M) (T := F_M) (N := 4) hx hb hg in_M hown hK (hP.one f1) 0 rfl rfl 1 (by decide) (hg _ k_117) (fun _ h9 => h9) rfl d_M_cutCacheTo_26 ?_
          refine lv_iload_n hx hb d_M_cutCacheTo_29 rfl (lv_at hl 3 rfl) ?_
          refine lv_iload_n hx hb d_M_cutCacheTo_30 rfl (lv_at hl 2 rfl) ?_
          refine nu_iadd (r := i + (pl.length - n0)) hx hb d_M_cutCacheTo_31 (by omega) ?_
          obtain ⟨t9, ht9⟩ : ∃ t, pl[i + (pl.length - n0)]? = some t := ⟨_, List.getElem?_eq_getElem (by omega)⟩
          have e9 : fx (i + (pl.length - n0)) = some t9 := (hf2 _ (by omega)).trans (hpl _ _ ht9)
          refine fw_aldq (tys := tyl dA) hx hb hK hP f3 3 rfl (j := i + (pl.length - n0)) (by omega) (by decide) d_M_cutCacheTo_32 ?_
          rw [e9]
          obtain ⟨x1, x2, x3, x4, f5⟩ := hO t9 (List.mem_of_getElem? ht9)
          rw [← hfr t9 (fw_ne f5 f3w (by simp))] at f5
          refine fw_astq (tys := tyl dA) (r := (R_T, F_T, 5)) hx hb hK hP hS f3 3 rfl 3 f5 rfl (j := i) (by omega) (by decide) d_M_cutCacheTo_33 (fun w12 H locs ew13 hP hS => ?_)
          have f1 : w12 h = some (.inr (0, [.ref tr, .ref ca, .int (nI pl.length), .ref ta])) := by rw [ew13, va_up_ne _ _ (fw_ne f1 f3 (by simp))]; exact f1
          have f2 : w12 tr = some (.inl (dA 3, 24, .inr (.inr (.inr (.inr ft))))) := by rw [ew13, va_up_ne _ _ (fw_ne f2 f3 (by simp))]; exact f2
          have f4 : w12 ta = some (.inl (dA 0, 11, .inl fa)) := by rw [ew13, va_up_ne _ _ (fw_ne f4 f3 (by simp))]; exact f4
          have f5 : w12 t9 = some (.inr (3, [.int (nI (ow t9)), x1, x2, x3, x4])) := by rw [ew13, va_up_ne _ _ (fw_ne f5 f3 (by simp))]; exact f5
          have f3 : w12 ca = some (.inl (dA 3, 16, .inr (.inr (.inr (.inr (va_up fx i (some t9))))))) := by rw [ew13]; exact va_up_self _ _ _
          refine lv_iinc (v := nI (i + 1)) (lv' := [(3, .int (nI (i + 1))), (0, .ref h), (1, .int (nI n0)), (2, .int (nI (pl.length - n0)))]) hx hb d_M_cutCacheTo_34 hl (k := 3) rfl (nI_add _ 1) (by decide) rfl (fun ls hl => ?_)
          refine lv_goto (tgt := 15) hx hb d_M_cutCacheTo_37 (by decide) ?_
          exact ih (i + 1) (va_up fx i (some t9)) (by omega) (fun j hj => by by_cases h9 : j = i; rw [h9, va_up_self]; exact (hpl _ _ ht9).symm; rw [va_up_ne _ _ h9]; exact hf1 j (by omega)) (fun j hj => by rw [va_up_ne _ _ (by omega)]; exact hf2 j (by omega)) (by omega) _ _ _ f1 f2 f3 f4 (fun z z1 => by rw [ew13, va_up_ne _ _ z1]; exact hfr z z1) hP hS ls (lv_sub hl [1, 2, 3, 0] rfl)
    · exact absurd (gt_nI (by omega) (by omega)) c1
  · refine lv_aload_n hx hb d_M_cutCacheTo_0 rfl (lv_at hl 0 rfl) ?_
    refine va_get (D := (dC, dI)) (ci := 0) (v := .int (nI pl.length)) (C := R_M) (T := F_M) (N := 4) hx hb hg in_M hown hK (hP.one f1) 0 rfl rfl 2 (by decide) (hg _ k_118) (fun _ h9 => h9) rfl d_M_cutCacheTo_1 ?_
    refine lv_iload_n hx hb d_M_cutCacheTo_4 rfl (lv_at hl 1 rfl) ?_
    refine lv_isub hx hb d_M_cutCacheTo_5 ?_
    refine lv_istore_n (lv' := [(2, .int ((nI pl.length) - (nI n0))), (0, .ref h), (1, .int (nI n0))]) hx hb d_M_cutCacheTo_6 rfl hl (by decide) rfl (fun ls hl => ?_)
    refine lv_iload_n hx hb d_M_cutCacheTo_7 rfl (lv_at hl 0 rfl) ?_
    refine lv_if_gt (tgt := 13) hx hb d_M_cutCacheTo_8 (by decide) (fun c1 => ?_) (fun c1 => ?_)
    · exact absurd c1 (gt_sub (by omega) (by omega) hge)
    · refine lv_iconst (v := (nI 0)) hx hb d_M_cutCacheTo_11 (by decide) ?_
      exact W.iret (v := (nI 0)) hx hb hr (fun tS ht hW => ⟨⟨(nI 0), w, rfl, ⟨by rw [show pl.length - n0 = 0 by omega], ⟨fc, by rw [show pl.length - n0 = 0 by omega]; exact f1, f2, f3, f4, by rw [List.length_drop]; omega, by rw [show pl.length - n0 = 0 by omega]; exact hpl, by rw [show pl.length - n0 = 0 by omega]; exact hcn⟩, fun z _ _ => rfl⟩, mB_of ht hP⟩, hS.F ht⟩) hS.2.2 d_M_cutCacheTo_12
