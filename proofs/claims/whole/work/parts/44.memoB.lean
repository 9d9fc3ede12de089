set_option maxHeartbeats 4000000 in
set_option maxRecDepth 100000 in
theorem c_M_dropTracesOf {l : Launch} {s0 : State} {dC : Nat → ClassId} {dI : Nat → Nat → Nat} {dA : Nat → ClassId} (B0 : BB s0 dC dI dA) (w : fw_W) (h tr ca ta : Nat) (ft : Nat → Option Nat) (pl : List Nat) (fa : Nat → Int32) (wk : Nat) (hM : aM dA w h tr ca ta ft pl fa) (hwk : wk < 2) : Met l y_M_dropTracesOf [.code y_M_dropTracesOf b_M_dropTracesOf 4 (some .int)] ({ frames := 2, cells := 0, slots := 0, locals := 45 }) (mP s0 dC dI w [.ref h, .int (nI wk)]) (mQi s0 dC dI (fun r w' => r = nI (cntS ft wk 12) ∧ aM dA w' h tr ca ta (dropF ft wk 12) pl fa ∧ ∀ z, z ≠ tr → w' z = w z)) 0 0 (AA s0) := by
  have hM9 := hM
  obtain ⟨fc, f1, f2, f3, f4, h16, hpl, hcn⟩ := hM
  refine mt_ofW B0 (by decide) (Nat.le_of_ble_eq_true rfl) (fun p e s m args below meth c ls hargs X hin hl hP => ?_)
  have X9 := X
  obtain ⟨hx, hb, hr, hml, hown, hg, hK, hn, hE, hlocks, hA⟩ := X9
  have hS : va_S (AA s0) s.heap s.heap [] := va_S.rf
  have hl : lv_has ls 4 [(0, .ref h), (1, .int (nI wk))] := hl
  refine lv_aload_n hx hb d_M_dropTracesOf_0 rfl (lv_at hl 0 rfl) ?_
  refine lv_iload_n hx hb d_M_dropTracesOf_1 rfl (lv_at hl 1 rfl) ?_
  refine va_calli (rn_V (n := 1) (As := [.int (nI wk)]) (rest := []) (C := R_M) (T := F_M) (N := 4) (ci := 0) X hP hS (c_M_tracesOf B0 w h tr ca ta ft pl fa wk hM9 hwk) k_538 k_189 k_0 k_56 k_190 (by decide +kernel) rfl rfl ⟨Nat.le_of_ble_eq_true rfl, Nat.le_of_ble_eq_true rfl⟩ f1 rfl rfl hl.1 rfl (Nat.le_of_ble_eq_true rfl) d_M_dropTracesOf_2 ⟨Nat.le_of_ble_eq_true rfl, Nat.le_of_ble_eq_true rfl⟩) hS (fun q _ h => h) (fun q h => h) (fun r w4 tS H locs ht hvm hw hB hz1 hk1 hS => ?_)
  have hP : fw_P (dC, dI) cls_ (AA s0) w4 H := by rw [← ht]; exact hB
  obtain ⟨ew9, er9⟩ := hw
  rw [ew9] at hP
  rw [er9]
  refine lv_istore_n (lv' := [(2, .int (nI (cntS ft wk 12))), (0, .ref h), (1, .int (nI wk))]) hx hb d_M_dropTracesOf_5 rfl hl (by decide) rfl (fun ls hl => ?_)
  refine lv_iconst (v := (nI 0)) hx hb d_M_dropTracesOf_6 (by decide) ?_
  refine lv_istore_n (lv' := [(3, .int (nI 0)), (2, .int (nI (cntS ft wk 12))), (0, .ref h), (1, .int (nI wk))]) hx hb d_M_dropTracesOf_7 rfl hl (by decide) rfl (fun ls hl => ?_)
  rw [← dropF_0 ft wk] at f2
  suffices lp : ∀ (n : Nat) (i : Nat), (i ≤ 12) → (12 < i + n) → ∀ (wl : fw_W) (H : Heap) (locs : List Loc), (wl h = some (.inr (0, [.ref tr, .ref ca, .int (nI pl.length), .ref ta]))) → (wl tr = some (.inl (dA 3, 24, .inr (.inr (.inr (.inr (dropF ft wk i))))))) → (wl ca = some (.inl (dA 3, 16, .inr (.inr (.inr (.inr fc)))))) → (wl ta = some (.inl (dA 0, 11, .inl fa))) → (∀ z, z ≠ tr → wl z = w z) → fw_P (dC, dI) cls_ (AA s0) wl H → va_S (AA s0) s.heap H locs → ∀ (ls : Array Slot), lv_has ls 4 [(0, .ref h), (1, .int (nI wk)), (2, .int (nI (cntS ft wk 12))), (3, .int (nI i))] → W p l e _ s m args below meth c H locs 0 0 (MQ below _ args s 0 0 (AA s0)) (F0 m 8 ls []) from lp 13 0 (by omega) (by omega) _ _ _ f1 f2 f3 f4 (fun z _ => rfl) hP hS ls (lv_sub hl [2, 3, 1, 0] rfl)
  intro n
  induction n with
  | zero => intro i hi hbn; exact absurd hbn (by omega)
  | succ n ih =>
    intro i hi hbn wl H locs f1 f2 f3 f4 hfr hP hS ls hl
    refine lv_iload_n hx hb d_M_dropTracesOf_8 rfl (lv_at hl 3 rfl) ?_
    refine lv_bipush (v := (nI 12)) hx hb d_M_dropTracesOf_9 (by decide) ?_
    refine nu_ge (tgt := 32) hx hb (by omega) (by omega) d_M_dropTracesOf_11 (by decide) (fun c1 => ?_) (fun c1 => ?_)
    · refine lv_iload_n hx hb d_M_dropTracesOf_32 rfl (lv_at hl 2 rfl) ?_
      exact W.iret (v := (nI (cntS ft wk 12))) hx hb hr (fun tS ht hW => ⟨⟨(nI (cntS ft wk 12)), wl, rfl, ⟨rfl, ⟨fc, f1, by rw [show (12 : Nat) = i by omega]; exact f2, f3, f4, h16, hpl, hcn⟩, hfr⟩, mB_of ht hP⟩, hS.F ht⟩) hS.2.2 d_M_dropTracesOf_33
    · refine lv_aload_n hx hb d_M_dropTracesOf_14 rfl (lv_at hl 0 rfl) ?_
      refine va_get (D := (dC, dI)) (ci := 0) (v := .ref tr) (C := R_M) (T := F_M) (N := 4) hx hb hg in_M hown hK (hP.one f1) 0 rfl rfl 0 (by decide) (hg _ k_116) (fun _ h9 => h9) rfl d_M_dropTracesOf_15 ?_
      refine lv_iload_n hx hb d_M_dropTracesOf_18 rfl (lv_at hl 1 rfl) ?_
      refine lv_bipush (v := (nI 12)) hx hb d_M_dropTracesOf_19 (by decide) ?_
      refine nu_imul (r := 12 * wk) hx hb d_M_dropTracesOf_21 (by omega) ?_
      refine lv_iload_n hx hb d_M_dropTracesOf_22 rfl (lv_at hl 3 rfl) ?_
      refine nu_iadd (r := 12 * wk + i) hx hb d_M_dropTracesOf_23 (by omega) ?_
      refine lv_null hx hb d_M_dropTracesOf_24 ?_
      refine fw_astqN (tys := tyl dA) hx hb hK hP hS f2 3 rfl (j := 12 * wk + i) (by omega) (by decide) d_M_dropTracesOf_25 (fun w5 H locs ew6 hP hS => ?_)
      have f1 : w5 h = some (.inr (0, [.ref tr, .ref ca, .int (nI pl.length), .ref ta])) := by rw [ew6, va_up_ne _ _ (fw_ne f1 f2 (by simp))]; exact f1
      have f3 : w5 ca = some (.inl (dA 3, 16, .inr (.inr (.inr (.inr fc))))) := by rw [ew6, va_up_ne _ _ (fw_ne f3 f2 (by simp))]; exact f3
      have f4 : w5 ta = some (.inl (dA 0, 11, .inl fa)) := by rw [ew6, va_up_ne _ _ (fw_ne f4 f2 (by simp))]; exact f4
      have f2 : w5 tr = some (.inl (dA 3, 24, .inr (.inr (.inr (.inr (va_up (dropF ft wk i) (12 * wk + i) none)))))) := by rw [ew6]; exact va_up_self _ _ _
      refine lv_iinc (v := nI (i + 1)) (lv' := [(3, .int (nI (i + 1))), (0, .ref h), (1, .int (nI wk)), (2, .int (nI (cntS ft wk 12)))]) hx hb d_M_dropTracesOf_26 hl (k := 3) rfl (nI_add _ 1) (by decide) rfl (fun ls hl => ?_)
      refine lv_goto (tgt := 8) hx hb d_M_dropTracesOf_29 (by decide) ?_
      rw [dropF_up] at f2
      exact ih (i + 1) (by omega) (by omega) _ _ _ f1 f2 f3 f4 (fun z z1 => by rw [ew6, va_up_ne _ _ z1]; exact hfr z z1) hP hS ls (lv_sub hl [1, 2, 3, 0] rfl)
set_option maxHeartbeats 4000000 in
set_option maxRecDepth 100000 in
theorem c_M_entryAt {l : Launch} {s0 : State} {dC : Nat → ClassId} {dI : Nat → Nat → Nat} {dA : Nat → ClassId} (B0 : BB s0 dC dI dA) (w : fw_W) (h tr ca ta : Nat) (fc : Nat → Option Nat) (cs : Nat) (i : Int32) (f1 : w h = some (.inr (0, [.ref tr, .ref ca, .int (nI cs), .ref ta]))) (f3 : w ca = some (.inl (dA 3, 16, .inr (.inr (.inr (.inr fc)))))) (h16 : cs ≤ 16) : Met l y_M_entryAt [.code y_M_entryAt b_M_entryAt 2 (some (.object "TraceBuilder$Trace"))] ({ frames := 0, cells := 0, slots := 0, locals := 0 }) (mP s0 dC dI w [.ref h, .int i]) (mQq s0 dC dI (fun r w' => w' = w ∧ ((∃ j, j < cs ∧ i = nI j ∧ r = fc j) ∨ ((i < 0 ∨ nI cs ≤ i) ∧ r = none)))) 0 0 (AA s0) := by
  refine mt_ofW B0 (by decide) (Nat.le_of_ble_eq_true rfl) (fun p e s m args below meth c ls hargs X hin hl hP => ?_)
  have X9 := X
  obtain ⟨hx, hb, hr, hml, hown, hg, hK, hn, hE, hlocks, hA⟩ := X9
  have hS : va_S (AA s0) s.heap s.heap [] := va_S.rf
  have hl : lv_has ls 2 [(0, .ref h), (1, .int i)] := hl
  refine lv_iload_n hx hb d_M_entryAt_0 rfl (lv_at hl 1 rfl) ?_
  refine lv_if_lt (tgt := 12) hx hb d_M_entryAt_1 (by decide) (fun c1 => ?_) (fun c1 => ?_)
  · refine lv_null hx hb d_M_entryAt_12 ?_
    refine lv_goto (tgt := 22) hx hb d_M_entryAt_13 (by decide) ?_
    exact W.aret (v := .null) hx hb hr (Or.inl ⟨_, rfl⟩) (Or.inl rfl) (fun tS ht hW => ⟨⟨none, w, rfl, ⟨rfl, Or.inr ⟨Or.inl c1, rfl⟩⟩, mB_of ht hP⟩, hS.F ht⟩) hS.2.2 d_M_entryAt_22
  · refine lv_iload_n hx hb d_M_entryAt_4 rfl (lv_at hl 1 rfl) ?_
    refine lv_aload_n hx hb d_M_entryAt_5 rfl (lv_at hl 0 rfl) ?_
    refine va_get (D := (dC, dI)) (ci := 0) (v := .int (nI cs)) (C := R_M) (T := F_M) (N := 4) hx hb hg in_M hown hK (hP.one f1) 0 rfl rfl 2 (by decide) (hg _ k_118) (fun _ h9 => h9) rfl d_M_entryAt_6 ?_
    refine lv_icmp_lt (tgt := 16) hx hb d_M_entryAt_9 (by decide) (fun c2 => ?_) (fun c2 => ?_)
    · obtain ⟨j, hj, rfl⟩ := pI_neg (by omega) c1 c2
      refine lv_aload_n hx hb d_M_entryAt_16 rfl (lv_at hl 0 rfl) ?_
      refine va_get (D := (dC, dI)) (ci := 0) (v := .ref ca) (C := R_M) (T := F_M) (N := 4) hx hb hg in_M hown hK (hP.one f1) 0 rfl rfl 1 (by decide) (hg _ k_117) (fun _ h9 => h9) rfl d_M_entryAt_17 ?_
      refine lv_iload_n hx hb d_M_entryAt_20 rfl (lv_at hl 1 rfl) ?_
      refine fw_aldq (tys := tyl dA) hx hb hK hP f3 3 rfl (j := j) (by omega) (by decide) d_M_entryAt_21 ?_
      exact W.aret (v := va_rf (fc j)) hx hb hr (Or.inl ⟨_, rfl⟩) (rf_or _) (fun tS ht hW => ⟨⟨(fc j), w, rfl, ⟨rfl, Or.inl ⟨j, hj, rfl, rfl⟩⟩, mB_of ht hP⟩, hS.F ht⟩) hS.2.2 d_M_entryAt_22
    · refine lv_null hx hb d_M_entryAt_12 ?_
      refine lv_goto (tgt := 22) hx hb d_M_entryAt_13 (by decide) ?_
      exact W.aret (v := .null) hx hb hr (Or.inl ⟨_, rfl⟩) (Or.inl rfl) (fun tS ht hW => ⟨⟨none, w, rfl, ⟨rfl, Or.inr ⟨Or.inr (Int32.not_lt.mp c2), rfl⟩⟩, mB_of ht hP⟩, hS.F ht⟩) hS.2.2 d_M_entryAt_22
set_option maxHeartbeats 4000000 in
set_option maxRecDepth 100000 in
theorem c_M_entryIn {l : Launch} {s0 : State} {dC : Nat → ClassId} {dI : Nat → Nat → Nat} {dA : Nat → ClassId} (B0 : BB s0 dC dI dA) (w : fw_W) (h tr ca ta : Nat) (fc : Nat → Option Nat) (cs j : Nat) (f1 : w h = some (.inr (0, [.ref tr, .ref ca, .int (nI cs), .ref ta]))) (f3 : w ca = some (.inl (dA 3, 16, .inr (.inr (.inr (.inr fc)))))) (h16 : cs ≤ 16) (hj : j < cs) : Met l y_M_entryAt [.code y_M_entryAt b_M_entryAt 2 (some (.object "TraceBuilder$Trace"))] ({ frames := 0, cells := 0, slots := 0, locals := 0 }) (mP s0 dC dI w [.ref h, .int (nI j)]) (mQq s0 dC dI (fun r w' => w' = w ∧ r = fc j)) 0 0 (AA s0) := by
  refine mt_ofW B0 (by decide) (Nat.le_of_ble_eq_true rfl) (fun p e s m args below meth c ls hargs X hin hl hP => ?_)
  have X9 := X
  obtain ⟨hx, hb, hr, hml, hown, hg, hK, hn, hE, hlocks, hA⟩ := X9
  have hS : va_S (AA s0) s.heap s.heap [] := va_S.rf
  have hl : lv_has ls 2 [(0, .ref h), (1, .int (nI j))] := hl
  refine lv_iload_n hx hb d_M_entryAt_0 rfl (lv_at hl 1 rfl) ?_
  refine lv_if_lt (tgt := 12) hx hb d_M_entryAt_1 (by decide) (fun c1 => ?_) (fun c1 => ?_)
  · exact absurd c1 (nI_pos (by omega))
  · refine lv_iload_n hx hb d_M_entryAt_4 rfl (lv_at hl 1 rfl) ?_
    refine lv_aload_n hx hb d_M_entryAt_5 rfl (lv_at hl 0 rfl) ?_
    refine va_get (D := (dC, dI)) (ci := 0) (v := .int (nI cs)) (C := R_M) (T := F_M) (N := 4) hx hb hg in_M hown hK (hP.one f1) 0 rfl rfl 2 (by decide) (hg _ k_118) (fun _ h9 => h9) rfl d_M_entryAt_6 ?_
    refine nu_lt (tgt := 16) hx hb (by omega) (by omega) d_M_entryAt_9 (by decide) (fun c2 => ?_) (fun c2 => ?_)
    · refine lv_aload_n hx hb d_M_entryAt_16 rfl (lv_at hl 0 rfl) ?_
      refine va_get (D := (dC, dI)) (ci := 0) (v := .ref ca) (C := R_M) (T := F_M) (N := 4) hx hb hg in_M hown hK (hP.one f1) 0 rfl rfl 1 (by decide) (hg _ k_117) (fun _ h9 => h9) rfl d_M_entryAt_17 ?_
      refine lv_iload_n hx hb d_M_entryAt_20 rfl (lv_at hl 1 rfl) ?_
      refine fw_aldq (tys := tyl dA) hx hb hK hP f3 3 rfl (j := j) (by omega) (by decide) d_M_entryAt_21 ?_
      exact W.aret (v := va_rf (fc j)) hx hb hr (Or.inl ⟨_, rfl⟩) (rf_or _) (fun tS ht hW => ⟨⟨(fc j), w, rfl, ⟨rfl, rfl⟩, mB_of ht hP⟩, hS.F ht⟩) hS.2.2 d_M_entryAt_22
    · exact absurd hj (by omega)
set_option maxHeartbeats 4000000 in
set_option maxRecDepth 100000 in
theorem c_M_clear {l : Launch} {s0 : State} {dC : Nat → ClassId} {dI : Nat → Nat → Nat} {dA : Nat → ClassId} (B0 : BB s0 dC dI dA) (w : fw_W) (h tr ca ta : Nat) (fc : Nat → Option Nat) (cs n0 : Nat) (f1 : w h = some (.inr (0, [.ref tr, .ref ca, .int (nI cs), .ref ta]))) (f3 : w ca = some (.inl (dA 3, 16, .inr (.inr (.inr (.inr fc)))))) (h16 : cs ≤ 16) (hcn : cN fc cs) (hn0 : n0 ≤ cs) : Met l y_M_clearCacheFrom [.code y_M_clearCacheFrom b_M_clearCacheFrom 3 none] ({ frames := 0, cells := 0, slots := 0, locals := 0 }) (mP s0 dC dI w [.ref h, .int (nI n0)]) (mQv s0 dC dI (fun w' => w' h = some (.inr (0, [.ref tr, .ref ca, .int (nI n0), .ref ta])) ∧ (∃ fc' : Nat → Option Nat, w' ca = some (.inl (dA 3, 16, .inr (.inr (.inr (.inr fc'))))) ∧ (∀ i, i < n0 → fc' i = fc i) ∧ cN fc' n0) ∧ ∀ z, z ≠ h → z ≠ ca → w' z = w z)) 0 0 (AA s0) := by
  refine mt_ofW B0 (by decide) (Nat.le_of_ble_eq_true rfl) (fun p e s m args below meth c ls hargs X hin hl hP => ?_)
  have X9 := X
  obtain ⟨hx, hb, hr, hml, hown, hg, hK, hn, hE, hlocks, hA⟩ := X9
  have hS : va_S (AA s0) s.heap s.heap [] := va_S.rf
  have hl : lv_has ls 3 [(0, .ref h), (1, .int (nI n0))] := hl
  refine lv_iload_n hx hb d_M_clearCacheFrom_0 rfl (lv_at hl 1 rfl) ?_
  refine lv_istore_n (lv' := [(2, .int (nI n0)), (0, .ref h), (1, .int (nI n0))]) hx hb d_M_clearCacheFrom_1 rfl hl (by decide) rfl (fun ls hl => ?_)
  suffices lp : ∀ (n : Nat) (i : Nat) (fx : Nat → Option Nat), (i ≤ cs) → (n0 ≤ i) → (∀ j, j < n0 → fx j = fc j) → (∀ j, (n0 ≤ j ∧ j < i) ∨ (cs ≤ j ∧ j < 16) → fx j = none) → (cs < i + n) → ∀ (wl : fw_W) (H : Heap) (locs : List Loc), (wl h = some (.inr (0, [.ref tr, .ref ca, .int (nI cs), .ref ta]))) → (wl ca = some (.inl (dA 3, 16, .inr (.inr (.inr (.inr fx)))))) → (∀ z, z ≠ h → z ≠ ca → wl z = w z) → fw_P (dC, dI) cls_ (AA s0) wl H → va_S (AA s0) s.heap H locs → ∀ (ls : Array Slot), lv_has ls 3 [(0, .ref h), (1, .int (nI n0)), (2, .int (nI i))] → W p l e _ s m args below meth c H locs 0 0 (MQ below _ args s 0 0 (AA s0)) (F0 m 2 ls []) from lp (cs + 1) n0 fc (by omega) (by omega) (fun j _ => rfl) (fun j hj => hcn j (by omega) (by omega)) (by omega) _ _ _ f1 f3 (fun z _ _ => rfl) hP hS ls (lv_sub hl [1, 2, 0] rfl)
  intro n
  induction n with
  | zero => intro i fx hi hi0 hfx hfn hbn; exact absurd hbn (by omega)
  | succ n ih =>
    intro i fx hi hi0 hfx hfn hbn wl H locs f1 f3 hfr hP hS ls hl
    refine lv_iload_n hx hb d_M_clearCacheFrom_2 rfl (lv_at hl 2 rfl) ?_
    refine lv_aload_n hx hb d_M_clearCacheFrom_3 rfl (lv_at hl 0 rfl) ?_
    refine va_get (D := (dC, dI)) (ci := 0) (v := .int (nI cs)) (C := R_M) (T := F_M) (N := 4) hx hb hg in_M hown hK (hP.one f1) 0 rfl rfl 2 (by decide) (hg _ k_118) (fun _ h9 => h9) rfl d_M_clearCacheFrom_4 ?_
    refine nu_ge (tgt := 23) hx hb (by omega) (by omega) d_M_clearCacheFrom_7 (by decide) (fun c1 => ?_) (fun c1 => ?_)
    · refine lv_aload_n hx hb d_M_clearCacheFrom_23 rfl (lv_at hl 0 rfl) ?_
      refine lv_iload_n hx hb d_M_clearCacheFrom_24 rfl (lv_at hl 1 rfl) ?_
      refine fw_put (D := (dC, dI)) (ci := 0) (v := .int (nI n0)) (ty := .int) (C := R_M) (T := F_M) (N := 4) hx hb hg in_M ft_M ft_M_ok n_M hown hK hP hS f1 rfl 2 (by decide) (hg _ k_118) (fun _ h9 => h9) rfl (by decide +kernel) rfl rfl (Nat.le_of_ble_eq_true rfl) d_M_clearCacheFrom_25 (fun w7 H locs ew8 hP hS => ?_)
      have f3 : w7 ca = some (.inl (dA 3, 16, .inr (.inr (.inr (.inr fx))))) := by rw [ew8, va_up_ne _ _ (fw_ne f3 f1 (by simp))]; exact f3
      have f1 : w7 h = some (.inr (0, [.ref tr, .ref ca, .int (nI n0), .ref ta])) := by rw [ew8]; exact va_up_self _ _ _
      exact W.vret hx hb hr (fun tS ht hW => ⟨⟨w7, rfl, ⟨f1, ⟨fx, f3, hfx, fun j h1 h2 => hfn j (by omega)⟩, fun z z1 z2 => by rw [ew8, va_up_ne _ _ z1]; exact hfr z z1 z2⟩, mB_of ht hP⟩, hS.F ht⟩) hS.2.2 d_M_clearCacheFrom_28
    · refine lv_aload_n hx hb d_M_clearCacheFrom_10 rfl (lv_at hl 0 rfl) ?_
      refine va_get (D := (dC, dI)) (ci := 0) (v := .ref ca) (C := R_M) (T := F_M) (N := 4) hx hb hg in_M hown hK (hP.one f1) 0 rfl rfl 1 (by decide) (hg _ k_117) (fun _ h9 => h9) rfl d_M_clearCacheFrom_11 ?_
      refine lv_iload_n hx hb d_M_clearCacheFrom_14 rfl (lv_at hl 2 rfl) ?_
      refine lv_null hx hb d_M_clearCacheFrom_15 ?_
      refine fw_astqN (tys := tyl dA) hx hb hK hP hS f3 3 rfl (j := i) (by omega) (by decide) d_M_clearCacheFrom_16 (fun w9 H locs ew10 hP hS => ?_)
      have f1 : w9 h = some (.inr (0, [.ref tr, .ref ca, .int (nI cs), .ref ta])) := by rw [ew10, va_up_ne _ _ (fw_ne f1 f3 (by simp))]; exact f1
      have f3 : w9 ca = some (.inl (dA 3, 16, .inr (.inr (.inr (.inr (va_up fx i none)))))) := by rw [ew10]; exact va_up_self _ _ _
      refine lv_iinc (v := nI (i + 1)) (lv' := [(2, .int (nI (i + 1))), (0, .ref h), (1, .int (nI n0))]) hx hb d_M_clearCacheFrom_17 hl (k := 2) rfl (nI_add _ 1) (by decide) rfl (fun ls hl => ?_)
      refine lv_goto (tgt := 2) hx hb d_M_clearCacheFrom_20 (by decide) ?_
      exact ih (i + 1) (va_up fx i none) (by omega) (by omega) (fun j hj => by rw [va_up_ne _ _ (by omega)]; exact hfx j hj) (fun j hj => by by_cases h9 : j = i; rw [h9, va_up_self]; rw [va_up_ne _ _ h9]; exact hfn j (by omega)) (by omega) _ _ _ f1 f3 (fun z z1 z2 => by rw [ew10, va_up_ne _ _ z2]; exact hfr z z1 z2) hP hS ls (lv_sub hl [1, 2, 0] rfl)
