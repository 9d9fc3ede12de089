set_option maxHeartbeats 4000000 in
set_option maxRecDepth 100000 in
theorem c_B_partsAmong {l : Launch} {s0 : State} {dC : Nat → ClassId} {dI : Nat → Nat → Nat} {dA : Nat → ClassId} (B0 : BB s0 dC dI dA) (w : fw_W) (a b c9 : Int32)  : Met l y_B_partsAmong [.code y_B_partsAmong b_B_partsAmong 3 (some .int)] ({ frames := 0, cells := 0, slots := 0, locals := 0 }) (mP s0 dC dI w [.int a, .int b, .int c9]) (mQi s0 dC dI (fun r w' => w' = w ∧ r = nI (pCount a b c9))) 0 0 (AA s0) := by
  refine mt_ofW B0 (by decide) (Nat.le_of_ble_eq_true rfl) (fun p e s m args below meth c ls hargs X hin hl hP => ?_)
  have X9 := X
  obtain ⟨hx, hb, hr, hml, hown, hg, hK, hn, hE, hlocks, hA⟩ := X9
  have hS : va_S (AA s0) s.heap s.heap [] := va_S.rf
  have hl : lv_has ls 3 [(0, .int a), (1, .int b), (2, .int c9)] := hl
  refine lv_iload_n hx hb d_B_partsAmong_0 rfl (lv_at hl 0 rfl) ?_
  refine lv_iconst (v := (-1)) hx hb d_B_partsAmong_1 (by decide) ?_
  refine lv_icmp_ne (tgt := 9) hx hb d_B_partsAmong_2 (by decide) (fun e1 => ?_) (fun e1 => ?_)
  · refine lv_iconst (v := (nI 1)) hx hb d_B_partsAmong_9 (by decide) ?_
    refine lv_iload_n hx hb d_B_partsAmong_10 rfl (lv_at hl 1 rfl) ?_
    refine lv_iconst (v := (-1)) hx hb d_B_partsAmong_11 (by decide) ?_
    refine lv_icmp_ne (tgt := 19) hx hb d_B_partsAmong_12 (by decide) (fun e2 => ?_) (fun e2 => ?_)
    · refine lv_iconst (v := (nI 1)) hx hb d_B_partsAmong_19 (by decide) ?_
      refine nu_iadd (r := 2) hx hb d_B_partsAmong_20 (by omega) ?_
      refine lv_iload_n hx hb d_B_partsAmong_21 rfl (lv_at hl 2 rfl) ?_
      refine lv_iconst (v := (-1)) hx hb d_B_partsAmong_22 (by decide) ?_
      refine lv_icmp_ne (tgt := 30) hx hb d_B_partsAmong_23 (by decide) (fun e3 => ?_) (fun e3 => ?_)
      · refine lv_iconst (v := (nI 1)) hx hb d_B_partsAmong_30 (by decide) ?_
        refine nu_iadd (r := 3) hx hb d_B_partsAmong_31 (by omega) ?_
        exact W.iret (v := (nI 3)) hx hb hr (fun tS ht hW => ⟨⟨(nI 3), w, rfl, ⟨rfl, by unfold pCount; simp [*]⟩, mB_of ht hP⟩, hS.F ht⟩) hS.2.2 d_B_partsAmong_32
      · refine lv_iconst (v := (nI 0)) hx hb d_B_partsAmong_26 (by decide) ?_
        refine lv_goto (tgt := 31) hx hb d_B_partsAmong_27 (by decide) ?_
        refine nu_iadd (r := 2) hx hb d_B_partsAmong_31 (by omega) ?_
        exact W.iret (v := (nI 2)) hx hb hr (fun tS ht hW => ⟨⟨(nI 2), w, rfl, ⟨rfl, by unfold pCount; simp [*]⟩, mB_of ht hP⟩, hS.F ht⟩) hS.2.2 d_B_partsAmong_32
    · refine lv_iconst (v := (nI 0)) hx hb d_B_partsAmong_15 (by decide) ?_
      refine lv_goto (tgt := 20) hx hb d_B_partsAmong_16 (by decide) ?_
      refine nu_iadd (r := 1) hx hb d_B_partsAmong_20 (by omega) ?_
      refine lv_iload_n hx hb d_B_partsAmong_21 rfl (lv_at hl 2 rfl) ?_
      refine lv_iconst (v := (-1)) hx hb d_B_partsAmong_22 (by decide) ?_
      refine lv_icmp_ne (tgt := 30) hx hb d_B_partsAmong_23 (by decide) (fun e3 => ?_) (fun e3 => ?_)
      · refine lv_iconst (v := (nI 1)) hx hb d_B_partsAmong_30 (by decide) ?_
        refine nu_iadd (r := 2) hx hb d_B_partsAmong_31 (by omega) ?_
        exact W.iret (v := (nI 2)) hx hb hr (fun tS ht hW => ⟨⟨(nI 2), w, rfl, ⟨rfl, by unfold pCount; simp [*]⟩, mB_of ht hP⟩, hS.F ht⟩) hS.2.2 d_B_partsAmong_32
      · refine lv_iconst (v := (nI 0)) hx hb d_B_partsAmong_26 (by decide) ?_
        refine lv_goto (tgt := 31) hx hb d_B_partsAmong_27 (by decide) ?_
        refine nu_iadd (r := 1) hx hb d_B_partsAmong_31 (by omega) ?_
        exact W.iret (v := (nI 1)) hx hb hr (fun tS ht hW => ⟨⟨(nI 1), w, rfl, ⟨rfl, by unfold pCount; simp [*]⟩, mB_of ht hP⟩, hS.F ht⟩) hS.2.2 d_B_partsAmong_32
  · refine lv_iconst (v := (nI 0)) hx hb d_B_partsAmong_5 (by decide) ?_
    refine lv_goto (tgt := 10) hx hb d_B_partsAmong_6 (by decide) ?_
    refine lv_iload_n hx hb d_B_partsAmong_10 rfl (lv_at hl 1 rfl) ?_
    refine lv_iconst (v := (-1)) hx hb d_B_partsAmong_11 (by decide) ?_
    refine lv_icmp_ne (tgt := 19) hx hb d_B_partsAmong_12 (by decide) (fun e2 => ?_) (fun e2 => ?_)
    · refine lv_iconst (v := (nI 1)) hx hb d_B_partsAmong_19 (by decide) ?_
      refine nu_iadd (r := 1) hx hb d_B_partsAmong_20 (by omega) ?_
      refine lv_iload_n hx hb d_B_partsAmong_21 rfl (lv_at hl 2 rfl) ?_
      refine lv_iconst (v := (-1)) hx hb d_B_partsAmong_22 (by decide) ?_
      refine lv_icmp_ne (tgt := 30) hx hb d_B_partsAmong_23 (by decide) (fun e3 => ?_) (fun e3 => ?_)
      · refine lv_iconst (v := (nI 1)) hx hb d_B_partsAmong_30 (by decide) ?_
        refine nu_iadd (r := 2) hx hb d_B_partsAmong_31 (by omega) ?_
        exact W.iret (v := (nI 2)) hx hb hr (fun tS ht hW => ⟨⟨(nI 2), w, rfl, ⟨rfl, by unfold pCount; simp [*]⟩, mB_of ht hP⟩, hS.F ht⟩) hS.2.2 d_B_partsAmong_32
      · refine lv_iconst (v := (nI 0)) hx hb d_B_partsAmong_26 (by decide) ?_
        refine lv_goto (tgt := 31) hx hb d_B_partsAmong_27 (by decide) ?_
        refine nu_iadd (r := 1) hx hb d_B_partsAmong_31 (by omega) ?_
        exact W.iret (v := (nI 1)) hx hb hr (fun tS ht hW => ⟨⟨(nI 1), w, rfl, ⟨rfl, by unfold pCount; simp [*]⟩, mB_of ht hP⟩, hS.F ht⟩) hS.2.2 d_B_partsAmong_32
    · refine lv_iconst (v := (nI 0)) hx hb d_B_partsAmong_15 (by decide) ?_
      refine lv_goto (tgt := 20) hx hb d_B_partsAmong_16 (by decide) ?_
      refine nu_iadd (r := 0) hx hb d_B_partsAmong_20 (by omega) ?_
      refine lv_iload_n hx hb d_B_partsAmong_21 rfl (lv_at hl 2 rfl) ?_
      refine lv_iconst (v := (-1)) hx hb d_B_partsAmong_22 (by decide) ?_
      refine lv_icmp_ne (tgt := 30) hx hb d_B_partsAmong_23 (by decide) (fun e3 => ?_) (fun e3 => ?_)
      · refine lv_iconst (v := (nI 1)) hx hb d_B_partsAmong_30 (by decide) ?_
        refine nu_iadd (r := 1) hx hb d_B_partsAmong_31 (by omega) ?_
        exact W.iret (v := (nI 1)) hx hb hr (fun tS ht hW => ⟨⟨(nI 1), w, rfl, ⟨rfl, by unfold pCount; simp [*]⟩, mB_of ht hP⟩, hS.F ht⟩) hS.2.2 d_B_partsAmong_32
      · refine lv_iconst (v := (nI 0)) hx hb d_B_partsAmong_26 (by decide) ?_
        refine lv_goto (tgt := 31) hx hb d_B_partsAmong_27 (by decide) ?_
        refine nu_iadd (r := 0) hx hb d_B_partsAmong_31 (by omega) ?_
        exact W.iret (v := (nI 0)) hx hb hr (fun tS ht hW => ⟨⟨(nI 0), w, rfl, ⟨rfl, by unfold pCount; simp [*]⟩, mB_of ht hP⟩, hS.F ht⟩) hS.2.2 d_B_partsAmong_32
set_option maxHeartbeats 4000000 in
set_option maxRecDepth 100000 in
theorem c_P_isInput {l : Launch} {s0 : State} {dC : Nat → ClassId} {dI : Nat → Nat → Nat} {dA : Nat → ClassId} (B0 : BB s0 dC dI dA) (w : fw_W) (h ki va ru pa pc : Nat) (ra : Nat → Nat) (kd : Nat → Nat) (vl : Nat → Int64) (rl : Nat → Nat) (pf : Nat → Nat → Int32) (cn : Nat → Nat) (k : Nat) (v : Int64) (hQ : aP dA w h ki va ru pa pc ra kd vl rl pf cn) (hk : k < 12) (hkd : kd k < 3) : Met l y_P_isInput [.code y_P_isInput b_P_isInput 4 (some .boolean)] ({ frames := 0, cells := 0, slots := 0, locals := 0 }) (mP s0 dC dI w [.ref h, .int (nI k), .long v]) (mQi s0 dC dI (fun r w' => w' = w ∧ ∃ b : Bool, r = nI b.toNat ∧ (b = true ↔ kd k = 1 ∧ vl k = v))) 0 0 (AA s0) := by
  obtain ⟨f1, f2, f3, f4, ⟨rows, f5, hrows⟩, hra, f6, d1, d2, d3, dinj⟩ := hQ
  refine mt_ofW B0 (by decide) (Nat.le_of_ble_eq_true rfl) (fun p e s m args below meth c ls hargs X hin hl hP => ?_)
  have X9 := X
  obtain ⟨hx, hb, hr, hml, hown, hg, hK, hn, hE, hlocks, hA⟩ := X9
  have hS : va_S (AA s0) s.heap s.heap [] := va_S.rf
  have hl : lv_has ls 4 [(0, .ref h), (1, .int (nI k)), (2, .long v)] := hl
  refine lv_aload_n hx hb d_P_isInput_0 rfl (lv_at hl 0 rfl) ?_
  refine va_get (D := (dC, dI)) (ci := 1) (v := .ref ki) (C := R_P) (T := F_P) (N := 5) hx hb hg in_P hown hK (hP.one f1) 0 rfl rfl 0 (by decide) (hg _ k_84) (fun _ h9 => h9) rfl d_P_isInput_1 ?_
  refine lv_iload_n hx hb d_P_isInput_4 rfl (lv_at hl 1 rfl) ?_
  refine fw_iald (tys := tyl dA) hx hb hK hP f2 0 rfl (j := k) (by omega) (by decide) d_P_isInput_5 ?_
  refine lv_iconst (v := (nI 1)) hx hb d_P_isInput_6 (by decide) ?_
  refine nu_ne (tgt := 25) hx hb (by omega) (by omega) d_P_isInput_7 (by decide) (fun c1 => ?_) (fun c1 => ?_)
  · refine lv_iconst (v := (nI 0)) hx hb d_P_isInput_25 (by decide) ?_
    exact W.zret (v := (nI 0)) hx hb hr (by decide) (fun tS ht hW => ⟨⟨(nI 0), w, rfl, ⟨rfl, false, rfl, ⟨fun h9 => (by cases h9), fun h9 => absurd h9.1 c1⟩⟩, mB_of ht hP⟩, hS.F ht⟩) hS.2.2 d_P_isInput_26
  · refine lv_aload_n hx hb d_P_isInput_10 rfl (lv_at hl 0 rfl) ?_
    refine va_get (D := (dC, dI)) (ci := 1) (v := .ref va) (C := R_P) (T := F_P) (N := 5) hx hb hg in_P hown hK (hP.one f1) 0 rfl rfl 1 (by decide) (hg _ k_87) (fun _ h9 => h9) rfl d_P_isInput_11 ?_
    refine lv_iload_n hx hb d_P_isInput_14 rfl (lv_at hl 1 rfl) ?_
    refine fw_lald (tys := tyl dA) hx hb hK hP f3 1 rfl (j := k) (by omega) (by decide) d_P_isInput_15 ?_
    refine lv_lload_n hx hb d_P_isInput_16 rfl (lv_at hl 2 rfl) ?_
    refine W.lcmp hx hb d_P_isInput_17 ?_
    refine lv_if_ne (tgt := 25) hx hb d_P_isInput_18 (by decide) (fun c2 => ?_) (fun c2 => ?_)
    · refine lv_iconst (v := (nI 0)) hx hb d_P_isInput_25 (by decide) ?_
      exact W.zret (v := (nI 0)) hx hb hr (by decide) (fun tS ht hW => ⟨⟨(nI 0), w, rfl, ⟨rfl, false, rfl, ⟨fun h9 => (by cases h9), fun h9 => absurd ((lg_cmp_eq _ _).mpr h9.2) c2⟩⟩, mB_of ht hP⟩, hS.F ht⟩) hS.2.2 d_P_isInput_26
    · refine lv_iconst (v := (nI 1)) hx hb d_P_isInput_21 (by decide) ?_
      refine lv_goto (tgt := 26) hx hb d_P_isInput_22 (by decide) ?_
      exact W.zret (v := (nI 1)) hx hb hr (by decide) (fun tS ht hW => ⟨⟨(nI 1), w, rfl, ⟨rfl, true, rfl, ⟨fun _ => ⟨c1, (lg_cmp_eq _ _).mp c2⟩, fun _ => rfl⟩⟩, mB_of ht hP⟩, hS.F ht⟩) hS.2.2 d_P_isInput_26
set_option maxHeartbeats 4000000 in
set_option maxRecDepth 100000 in
theorem c_P_setInput {l : Launch} {s0 : State} {dC : Nat → ClassId} {dI : Nat → Nat → Nat} {dA : Nat → ClassId} (B0 : BB s0 dC dI dA) (w : fw_W) (h ki va ru pa pc : Nat) (ra : Nat → Nat) (kd : Nat → Nat) (vl : Nat → Int64) (rl : Nat → Nat) (pf : Nat → Nat → Int32) (cn : Nat → Nat) (k : Nat) (v : Int64) (hQ : aP dA w h ki va ru pa pc ra kd vl rl pf cn) (hk : k < 12) : Met l y_P_setInput [.code y_P_setInput b_P_setInput 4 none] ({ frames := 0, cells := 0, slots := 0, locals := 0 }) (mP s0 dC dI w [.ref h, .int (nI k), .long v]) (mQv s0 dC dI (fun w' => aP dA w' h ki va ru pa pc ra (va_up kd k 1) (vp_updL vl k v) rl pf cn ∧ ∀ z, z ≠ ki → z ≠ va → w' z = w z)) 0 0 (AA s0) := by
  obtain ⟨f1, f2, f3, f4, ⟨rows, f5, hrows⟩, hra, f6, d1, d2, d3, dinj⟩ := hQ
  refine mt_ofW B0 (by decide) (Nat.le_of_ble_eq_true rfl) (fun p e s m args below meth c ls hargs X hin hl hP => ?_)
  have X9 := X
  obtain ⟨hx, hb, hr, hml, hown, hg, hK, hn, hE, hlocks, hA⟩ := X9
  have hS : va_S (AA s0) s.heap s.heap [] := va_S.rf
  have hl : lv_has ls 4 [(0, .ref h), (1, .int (nI k)), (2, .long v)] := hl
  have f2w := f2
  have f3w := f3
  refine lv_aload_n hx hb d_P_setInput_0 rfl (lv_at hl 0 rfl) ?_
  refine va_get (D := (dC, dI)) (ci := 1) (v := .ref ki) (C := R_P) (T := F_P) (N := 5) hx hb hg in_P hown hK (hP.one f1) 0 rfl rfl 0 (by decide) (hg _ k_84) (fun _ h9 => h9) rfl d_P_setInput_1 ?_
  refine lv_iload_n hx hb d_P_setInput_4 rfl (lv_at hl 1 rfl) ?_
  refine lv_iconst (v := (nI 1)) hx hb d_P_setInput_5 (by decide) ?_
  refine fw_iast (tys := tyl dA) hx hb hK hP hS f2 0 rfl (j := k) (x := (nI 1)) (by omega) (by decide) d_P_setInput_6 (fun w1 H locs ew2 hP hS => ?_)
  rw [nf_up] at ew2
  have f1 : w1 h = some (.inr (1, [.ref ki, .ref va, .ref ru, .ref pa, .ref pc])) := by rw [ew2, va_up_ne _ _ (fw_ne f1 f2 (by simp))]; exact f1
  have f3 : w1 va = some (.inl (dA 1, 12, .inr (.inl vl))) := by rw [ew2, va_up_ne _ _ (fw_ne f3 f2 (by simp))]; exact f3
  have f4 : w1 ru = some (.inl (dA 0, 12, .inl (nf rl))) := by rw [ew2, va_up_ne _ _ (Ne.symm d1)]; exact f4
  have f5 : w1 pa = some (.inl (dA 4, 12, .inr (.inr (.inr (.inr rows))))) := by rw [ew2, va_up_ne _ _ (fw_ne f5 f2 (by simp))]; exact f5
  have f6 : w1 pc = some (.inl (dA 0, 12, .inl (nf cn))) := by rw [ew2, va_up_ne _ _ (Ne.symm d2)]; exact f6
  have f2 : w1 ki = some (.inl (dA 0, 12, .inl (nf (va_up kd k 1)))) := by rw [ew2]; exact va_up_self _ _ _
  refine lv_aload_n hx hb d_P_setInput_7 rfl (lv_at hl 0 rfl) ?_
  refine va_get (D := (dC, dI)) (ci := 1) (v := .ref va) (C := R_P) (T := F_P) (N := 5) hx hb hg in_P hown hK (hP.one f1) 0 rfl rfl 1 (by decide) (hg _ k_87) (fun _ h9 => h9) rfl d_P_setInput_8 ?_
  refine lv_iload_n hx hb d_P_setInput_11 rfl (lv_at hl 1 rfl) ?_
  refine lv_lload_n hx hb d_P_setInput_12 rfl (lv_at hl 2 rfl) ?_
  refine fw_last (tys := tyl dA) hx hb hK hP hS f3 1 rfl (j := k) (by omega) (by decide) d_P_setInput_13 (fun w3 H locs ew4 hP hS => ?_)
  have f1 : w3 h = some (.inr (1, [.ref ki, .ref va, .ref ru, .ref pa, .ref pc])) := by rw [ew4, va_up_ne _ _ (fw_ne f1 f3 (by simp))]; exact f1
  have f2 : w3 ki = some (.inl (dA 0, 12, .inl (nf (va_up kd k 1)))) := by rw [ew4, va_up_ne _ _ (fw_ne f2 f3 (by simp))]; exact f2
  have f4 : w3 ru = some (.inl (dA 0, 12, .inl (nf rl))) := by rw [ew4, va_up_ne _ _ (fw_ne f4 f3 (by simp))]; exact f4
  have f5 : w3 pa = some (.inl (dA 4, 12, .inr (.inr (.inr (.inr rows))))) := by rw [ew4, va_up_ne _ _ (fw_ne f5 f3 (by simp))]; exact f5
  have f6 : w3 pc = some (.inl (dA 0, 12, .inl (nf cn))) := by rw [ew4, va_up_ne _ _ (fw_ne f6 f3 (by simp))]; exact f6
  have f3 : w3 va = some (.inl (dA 1, 12, .inr (.inl (vp_updL vl k v)))) := by rw [ew4]; exact va_up_self _ _ _
  have hfr : ∀ z, z ≠ ki → z ≠ va → w3 z = w z := (fun z z1 z2 => by rw [ew4, va_up_ne _ _ z2, ew2, va_up_ne _ _ z1])
  exact W.vret hx hb hr (fun tS ht hW => ⟨⟨w3, rfl, ⟨⟨f1, f2, f3, f4, ⟨rows, f5, hrows⟩, fun j hj => (hfr _ (fw_ne (hra j hj) f2w (by simp)) (fw_ne (hra j hj) f3w (by simp))).trans (hra j hj), f6, d1, d2, d3, dinj⟩, hfr⟩, mB_of ht hP⟩, hS.F ht⟩) hS.2.2 d_P_setInput_14
set_option maxHeartbeats 4000000 in
set_option maxRecDepth 100000 in
theorem c_P_isTask {l : Launch} {s0 : State} {dC : Nat → ClassId} {dI : Nat → Nat → Nat} {dA : Nat → ClassId} (B0 : BB s0 dC dI dA) (w : fw_W) (h ki va ru pa pc : Nat) (ra : Nat → Nat) (kd : Nat → Nat) (vl : Nat → Int64) (rl : Nat → Nat) (pf : Nat → Nat → Int32) (cn : Nat → Nat) (k r9 : Nat) (a b c9 : Int32) (hQ : aP dA w h ki va ru pa pc ra kd vl rl pf cn) (hk : k < 12) (hr9 : r9 < 10) (hkd : kd k < 3) (hrl : rl k < 10) : Met l y_P_isTask [.code y_P_isTask b_P_isTask 7 (some .boolean)] ({ frames := 0, cells := 0, slots := 0, locals := 0 }) (mP s0 dC dI w [.ref h, .int (nI k), .int (nI r9), .int a, .int b, .int c9]) (mQi s0 dC dI (fun r w' => w' = w ∧ ∃ b9 : Bool, r = nI b9.toNat ∧ (b9 = true ↔ kd k = 2 ∧ rl k = r9 ∧ pf k 0 = a ∧ pf k 1 = b ∧ pf k 2 = c9))) 0 0 (AA s0) := by
  obtain ⟨f1, f2, f3, f4, ⟨rows, f5, hrows⟩, hra, f6, d1, d2, d3, dinj⟩ := hQ
  refine mt_ofW B0 (by decide) (Nat.le_of_ble_eq_true rfl) (fun p e s m args below meth c ls hargs X hin hl hP => ?_)
  have X9 := X
  obtain ⟨hx, hb, hr, hml, hown, hg, hK, hn, hE, hlocks, hA⟩ := X9
  have hS : va_S (AA s0) s.heap s.heap [] := va_S.rf
  have hl : lv_has ls 7 [(0, .ref h), (1, .int (nI k)), (2, .int (nI r9)), (3, .int a), (4, .int b), (5, .int c9)] := hl
  have f7 := hra k hk
  refine lv_aload_n hx hb d_P_isTask_0 rfl (lv_at hl 0 rfl) ?_
  refine va_get (D := (dC, dI)) (ci := 1) (v := .ref pa) (C := R_P) (T := F_P) (N := 5) hx hb hg in_P hown hK (hP.one f1) 0 rfl rfl 3 (by decide) (hg _ k_91) (fun _ h9 => h9) rfl d_P_isTask_1 ?_
  refine lv_iload_n hx hb d_P_isTask_4 rfl (lv_at hl 1 rfl) ?_
  refine fw_aldg (tys := tyl dA) hx hb hK hP f5 4 rfl (j := k) (by omega) (by decide) d_P_isTask_5 ?_
  rw [hrows k hk]
  refine lv_astore (lv' := [(6, .ref (ra k)), (0, .ref h), (1, .int (nI k)), (2, .int (nI r9)), (3, .int a), (4, .int b), (5, .int c9)]) hx hb d_P_isTask_6 hl (by decide) rfl (fun ls hl => ?_)
  refine lv_aload_n hx hb d_P_isTask_8 rfl (lv_at hl 1 rfl) ?_
  refine va_get (D := (dC, dI)) (ci := 1) (v := .ref ki) (C := R_P) (T := F_P) (N := 5) hx hb hg in_P hown hK (hP.one f1) 0 rfl rfl 0 (by decide) (hg _ k_84) (fun _ h9 => h9) rfl d_P_isTask_9 ?_
  refine lv_iload_n hx hb d_P_isTask_12 rfl (lv_at hl 2 rfl) ?_
  refine fw_iald (tys := tyl dA) hx hb hK hP f2 0 rfl (j := k) (by omega) (by decide) d_P_isTask_13 ?_
  refine lv_iconst (v := (nI 2)) hx hb d_P_isTask_14 (by decide) ?_
  refine nu_ne (tgt := 58) hx hb (by omega) (by omega) d_P_isTask_15 (by decide) (fun c1 => ?_) (fun c1 => ?_)
  · refine lv_iconst (v := (nI 0)) hx hb d_P_isTask_58 (by decide) ?_
    exact W.zret (v := (nI 0)) hx hb hr (by decide) (fun tS ht hW => ⟨⟨(nI 0), w, rfl, ⟨rfl, false, rfl, ⟨fun h9 => (by cases h9), fun h9 => absurd h9.1 c1⟩⟩, mB_of ht hP⟩, hS.F ht⟩) hS.2.2 d_P_isTask_59
  · refine lv_aload_n hx hb d_P_isTask_18 rfl (lv_at hl 1 rfl) ?_
    refine va_get (D := (dC, dI)) (ci := 1) (v := .ref ru) (C := R_P) (T := F_P) (N := 5) hx hb hg in_P hown hK (hP.one f1) 0 rfl rfl 2 (by decide) (hg _ k_89) (fun _ h9 => h9) rfl d_P_isTask_19 ?_
    refine lv_iload_n hx hb d_P_isTask_22 rfl (lv_at hl 2 rfl) ?_
    refine fw_iald (tys := tyl dA) hx hb hK hP f4 0 rfl (j := k) (by omega) (by decide) d_P_isTask_23 ?_
    refine lv_iload_n hx hb d_P_isTask_24 rfl (lv_at hl 3 rfl) ?_
    refine nu_ne (tgt := 58) hx hb (by omega) (by omega) d_P_isTask_25 (by decide) (fun c2 => ?_) (fun c2 => ?_)
    · refine lv_iconst (v := (nI 0)) hx hb d_P_isTask_58 (by decide) ?_
      exact W.zret (v := (nI 0)) hx hb hr (by decide) (fun tS ht hW => ⟨⟨(nI 0), w, rfl, ⟨rfl, false, rfl, ⟨fun h9 => (by cases h9), fun h9 => absurd h9.2.1 c2⟩⟩, mB_of ht hP⟩, hS.F ht⟩) hS.2.2 d_P_isTask_59
    · refine lv_aload hx hb d_P_isTask_28 (lv_at hl 0 rfl) ?_
      refine lv_iconst (v := (nI 0)) hx hb d_P_isTask_30 (by decide) ?_
      refine fw_iald (tys := tyl dA) hx hb hK hP f7 0 rfl (j := 0) (by omega) (by decide) d_P_isTask_31 ?_
      refine lv_iload_n hx hb d_P_isTask_32 rfl (lv_at hl 4 rfl) ?_
      refine lv_icmp_ne (tgt := 58) hx hb d_P_isTask_33 (by decide) (fun c3 => ?_) (fun c3 => ?_)
      · refine lv_iconst (v := (nI 0)) hx hb d_P_isTask_58 (by decide) ?_
        exact W.zret (v := (nI 0)) hx hb hr (by decide) (fun tS ht hW => ⟨⟨(nI 0), w, rfl, ⟨rfl, false, rfl, ⟨fun h9 => (by cases h9), fun h9 => absurd h9.2.2.1 c3⟩⟩, mB_of ht hP⟩, hS.F ht⟩) hS.2.2 d_P_isTask_59
      · refine lv_aload hx hb d_P_isTask_36 (lv_at hl 0 rfl) ?_
        refine lv_iconst (v := (nI 1)) hx hb d_P_isTask_38 (by decide) ?_
        refine fw_iald (tys := tyl dA) hx hb hK hP f7 0 rfl (j := 1) (by omega) (by decide) d_P_isTask_39 ?_
        refine lv_iload hx hb d_P_isTask_40 (lv_at hl 5 rfl) ?_
        refine lv_icmp_ne (tgt := 58) hx hb d_P_isTask_42 (by decide) (fun c4 => ?_) (fun c4 => ?_)
        · refine lv_iconst (v := (nI 0)) hx hb d_P_isTask_58 (by decide) ?_
          exact W.zret (v := (nI 0)) hx hb hr (by decide) (fun tS ht hW => ⟨⟨(nI 0), w, rfl, ⟨rfl, false, rfl, ⟨fun h9 => (by cases h9), fun h9 => absurd h9.2.2.2.1 c4⟩⟩, mB_of ht hP⟩, hS.F ht⟩) hS.2.2 d_P_isTask_59
        · refine lv_aload hx hb d_P_isTask_45 (lv_at hl 0 rfl) ?_
          refine lv_iconst (v := (nI 2)) hx hb d_P_isTask_47 (by decide) ?_
          refine fw_iald (tys := tyl dA) hx hb hK hP f7 0 rfl (j := 2) (by omega) (by decide) d_P_isTask_48 ?_
          refine lv_iload hx hb d_P_isTask_49 (lv_at hl 6 rfl) ?_
          refine lv_icmp_ne (tgt := 58) hx hb d_P_isTask_51 (by decide) (fun c5 => ?_) (fun c5 => ?_)
          · refine lv_iconst (v := (nI 0)) hx hb d_P_isTask_58 (by decide) ?_
            exact W.zret (v := (nI 0)) hx hb hr (by decide) (fun tS ht hW => ⟨⟨(nI 0), w, rfl, ⟨rfl, false, rfl, ⟨fun h9 => (by cases h9), fun h9 => absurd h9.2.2.2.2 c5⟩⟩, mB_of ht hP⟩, hS.F ht⟩) hS.2.2 d_P_isTask_59
          · refine lv_iconst (v := (nI 1)) hx hb d_P_isTask_54 (by decide) ?_
            refine lv_goto (tgt := 59) hx hb d_P_isTask_55 (by decide) ?_
            exact W.zret (v := (nI 1)) hx hb hr (by decide) (fun tS ht hW => ⟨⟨(nI 1), w, rfl, ⟨rfl, true, rfl, ⟨fun _ => ⟨c1, c2, c3, c4, c5⟩, fun _ => rfl⟩⟩, mB_of ht hP⟩, hS.F ht⟩) hS.2.2 d_P_isTask_59
set_option maxHeartbeats 4000000 in
set_option maxRecDepth 100000 in
theorem c_P_setTask {l : Launch} {s0 : State} {dC : Nat → ClassId} {dI : Nat → Nat → Nat} {dA : Nat → ClassId} (B0 : BB s0 dC dI dA) (w : fw_W) (h ki va ru pa pc : Nat) (ra : Nat → Nat) (kd : Nat → Nat) (vl : Nat → Int64) (rl : Nat → Nat) (pf : Nat → Nat → Int32) (cn : Nat → Nat) (k r9 : Nat) (a b c9 : Int32) (hQ : aP dA w h ki va ru pa pc ra kd vl rl pf cn) (hk : k < 12) : Met l y_P_setTask [.code y_P_setTask b_P_setTask 6 none] ({ frames := 1, cells := 0, slots := 0, locals := 30 }) (mP s0 dC dI w [.ref h, .int (nI k), .int (nI r9), .int a, .int b, .int c9]) (mQv s0 dC dI (fun w' => aP dA w' h ki va ru pa pc ra (va_up kd k 2) vl (va_up rl k r9) (va_up pf k (upd (upd (upd (pf k) 0 a) 1 b) 2 c9)) (va_up cn k (pCount a b c9)) ∧ ∀ z, z ≠ ki → z ≠ ru → z ≠ ra k → z ≠ pc → w' z = w z)) 0 0 (AA s0) := by
  obtain ⟨f1, f2, f3, f4, ⟨rows, f5, hrows⟩, hra, f6, d1, d2, d3, dinj⟩ := hQ
  refine mt_ofW B0 (by decide) (Nat.le_of_ble_eq_true rfl) (fun p e s m args below meth c ls hargs X hin hl hP => ?_)
  have X9 := X
  obtain ⟨hx, hb, hr, hml, hown, hg, hK, hn, hE, hlocks, hA⟩ := X9
  have hS : va_S (AA s0) s.heap s.heap [] := va_S.rf
  have hl : lv_has ls 6 [(0, .ref h), (1, .int (nI k)), (2, .int (nI r9)), (3, .int a), (4, .int b), (5, .int c9)] := hl
  have f2w := f2
  have f4w := f4
  have f6w := f6
  have f7 := hra k hk
  have f7w := f7
  refine lv_aload_n hx hb d_P_setTask_0 rfl (lv_at hl 0 rfl) ?_
  refine va_get (D := (dC, dI)) (ci := 1) (v := .ref ki) (C := R_P) (T := F_P) (N := 5) hx hb hg in_P hown hK (hP.one f1) 0 rfl rfl 0 (by decide) (hg _ k_84) (fun _ h9 => h9) rfl d_P_setTask_1 ?_
  refine lv_iload_n hx hb d_P_setTask_4 rfl (lv_at hl 1 rfl) ?_
  refine lv_iconst (v := (nI 2)) hx hb d_P_setTask_5 (by decide) ?_
  refine fw_iast (tys := tyl dA) hx hb hK hP hS f2 0 rfl (j := k) (x := (nI 2)) (by omega) (by decide) d_P_setTask_6 (fun w5 H locs ew6 hP hS => ?_)
  rw [nf_up] at ew6
  have f1 : w5 h = some (.inr (1, [.ref ki, .ref va, .ref ru, .ref pa, .ref pc])) := by rw [ew6, va_up_ne _ _ (fw_ne f1 f2 (by simp))]; exact f1
  have f3 : w5 va = some (.inl (dA 1, 12, .inr (.inl vl))) := by rw [ew6, va_up_ne _ _ (fw_ne f3 f2 (by simp))]; exact f3
  have f4 : w5 ru = some (.inl (dA 0, 12, .inl (nf rl))) := by rw [ew6, va_up_ne _ _ (Ne.symm d1)]; exact f4
  have f5 : w5 pa = some (.inl (dA 4, 12, .inr (.inr (.inr (.inr rows))))) := by rw [ew6, va_up_ne _ _ (fw_ne f5 f2 (by simp))]; exact f5
  have f6 : w5 pc = some (.inl (dA 0, 12, .inl (nf cn))) := by rw [ew6, va_up_ne _ _ (Ne.symm d2)]; exact f6
  have f7 : w5 (ra k) = some (.inl (dA 0, 3, .inl (pf k))) := by rw [ew6, va_up_ne _ _ (fw_ne f7 f2 (by simp))]; exact f7
  have f2 : w5 ki = some (.inl (dA 0, 12, .inl (nf (va_up kd k 2)))) := by rw [ew6]; exact va_up_self _ _ _
  refine lv_aload_n hx hb d_P_setTask_7 rfl (lv_at hl 0 rfl) ?_
  refine va_get (D := (dC, dI)) (ci := 1) (v := .ref ru) (C := R_P) (T := F_P) (N := 5) hx hb hg in_P hown hK (hP.one f1) 0 rfl rfl 2 (by decide) (hg _ k_89) (fun _ h9 => h9) rfl d_P_setTask_8 ?_
  refine lv_iload_n hx hb d_P_setTask_11 rfl (lv_at hl 1 rfl) ?_
  refine lv_iload_n hx hb d_P_setTask_12 rfl (lv_at hl 2 rfl) ?_
  refine fw_iast (tys := tyl dA) hx hb hK hP hS f4 0 rfl (j := k) (x := (nI r9)) (by omega) (by decide) d_P_setTask_13 (fun w7 H locs ew8 hP hS => ?_)
  rw [nf_up] at ew8
  have f1 : w7 h = some (.inr (1, [.ref ki, .ref va, .ref ru, .ref pa, .ref pc])) := by rw [ew8, va_up_ne _ _ (fw_ne f1 f4 (by simp))]; exact f1
  have f2 : w7 ki = some (.inl (dA 0, 12, .inl (nf (va_up kd k 2)))) := by rw [ew8, va_up_ne _ _ d1]; exact f2
  have f3 : w7 va = some (.inl (dA 1, 12, .inr (.inl vl))) := by rw [ew8, va_up_ne _ _ (fw_ne f3 f4 (by simp))]; exact f3
  have f5 : w7 pa = some (.inl (dA 4, 12, .inr (.inr (.inr (.inr rows))))) := by rw [ew8, va_up_ne _ _ (fw_ne f5 f4 (by simp))]; exact f5
  have f6 : w7 pc = some (.inl (dA 0, 12, .inl (nf cn))) := by rw [ew8, va_up_ne _ _ (Ne.symm d3)]; exact f6
  have f7 : w7 (ra k) = some (.inl (dA 0, 3, .inl (pf k))) := by rw [ew8, va_up_ne _ _ (fw_ne f7 f4 (by simp))]; exact f7
  have f4 : w7 ru = some (.inl (dA 0, 12, .inl (nf (va_up rl k r9)))) := by rw [ew8]; exact va_up_self _ _ _
  refine lv_aload_n hx hb d_P_setTask_14 rfl (lv_at hl 0 rfl) ?_
  refine va_get (D := (dC, dI)) (ci := 1) (v := .ref pa) (C := R_P) (T := F_P) (N := 5) hx hb hg in_P hown hK (hP.one f1) 0 rfl rfl 3 (by decide) (hg _ k_91) (fun _ h9 => h9) rfl d_P_setTask_15 ?_
  refine lv_iload_n hx hb d_P_setTask_18 rfl (lv_at hl 1 rfl) ?_
  refine fw_aldg (tys := tyl dA) hx hb hK hP f5 4 rfl (j := k) (by omega) (by decide) d_P_setTask_19 ?_
  rw [hrows k hk]
  refine lv_iconst (v := (nI 0)) hx hb d_P_setTask_20 (by decide) ?_
  refine lv_iload_n hx hb d_P_setTask_21 rfl (lv_at hl 3 rfl) ?_
  refine fw_iast (tys := tyl dA) hx hb hK hP hS f7 0 rfl (j := 0) (x := a) (by omega) (by decide) d_P_setTask_22 (fun w9 H locs ew10 hP hS => ?_)
  have f1 : w9 h = some (.inr (1, [.ref ki, .ref va, .ref ru, .ref pa, .ref pc])) := by rw [ew10, va_up_ne _ _ (fw_ne f1 f7 (by simp))]; exact f1
  have f2 : w9 ki = some (.inl (dA 0, 12, .inl (nf (va_up kd k 2)))) := by rw [ew10, va_up_ne _ _ (fw_ne f2 f7 (by simp))]; exact f2
  have f3 : w9 va = some (.inl (dA 1, 12, .inr (.inl vl))) := by rw [ew10, va_up_ne _ _ (fw_ne f3 f7 (by simp))]; exact f3
  have f4 : w9 ru = some (.inl (dA 0, 12, .inl (nf (va_up rl k r9)))) := by rw [ew10, va_up_ne _ _ (fw_ne f4 f7 (by simp))]; exact f4
  have f5 : w9 pa = some (.inl (dA 4, 12, .inr (.inr (.inr (.inr rows))))) := by rw [ew10, va_up_ne _ _ (fw_ne f5 f7 (by simp))]; exact f5
  have f6 : w9 pc = some (.inl (dA 0, 12, .inl (nf cn))) := by rw [ew10, va_up_ne _ _ (fw_ne f6 f7 (by simp))]; exact f6
  have f7 : w9 (ra k) = some (.inl (dA 0, 3, .inl (upd (pf k) 0 a))) := by rw [ew10]; exact va_up_self _ _ _
  refine lv_aload_n hx hb d_P_setTask_23 rfl (lv_at hl 0 rfl) ?_
  refine va_get (D := (dC, dI)) (ci := 1) (v := .ref pa) (C := R_P) (T := F_P) (N := 5) hx hb hg in_P hown hK (hP.one f1) 0 rfl rfl 3 (by decide) (hg _ k_91) (fun _ h9 => h9) rfl d_P_setTask_24 ?_
  refine lv_iload_n hx hb d_P_setTask_27 rfl (lv_at hl 1 rfl) ?_
  refine fw_aldg (tys := tyl dA) hx hb hK hP f5 4 rfl (j := k) (by omega) (by decide) d_P_setTask_28 ?_
  rw [hrows k hk]
  refine lv_iconst (v := (nI 1)) hx hb d_P_setTask_29 (by decide) ?_
  refine lv_iload hx hb d_P_setTask_30 (lv_at hl 4 rfl) ?_
  refine fw_iast (tys := tyl dA) hx hb hK hP hS f7 0 rfl (j := 1) (x := b) (by omega) (by decide) d_P_setTask_32 (fun w11 H locs ew12 hP hS => ?_)
  have f1 : w11 h = some (.inr (1, [.ref ki, .ref va, .ref ru, .ref pa, .ref pc])) := by rw [ew12, va_up_ne _ _ (fw_ne f1 f7 (by simp))]; exact f1
  have f2 : w11 ki = some (.inl (dA 0, 12, .inl (nf (va_up kd k 2)))) := by rw [ew12, va_up_ne _ _ (fw_ne f2 f7 (by simp))]; exact f2
  have f3 : w11 va = some (.inl (dA 1, 12, .inr (.inl vl))) := by rw [ew12, va_up_ne _ _ (fw_ne f3 f7 (by simp))]; exact f3
  have f4 : w11 ru = some (.inl (dA 0, 12, .inl (nf (va_up rl k r9)))) := by rw [ew12, va_up_ne _ _ (fw_ne f4 f7 (by simp))]; exact f4
  have f5 : w11 pa = some (.inl (dA 4, 12, .inr (.inr (.inr (.inr rows))))) := by rw [ew12, va_up_ne _ _ (fw_ne f5 f7 (by simp))]; exact f5
  have f6 : w11 pc = some (.inl (dA 0, 12, .inl (nf cn))) := by rw [ew12, va_up_ne _ _ (fw_ne f6 f7 (by simp))]; exact f6
  have f7 : w11 (ra k) = some (.inl (dA 0, 3, .inl (upd (upd (pf k) 0 a) 1 b))) := by rw [ew12]; exact va_up_self _ _ _
  refine lv_aload_n hx hb d_P_setTask_33 rfl (lv_at hl 0 rfl) ?_
  refine va_get (D := (dC, dI)) (ci := 1) (v := .ref pa) (C := R_P) (T := F_P) (N := 5) hx hb hg in_P hown hK (hP.one f1) 0 rfl rfl 3 (by decide) (hg _ k_91) (fun _ h9 => h9) rfl d_P_setTask_34 ?_
  refine lv_iload_n hx hb d_P_setTask_37 rfl (lv_at hl 1 rfl) ?_
  refine fw_aldg (tys := tyl dA) hx hb hK hP f5 4 rfl (j := k) (by omega) (by decide) d_P_setTask_38 ?_
  rw [hrows k hk]
  refine lv_iconst (v := (nI 2)) hx hb d_P_setTask_39 (by decide) ?_
  refine lv_iload hx hb d_P_setTask_40 (lv_at hl 5 rfl) ?_
  refine fw_iast (tys := tyl dA) hx hb hK hP hS f7 0 rfl (j := 2) (x := c9) (by omega) (by decide) d_P_setTask_42 (fun w13 H locs ew14 hP hS => ?_)
  have f1 : w13 h = some (.inr (1, [.ref ki, .ref va, .ref ru, .ref pa, .ref pc])) := by rw [ew14, va_up_ne _ _ (fw_ne f1 f7 (by simp))]; exact f1
  have f2 : w13 ki = some (.inl (dA 0, 12, .inl (nf (va_up kd k 2)))) := by rw [ew14, va_up_ne _ _ (fw_ne f2 f7 (by simp))]; exact f2
  have f3 : w13 va = some (.inl (dA 1, 12, .inr (.inl vl))) := by rw [ew14, va_up_ne _ _ (fw_ne f3 f7 (by simp))]; exact f3
  have f4 : w13 ru = some (.inl (dA 0, 12, .inl (nf (va_up rl k r9)))) := by rw [ew14, va_up_ne _ _ (fw_ne f4 f7 (by simp))]; exact f4
  have f5 : w13 pa = some (.inl (dA 4, 12, .inr (.inr (.inr (.inr rows))))) := by rw [ew14, va_up_ne _ _ (fw_ne f5 f7 (by simp))]; exact f5
  have f6 : w13 pc = some (.inl (dA 0, 12, .inl (nf cn))) := by rw [ew14, va_up_ne _ _ (fw_ne f6 f7 (by simp))]; exact f6
  have f7 : w13 (ra k) = some (.inl (dA 0, 3, .inl (upd (upd (upd (pf k) 0 a) 1 b) 2 c9))) := by rw [ew14]; exact va_up_self _ _ _
  refine lv_aload_n hx hb d_P_setTask_43 rfl (lv_at hl 0 rfl) ?_
  refine va_get (D := (dC, dI)) (ci := 1) (v := .ref pc) (C := R_P) (T := F_P) (N := 5) hx hb hg in_P hown hK (hP.one f1) 0 rfl rfl 4 (by decide) (hg _ k_93) (fun _ h9 => h9) rfl d_P_setTask_44 ?_
  refine lv_iload_n hx hb d_P_setTask_47 rfl (lv_at hl 1 rfl) ?_
  refine lv_iload_n hx hb d_P_setTask_48 rfl (lv_at hl 3 rfl) ?_
  refine lv_iload hx hb d_P_setTask_49 (lv_at hl 4 rfl) ?_
  refine lv_iload hx hb d_P_setTask_51 (lv_at hl 5 rfl) ?_
  refine va_calli (rn_SN (n := 3) (As := [.int a, .int b, .int c9]) (rest := [.int (nI k), .ref pc]) X hP hS (c_B_partsAmong B0 w13 a b c9) u_316 k_304 k_54 k_305 (by decide +kernel) rfl rfl ⟨Nat.le_of_ble_eq_true rfl, Nat.le_of_ble_eq_true rfl⟩ rfl hl.1 rfl (Nat.le_of_ble_eq_true rfl) d_P_setTask_53 ⟨Nat.le_of_ble_eq_true rfl, Nat.le_of_ble_eq_true rfl⟩) hS (fun q _ h => h) (fun q h => h) (fun r w15 tS H locs ht hvm hw hB hz1 hk1 hS => ?_)
  have hP : fw_P (dC, dI) cls_ (AA s0) w15 H := by rw [← ht]; exact hB
  obtain ⟨ew9, er9⟩ := hw
  rw [ew9] at hP
  rw [er9]
  refine fw_iast (tys := tyl dA) hx hb hK hP hS f6 0 rfl (j := k) (x := (nI (pCount a b c9))) (by omega) (by decide) d_P_setTask_56 (fun w16 H locs ew17 hP hS => ?_)
  rw [nf_up] at ew17
  have f1 : w16 h = some (.inr (1, [.ref ki, .ref va, .ref ru, .ref pa, .ref pc])) := by rw [ew17, va_up_ne _ _ (fw_ne f1 f6 (by simp))]; exact f1
  have f2 : w16 ki = some (.inl (dA 0, 12, .inl (nf (va_up kd k 2)))) := by rw [ew17, va_up_ne _ _ d2]; exact f2
  have f3 : w16 va = some (.inl (dA 1, 12, .inr (.inl vl))) := by rw [ew17, va_up_ne _ _ (fw_ne f3 f6 (by simp))]; exact f3
  have f4 : w16 ru = some (.inl (dA 0, 12, .inl (nf (va_up rl k r9)))) := by rw [ew17, va_up_ne _ _ d3]; exact f4
  have f5 : w16 pa = some (.inl (dA 4, 12, .inr (.inr (.inr (.inr rows))))) := by rw [ew17, va_up_ne _ _ (fw_ne f5 f6 (by simp))]; exact f5
  have f7 : w16 (ra k) = some (.inl (dA 0, 3, .inl (upd (upd (upd (pf k) 0 a) 1 b) 2 c9))) := by rw [ew17, va_up_ne _ _ (fw_ne f7 f6 (by simp))]; exact f7
  have f6 : w16 pc = some (.inl (dA 0, 12, .inl (nf (va_up cn k (pCount a b c9))))) := by rw [ew17]; exact va_up_self _ _ _
  have hfr : ∀ z, z ≠ ki → z ≠ ru → z ≠ ra k → z ≠ pc → w16 z = w z := (fun z z1 z2 z3 z4 => by rw [ew17, va_up_ne _ _ z4, ew14, va_up_ne _ _ z3, ew12, va_up_ne _ _ z3, ew10, va_up_ne _ _ z3, ew8, va_up_ne _ _ z2, ew6, va_up_ne _ _ z1])
  exact W.vret hx hb hr (fun tS ht hW => ⟨⟨w16, rfl, ⟨⟨f1, f2, f3, f4, ⟨rows, f5, hrows⟩, fun j hj => by by_cases h9 : j = k; subst h9; rw [va_up_self]; exact f7; rw [va_up_ne _ _ h9, hfr _ (fw_ne (hra j hj) f2w (by simp)) (fw_ne (hra j hj) f4w (by simp)) (fun e9 => h9 (dinj j k hj hk e9)) (fw_ne (hra j hj) f6w (by simp))]; exact hra j hj, f6, d1, d2, d3, dinj⟩, hfr⟩, mB_of ht hP⟩, hS.F ht⟩) hS.2.2 d_P_setTask_57
