set_option maxHeartbeats 4000000 in
set_option maxRecDepth 100000 in
theorem c_M_traceOf {l : Launch} {s0 : State} {dC : Nat → ClassId} {dI : Nat → Nat → Nat} {dA : Nat → ClassId} (B0 : BB s0 dC dI dA) (w : fw_W) (h tr ca ta : Nat) (ft : Nat → Option Nat) (pl : List Nat) (fa : Nat → Int32) (wk k : Nat) (hM : aM dA w h tr ca ta ft pl fa) (hwk : wk < 2) (hk : k < 12) : Met l y_M_traceOf [.code y_M_traceOf b_M_traceOf 3 (some (.object "TraceBuilder$Trace"))] ({ frames := 0, cells := 0, slots := 0, locals := 0 }) (mP s0 dC dI w [.ref h, .int (nI wk), .int (nI k)]) (mQq s0 dC dI (fun r w' => w' = w ∧ r = ft (wk * 12 + k))) 0 0 (AA s0) := by
  obtain ⟨fc, f1, f2, f3, f4, h16, hpl, hcn⟩ := hM
  refine mt_ofW B0 (by decide) (Nat.le_of_ble_eq_true rfl) (fun p e s m args below meth c ls hargs X hin hl hP => ?_)
  have X9 := X
  obtain ⟨hx, hb, hr, hml, hown, hg, hK, hn, hE, hlocks, hA⟩ := X9
  have hS : va_S (AA s0) s.heap s.heap [] := va_S.rf
  have hl : lv_has ls 3 [(0, .ref h), (1, .int (nI wk)), (2, .int (nI k))] := hl
  refine lv_aload_n hx hb d_M_traceOf_0 rfl (lv_at hl 0 rfl) ?_
  refine va_get (D := (dC, dI)) (ci := 0) (v := .ref tr) (C := R_M) (T := F_M) (N := 4) hx hb hg in_M hown hK (hP.one f1) 0 rfl rfl 0 (by decide) (hg _ k_116) (fun _ h9 => h9) rfl d_M_traceOf_1 ?_
  refine lv_iload_n hx hb d_M_traceOf_4 rfl (lv_at hl 1 rfl) ?_
  refine lv_bipush (v := (nI 12)) hx hb d_M_traceOf_5 (by decide) ?_
  refine nu_imul (r := 12 * wk) hx hb d_M_traceOf_7 (by omega) ?_
  refine lv_iload_n hx hb d_M_traceOf_8 rfl (lv_at hl 2 rfl) ?_
  refine nu_iadd (r := 12 * wk + k) hx hb d_M_traceOf_9 (by omega) ?_
  refine fw_aldq (tys := tyl dA) hx hb hK hP f2 3 rfl (j := 12 * wk + k) (by omega) (by decide) d_M_traceOf_10 ?_
  exact W.aret (v := va_rf (ft (12 * wk + k))) hx hb hr (Or.inl ⟨_, rfl⟩) (rf_or _) (fun tS ht hW => ⟨⟨(ft (12 * wk + k)), w, rfl, ⟨rfl, by rw [Nat.mul_comm wk 12]⟩, mB_of ht hP⟩, hS.F ht⟩) hS.2.2 d_M_traceOf_11
set_option maxHeartbeats 4000000 in
set_option maxRecDepth 100000 in
theorem c_M_give {l : Launch} {s0 : State} {dC : Nat → ClassId} {dI : Nat → Nat → Nat} {dA : Nat → ClassId} (B0 : BB s0 dC dI dA) (w : fw_W) (h tr ca ta : Nat) (ft : Nat → Option Nat) (pl : List Nat) (fa : Nat → Int32) (wk t o : Nat) (hM : aM dA w h tr ca ta ft pl fa) (hwk : wk < 2) (ho : o < 12) (hT : oT w t o) : Met l y_M_give [.code y_M_give b_M_give 3 none] ({ frames := 0, cells := 0, slots := 0, locals := 0 }) (mP s0 dC dI w [.ref h, .int (nI wk), .ref t]) (mQv s0 dC dI (fun w' => aM dA w' h tr ca ta (va_up ft (wk * 12 + o) (some t)) pl fa ∧ ∀ z, z ≠ tr → w' z = w z)) 0 0 (AA s0) := by
  obtain ⟨x1, x2, x3, x4, f5⟩ := hT
  obtain ⟨fc, f1, f2, f3, f4, h16, hpl, hcn⟩ := hM
  refine mt_ofW B0 (by decide) (Nat.le_of_ble_eq_true rfl) (fun p e s m args below meth c ls hargs X hin hl hP => ?_)
  have X9 := X
  obtain ⟨hx, hb, hr, hml, hown, hg, hK, hn, hE, hlocks, hA⟩ := X9
  have hS : va_S (AA s0) s.heap s.heap [] := va_S.rf
  have hl : lv_has ls 3 [(0, .ref h), (1, .int (nI wk)), (2, .ref t)] := hl
  refine lv_aload_n hx hb d_M_give_0 rfl (lv_at hl 0 rfl) ?_
  refine va_get (D := (dC, dI)) (ci := 0) (v := .ref tr) (C := R_M) (T := F_M) (N := 4) hx hb hg in_M hown hK (hP.one f1) 0 rfl rfl 0 (by decide) (hg _ k_116) (fun _ h9 => h9) rfl d_M_give_1 ?_
  refine lv_iload_n hx hb d_M_give_4 rfl (lv_at hl 1 rfl) ?_
  refine lv_bipush (v := (nI 12)) hx hb d_M_give_5 (by decide) ?_
  refine nu_imul (r := 12 * wk) hx hb d_M_give_7 (by omega) ?_
  refine lv_aload_n hx hb d_M_give_8 rfl (lv_at hl 2 rfl) ?_
  refine va_getN (D := (dC, dI)) (ci := 3) (v := .int (nI o)) (C := R_T) (T := F_T) (N := 5) hx hb hg in_T hown hK (hP.one f5) 0 rfl rfl 0 (by decide) (hn _ u_403) (fun _ h9 => h9) rfl d_M_give_9 ?_
  refine nu_iadd (r := 12 * wk + o) hx hb d_M_give_12 (by omega) ?_
  refine lv_aload_n hx hb d_M_give_13 rfl (lv_at hl 2 rfl) ?_
  refine fw_astq (tys := tyl dA) (r := (R_T, F_T, 5)) hx hb hK hP hS f2 3 rfl 3 f5 rfl (j := 12 * wk + o) (by omega) (by decide) d_M_give_14 (fun w1 H locs ew2 hP hS => ?_)
  have f1 : w1 h = some (.inr (0, [.ref tr, .ref ca, .int (nI pl.length), .ref ta])) := by rw [ew2, va_up_ne _ _ (fw_ne f1 f2 (by simp))]; exact f1
  have f3 : w1 ca = some (.inl (dA 3, 16, .inr (.inr (.inr (.inr fc))))) := by rw [ew2, va_up_ne _ _ (fw_ne f3 f2 (by simp))]; exact f3
  have f4 : w1 ta = some (.inl (dA 0, 11, .inl fa)) := by rw [ew2, va_up_ne _ _ (fw_ne f4 f2 (by simp))]; exact f4
  have f5 : w1 t = some (.inr (3, [.int (nI o), x1, x2, x3, x4])) := by rw [ew2, va_up_ne _ _ (fw_ne f5 f2 (by simp))]; exact f5
  have f2 : w1 tr = some (.inl (dA 3, 24, .inr (.inr (.inr (.inr (va_up ft (12 * wk + o) (some t))))))) := by rw [ew2]; exact va_up_self _ _ _
  exact W.vret hx hb hr (fun tS ht hW => ⟨⟨w1, rfl, ⟨⟨fc, f1, by rw [Nat.mul_comm wk 12]; exact f2, f3, f4, h16, hpl, hcn⟩, (fun z z1 => by rw [ew2, va_up_ne _ _ z1])⟩, mB_of ht hP⟩, hS.F ht⟩) hS.2.2 d_M_give_15
set_option maxHeartbeats 4000000 in
set_option maxRecDepth 100000 in
theorem c_M_tracesOf {l : Launch} {s0 : State} {dC : Nat → ClassId} {dI : Nat → Nat → Nat} {dA : Nat → ClassId} (B0 : BB s0 dC dI dA) (w : fw_W) (h tr ca ta : Nat) (ft : Nat → Option Nat) (pl : List Nat) (fa : Nat → Int32) (wk : Nat) (hM : aM dA w h tr ca ta ft pl fa) (hwk : wk < 2) : Met l y_M_tracesOf [.code y_M_tracesOf b_M_tracesOf 4 (some .int)] ({ frames := 1, cells := 0, slots := 0, locals := 22 }) (mP s0 dC dI w [.ref h, .int (nI wk)]) (mQi s0 dC dI (fun r w' => w' = w ∧ r = nI (cntS ft wk 12))) 0 0 (AA s0) := by
  have hM9 := hM
  obtain ⟨fc, f1, f2, f3, f4, h16, hpl, hcn⟩ := hM
  refine mt_ofW B0 (by decide) (Nat.le_of_ble_eq_true rfl) (fun p e s m args below meth c ls hargs X hin hl hP => ?_)
  have X9 := X
  obtain ⟨hx, hb, hr, hml, hown, hg, hK, hn, hE, hlocks, hA⟩ := X9
  have hS : va_S (AA s0) s.heap s.heap [] := va_S.rf
  have hl : lv_has ls 4 [(0, .ref h), (1, .int (nI wk))] := hl
  refine lv_iconst (v := (nI 0)) hx hb d_M_tracesOf_0 (by decide) ?_
  refine lv_istore_n (lv' := [(2, .int (nI 0)), (0, .ref h), (1, .int (nI wk))]) hx hb d_M_tracesOf_1 rfl hl (by decide) rfl (fun ls hl => ?_)
  refine lv_iconst (v := (nI 0)) hx hb d_M_tracesOf_2 (by decide) ?_
  refine lv_istore_n (lv' := [(3, .int (nI 0)), (2, .int (nI 0)), (0, .ref h), (1, .int (nI wk))]) hx hb d_M_tracesOf_3 rfl hl (by decide) rfl (fun ls hl => ?_)
  have hl : lv_has ls 4 [(3, .int (nI 0)), (2, .int (nI (cntS ft wk 0))), (0, .ref h), (1, .int (nI wk))] := hl
  suffices lp : ∀ (n : Nat) (i : Nat), (i ≤ 12) → (12 < i + n) → ∀ (H : Heap) (locs : List Loc), fw_P (dC, dI) cls_ (AA s0) w H → va_S (AA s0) s.heap H locs → ∀ (ls : Array Slot), lv_has ls 4 [(0, .ref h), (1, .int (nI wk)), (2, .int (nI (cntS ft wk i))), (3, .int (nI i))] → W p l e _ s m args below meth c H locs 0 0 (MQ below _ args s 0 0 (AA s0)) (F0 m 4 ls []) from lp 13 0 (by omega) (by omega) _ _ hP hS ls (lv_sub hl [2, 3, 1, 0] rfl)
  intro n
  induction n with
  | zero => intro i hi hbn; exact absurd hbn (by omega)
  | succ n ih =>
    intro i hi hbn H locs hP hS ls hl
    have hle := cntS_le ft wk i
    refine lv_iload_n hx hb d_M_tracesOf_4 rfl (lv_at hl 3 rfl) ?_
    refine lv_bipush (v := (nI 12)) hx hb d_M_tracesOf_5 (by decide) ?_
    refine nu_ge (tgt := 28) hx hb (by omega) (by omega) d_M_tracesOf_7 (by decide) (fun c1 => ?_) (fun c1 => ?_)
    · refine lv_iload_n hx hb d_M_tracesOf_28 rfl (lv_at hl 2 rfl) ?_
      exact W.iret (v := (nI (cntS ft wk i))) hx hb hr (fun tS ht hW => ⟨⟨(nI (cntS ft wk i)), w, rfl, ⟨rfl, by rw [show i = 12 by omega]⟩, mB_of ht hP⟩, hS.F ht⟩) hS.2.2 d_M_tracesOf_29
    · refine lv_aload_n hx hb d_M_tracesOf_10 rfl (lv_at hl 0 rfl) ?_
      refine lv_iload_n hx hb d_M_tracesOf_11 rfl (lv_at hl 1 rfl) ?_
      refine lv_iload_n hx hb d_M_tracesOf_12 rfl (lv_at hl 3 rfl) ?_
      refine va_callq (rn_V (n := 2) (As := [.int (nI wk), .int (nI i)]) (rest := []) (C := R_M) (T := F_M) (N := 4) (ci := 0) X hP hS (c_M_traceOf B0 w h tr ca ta ft pl fa wk i hM9 hwk (by omega)) k_191 k_193 k_1 k_56 k_194 (by decide +kernel) rfl rfl ⟨Nat.le_of_ble_eq_true rfl, Nat.le_of_ble_eq_true rfl⟩ f1 rfl rfl hl.1 rfl (Nat.le_of_ble_eq_true rfl) d_M_tracesOf_13 ⟨Nat.le_of_ble_eq_true rfl, Nat.le_of_ble_eq_true rfl⟩) hS (fun q _ h => h) (fun q h => h) (fun r w3 tS H locs ht hvm hw hB hz1 hk1 hS => ?_)
      have hP : fw_P (dC, dI) cls_ (AA s0) w3 H := by rw [← ht]; exact hB
      obtain ⟨ew9, er9⟩ := hw
      rw [ew9] at hP
      rcases hq : ft (wk * 12 + i) with _ | t9
      · rw [er9, hq]
        refine lv_ifnullN (tgt := 22) hx hb d_M_tracesOf_16 (by decide) ?_
        refine lv_iinc (v := nI (i + 1)) (lv' := [(3, .int (nI (i + 1))), (0, .ref h), (1, .int (nI wk)), (2, .int (nI (cntS ft wk i)))]) hx hb d_M_tracesOf_22 hl (k := 3) rfl (nI_add _ 1) (by decide) rfl (fun ls hl => ?_)
        refine lv_goto (tgt := 4) hx hb d_M_tracesOf_25 (by decide) ?_
        have hc9 : cntS ft wk (i + 1) = cntS ft wk i := by rw [cntS, hq]; rfl
        rw [← hc9] at hl
        exact ih (i + 1) (by omega) (by omega) _ _ hP hS ls (lv_sub hl [1, 2, 3, 0] rfl)
      · rw [er9, hq]
        refine lv_ifnull hx hb d_M_tracesOf_16 ?_
        refine lv_iinc (v := nI (cntS ft wk i + 1)) (lv' := [(2, .int (nI (cntS ft wk i + 1))), (0, .ref h), (1, .int (nI wk)), (3, .int (nI i))]) hx hb d_M_tracesOf_19 hl (k := 2) rfl (nI_add _ 1) (by decide) rfl (fun ls hl => ?_)
        refine lv_iinc (v := nI (i + 1)) (lv' := [(3, .int (nI (i + 1))), (2, .int (nI (cntS ft wk i + 1))), (0, .ref h), (1, .int (nI wk))]) hx hb d_M_tracesOf_22 hl (k := 3) rfl (nI_add _ 1) (by decide) rfl (fun ls hl => ?_)
        refine lv_goto (tgt := 4) hx hb d_M_tracesOf_25 (by decide) ?_
        have hc9 : cntS ft wk (i + 1) = cntS ft wk i + 1 := by rw [cntS, hq]; rfl
        rw [← hc9] at hl
        exact ih (i + 1) (by omega) (by omega) _ _ hP hS ls (lv_sub hl [2, 3, 1, 0] rfl)
