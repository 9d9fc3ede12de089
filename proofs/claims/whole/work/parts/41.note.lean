set_option maxHeartbeats 4000000 in
set_option maxRecDepth 100000 in
theorem c_T_note {l : Launch} {s0 : State} {dC : Nat → ClassId} {dI : Nat → Nat → Nat} {dA : Nat → ClassId} (B0 : BB s0 dC dI dA) (w : fw_W) (h kt vt o k : Nat) (L : List (Nat × Int64)) (res v : Int64) (hT : aT dA w h kt vt o L res) (hk : k < 12) : Met l y_T_note [.code y_T_note b_T_note 4 none] ({ frames := 1, cells := 0, slots := 0, locals := 22 }) (mP s0 dC dI w [.ref h, .int (nI k), .long v]) (mQv s0 dC dI (fun w' => aT dA w' h kt vt o (noteL L k v) res ∧ ∀ z, z ≠ h → z ≠ kt → z ≠ vt → w' z = w z)) 0 0 (AA s0) := by
  obtain ⟨fk, fv, f1, f2, f3, h3, hL⟩ := hT
  refine mt_ofW B0 (by decide) (Nat.le_of_ble_eq_true rfl) (fun p e s m args below meth c ls hargs X hin hl hP => ?_)
  have X9 := X
  obtain ⟨hx, hb, hr, hml, hown, hg, hK, hn, hE, hlocks, hA⟩ := X9
  have hS : va_S (AA s0) s.heap s.heap [] := va_S.rf
  have hl : lv_has ls 4 [(0, .ref h), (1, .int (nI k)), (2, .long v)] := hl
  refine lv_aload_n hx hb d_T_note_0 rfl (lv_at hl 0 rfl) ?_
  refine va_get (D := (dC, dI)) (ci := 3) (v := .int (nI L.length)) (C := R_T) (T := F_T) (N := 5) hx hb hg in_T hown hK (hP.one f1) 0 rfl rfl 3 (by decide) (hg _ k_412) (fun _ h9 => h9) rfl d_T_note_1 ?_
  refine lv_iconst (v := (nI 3)) hx hb d_T_note_4 (by decide) ?_
  refine nu_ge (tgt := 46) hx hb (by omega) (by omega) d_T_note_5 (by decide) (fun c1 => ?_) (fun c1 => ?_)
  · exact W.vret hx hb hr (fun tS ht hW => ⟨⟨w, rfl, ⟨by rw [noteL, if_neg (fun h => by omega)]; exact ⟨fk, fv, f1, f2, f3, h3, hL⟩, fun z _ _ _ => rfl⟩, mB_of ht hP⟩, hS.F ht⟩) hS.2.2 d_T_note_46
  · refine lv_aload_n hx hb d_T_note_8 rfl (lv_at hl 0 rfl) ?_
    refine lv_iload_n hx hb d_T_note_9 rfl (lv_at hl 1 rfl) ?_
    refine va_calli (rn_V (n := 1) (As := [.int (nI k)]) (rest := []) (C := R_T) (T := F_T) (N := 5) (ci := 3) X hP hS (c_T_has B0 w h kt vt L.length (nI o) res fk (nI k) f1 f2 h3) k_448 k_450 k_26 k_64 k_451 (by decide +kernel) rfl rfl ⟨Nat.le_of_ble_eq_true rfl, Nat.le_of_ble_eq_true rfl⟩ f1 rfl rfl hl.1 rfl (Nat.le_of_ble_eq_true rfl) d_T_note_10 ⟨Nat.le_of_ble_eq_true rfl, Nat.le_of_ble_eq_true rfl⟩) hS (fun q _ h => h) (fun q h => h) (fun r w17 tS H locs ht hvm hw hB hz1 hk1 hS => ?_)
    have hP : fw_P (dC, dI) cls_ (AA s0) w17 H := by rw [← ht]; exact hB
    obtain ⟨ew9, b, rfl, hb9⟩ := hw
    rw [ew9] at hP
    refine nu_ifne (tgt := 46) hx hb d_T_note_13 (by decide) (fun c2 => ?_) (fun c2 => ?_)
    · exact W.vret hx hb hr (fun tS ht hW => ⟨⟨w, rfl, ⟨by rw [noteL, if_neg (fun h => (aT_has hk hL).mp (hb9.mp c2) h.2)]; exact ⟨fk, fv, f1, f2, f3, h3, hL⟩, fun z _ _ _ => rfl⟩, mB_of ht hP⟩, hS.F ht⟩) hS.2.2 d_T_note_46
    · refine lv_aload_n hx hb d_T_note_16 rfl (lv_at hl 0 rfl) ?_
      refine va_get (D := (dC, dI)) (ci := 3) (v := .ref kt) (C := R_T) (T := F_T) (N := 5) hx hb hg in_T hown hK (hP.one f1) 0 rfl rfl 1 (by decide) (hg _ k_406) (fun _ h9 => h9) rfl d_T_note_17 ?_
      refine lv_aload_n hx hb d_T_note_20 rfl (lv_at hl 0 rfl) ?_
      refine va_get (D := (dC, dI)) (ci := 3) (v := .int (nI L.length)) (C := R_T) (T := F_T) (N := 5) hx hb hg in_T hown hK (hP.one f1) 0 rfl rfl 3 (by decide) (hg _ k_412) (fun _ h9 => h9) rfl d_T_note_21 ?_
      refine lv_iload_n hx hb d_T_note_24 rfl (lv_at hl 1 rfl) ?_
      refine fw_iast (tys := tyl dA) hx hb hK hP hS f2 0 rfl (j := L.length) (x := (nI k)) c1 (by decide) d_T_note_25 (fun w18 H locs ew19 hP hS => ?_)
      have f1 : w18 h = some (.inr (3, [.int (nI o), .ref kt, .ref vt, .int (nI L.length), .long res])) := by rw [ew19, va_up_ne _ _ (fw_ne f1 f2 (by simp))]; exact f1
      have f3 : w18 vt = some (.inl (dA 1, 3, .inr (.inl fv))) := by rw [ew19, va_up_ne _ _ (fw_ne f3 f2 (by simp))]; exact f3
      have f2 : w18 kt = some (.inl (dA 0, 3, .inl (upd fk L.length (nI k)))) := by rw [ew19]; exact va_up_self _ _ _
      refine lv_aload_n hx hb d_T_note_26 rfl (lv_at hl 0 rfl) ?_
      refine va_get (D := (dC, dI)) (ci := 3) (v := .ref vt) (C := R_T) (T := F_T) (N := 5) hx hb hg in_T hown hK (hP.one f1) 0 rfl rfl 2 (by decide) (hg _ k_409) (fun _ h9 => h9) rfl d_T_note_27 ?_
      refine lv_aload_n hx hb d_T_note_30 rfl (lv_at hl 0 rfl) ?_
      refine va_get (D := (dC, dI)) (ci := 3) (v := .int (nI L.length)) (C := R_T) (T := F_T) (N := 5) hx hb hg in_T hown hK (hP.one f1) 0 rfl rfl 3 (by decide) (hg _ k_412) (fun _ h9 => h9) rfl d_T_note_31 ?_
      refine lv_lload_n hx hb d_T_note_34 rfl (lv_at hl 2 rfl) ?_
      refine fw_last (tys := tyl dA) hx hb hK hP hS f3 1 rfl (j := L.length) c1 (by decide) d_T_note_35 (fun w20 H locs ew21 hP hS => ?_)
      have f1 : w20 h = some (.inr (3, [.int (nI o), .ref kt, .ref vt, .int (nI L.length), .long res])) := by rw [ew21, va_up_ne _ _ (fw_ne f1 f3 (by simp))]; exact f1
      have f2 : w20 kt = some (.inl (dA 0, 3, .inl (upd fk L.length (nI k)))) := by rw [ew21, va_up_ne _ _ (fw_ne f2 f3 (by simp))]; exact f2
      have f3 : w20 vt = some (.inl (dA 1, 3, .inr (.inl (vp_updL fv L.length v)))) := by rw [ew21]; exact va_up_self _ _ _
      refine lv_aload_n hx hb d_T_note_36 rfl (lv_at hl 0 rfl) ?_
      refine lv_dup hx hb d_T_note_37 rfl ?_
      refine va_get (D := (dC, dI)) (ci := 3) (v := .int (nI L.length)) (C := R_T) (T := F_T) (N := 5) hx hb hg in_T hown hK (hP.one f1) 0 rfl rfl 3 (by decide) (hg _ k_412) (fun _ h9 => h9) rfl d_T_note_38 ?_
      refine lv_iconst (v := (nI 1)) hx hb d_T_note_41 (by decide) ?_
      refine nu_iadd (r := L.length + 1) hx hb d_T_note_42 (by omega) ?_
      refine fw_put (D := (dC, dI)) (ci := 3) (v := .int (nI (L.length + 1))) (ty := .int) (C := R_T) (T := F_T) (N := 5) hx hb hg in_T ft_T ft_T_ok n_T hown hK hP hS f1 rfl 3 (by decide) (hg _ k_412) (fun _ h9 => h9) rfl (by decide +kernel) rfl rfl (Nat.le_of_ble_eq_true rfl) d_T_note_43 (fun w22 H locs ew23 hP hS => ?_)
      have f2 : w22 kt = some (.inl (dA 0, 3, .inl (upd fk L.length (nI k)))) := by rw [ew23, va_up_ne _ _ (fw_ne f2 f1 (by simp))]; exact f2
      have f3 : w22 vt = some (.inl (dA 1, 3, .inr (.inl (vp_updL fv L.length v)))) := by rw [ew23, va_up_ne _ _ (fw_ne f3 f1 (by simp))]; exact f3
      have f1 : w22 h = some (.inr (3, [.int (nI o), .ref kt, .ref vt, .int (nI (L.length + 1)), .long res])) := by rw [ew23]; exact va_up_self _ _ _
      exact W.vret hx hb hr (fun tS ht hW => ⟨⟨w22, rfl, ⟨by rw [noteL, if_pos ⟨c1, Classical.byContradiction fun h => by rw [hb9.mpr ((aT_has hk hL).mpr h)] at c2; cases c2⟩]; exact ⟨_, _, by rw [List.length_append]; exact f1, f2, f3, by rw [List.length_append]; exact c1, aT_note hk c1 hL⟩, (fun z z1 z2 z3 => by rw [ew23, va_up_ne _ _ z1, ew21, va_up_ne _ _ z3, ew19, va_up_ne _ _ z2])⟩, mB_of ht hP⟩, hS.F ht⟩) hS.2.2 d_T_note_46
