set_option maxHeartbeats 4000000 in
set_option maxRecDepth 100000 in
theorem c_M_copyE {l : Launch} {s0 : State} {dC : Nat → ClassId} {dI : Nat → Nat → Nat} {dA : Nat → ClassId} (B0 : BB s0 dC dI dA) (w : fw_W) (h tr ca ta : Nat) (ft : Nat → Option Nat) (pl : List Nat) (fa : Nat → Int32) (ow : Nat → Nat) (k rw st : Nat) (fr : Nat → Option Nat) (hM : aM dA w h tr ca ta ft pl fa) (hO : ∀ t ∈ pl, oT w t (ow t)) (hok : ∀ t ∈ pl, ow t < 12) (hk : k < 12) (f6 : w rw = some (.inl (dA 3, 192, .inr (.inr (.inr (.inr fr)))))) (hst : st + 16 ≤ 192) : Met l y_M_copyEntriesOf [.code y_M_copyEntriesOf b_M_copyEntriesOf 7 (some .int)] ({ frames := 1, cells := 0, slots := 0, locals := 22 }) (mP s0 dC dI w [.ref h, .int (nI k), .ref rw, .int (nI st)]) (mQi s0 dC dI (fun r w' => r = nI ((pl.filter (fun t => ow t == k)).reverse).length ∧ (∃ fr' : Nat → Option Nat, w' rw = some (.inl (dA 3, 192, .inr (.inr (.inr (.inr fr'))))) ∧ cP (fun j => fr' (st + j)) ((pl.filter (fun t => ow t == k)).reverse) ∧ ∀ z, (z < st ∨ st + 16 ≤ z) → fr' z = fr z) ∧ ∀ z, z ≠ rw → w' z = w z)) 0 0 (AA s0) := by
  obtain ⟨fc, f1, f2, f3, f4, h16, hpl, hcn⟩ := hM
  refine mt_ofW B0 (by decide) (Nat.le_of_ble_eq_true rfl) (fun p e s m args below meth c ls hargs X hin hl hP => ?_)
  have X9 := X
  obtain ⟨hx, hb, hr, hml, hown, hg, hK, hn, hE, hlocks, hA⟩ := X9
  have hS : va_S (AA s0) s.heap s.heap [] := va_S.rf
  have hl : lv_has ls 7 [(0, .ref h), (1, .int (nI k)), (2, .ref rw), (3, .int (nI st))] := hl
  have f6w := f6
  refine lv_iconst (v := (nI 0)) hx hb d_M_copyEntriesOf_0 (by decide) ?_
  refine lv_istore (lv' := [(4, .int (nI 0)), (0, .ref h), (1, .int (nI k)), (2, .ref rw), (3, .int (nI st))]) hx hb d_M_copyEntriesOf_1 hl (by decide) rfl (fun ls hl => ?_)
  refine lv_aload_n hx hb d_M_copyEntriesOf_3 rfl (lv_at hl 1 rfl) ?_
  refine va_get (D := (dC, dI)) (ci := 0) (v := .int (nI pl.length)) (C := R_M) (T := F_M) (N := 4) hx hb hg in_M hown hK (hP.one f1) 0 rfl rfl 2 (by decide) (hg _ k_118) (fun _ h9 => h9) rfl d_M_copyEntriesOf_4 ?_
  refine lv_iconst (v := (nI 1)) hx hb d_M_copyEntriesOf_7 (by decide) ?_
  refine lv_isub hx hb d_M_copyEntriesOf_8 ?_
  refine lv_istore (lv' := [(5, .int ((nI pl.length) - (nI 1))), (4, .int (nI 0)), (0, .ref h), (1, .int (nI k)), (2, .ref rw), (3, .int (nI st))]) hx hb d_M_copyEntriesOf_9 hl (by decide) rfl (fun ls hl => ?_)
  have hl : lv_has ls 7 [(5, .int (mI pl.length)), (4, .int (nI ((roL pl (fun t => ow t == k) pl.length).length))), (0, .ref h), (1, .int (nI k)), (2, .ref rw), (3, .int (nI st))] := by rw [roL_end]; exact hl
  suffices lp : ∀ (n : Nat) (m1 : Nat) (fx : Nat → Option Nat), (m1 ≤ pl.length) → (cP (fun j => fx (st + j)) (roL pl (fun t => ow t == k) m1)) → (∀ z, (z < st ∨ st + 16 ≤ z) → fx z = fr z) → (m1 < n) → ∀ (wl : fw_W) (H : Heap) (locs : List Loc), (wl h = some (.inr (0, [.ref tr, .ref ca, .int (nI pl.length), .ref ta]))) → (wl tr = some (.inl (dA 3, 24, .inr (.inr (.inr (.inr ft)))))) → (wl ca = some (.inl (dA 3, 16, .inr (.inr (.inr (.inr fc)))))) → (wl ta = some (.inl (dA 0, 11, .inl fa))) → (wl rw = some (.inl (dA 3, 192, .inr (.inr (.inr (.inr fx)))))) → (∀ z, z ≠ rw → wl z = w z) → fw_P (dC, dI) cls_ (AA s0) wl H → va_S (AA s0) s.heap H locs → ∀ (ls : Array Slot), lv_has ls 7 [(0, .ref h), (1, .int (nI k)), (2, .ref rw), (3, .int (nI st)), (4, .int (nI ((roL pl (fun t => ow t == k) m1).length))), (5, .int (mI m1))] → W p l e _ s m args below meth c H locs 0 0 (MQ below _ args s 0 0 (AA s0)) (F0 m 11 ls []) from lp (pl.length + 1) pl.length fr (Nat.le_refl _) (by rw [roL_end]; intro j t hj; simp at hj) (fun z _ => rfl) (by omega) _ _ _ f1 f2 f3 f4 f6 (fun z _ => rfl) hP hS ls (lv_sub hl [2, 3, 4, 5, 1, 0] rfl)
  intro n
  induction n with
  | zero => intro m1 fx hm hf1 hf2 hbn; exact absurd hbn (by omega)
  | succ n ih =>
    intro m1 fx hm hf1 hf2 hbn wl H locs f1 f2 f3 f4 f6 hfr hP hS ls hl
    have hrl := roL_len pl (fun t => ow t == k) m1
    refine lv_iload hx hb d_M_copyEntriesOf_11 (lv_at hl 5 rfl) ?_
    refine lv_if_lt (tgt := 55) hx hb d_M_copyEntriesOf_13 (by decide) (fun c1 => ?_) (fun c1 => ?_)
    · refine lv_iload hx hb d_M_copyEntriesOf_55 (lv_at hl 4 rfl) ?_
      obtain rfl : m1 = 0 := by
        rcases m1 with _ | m2
        · rfl
        · rw [mI_s] at c1; exact absurd c1 (nI_pos (by omega))
      rw [roL_0] at hf1
      rw [roL_0]
      exact W.iret (v := (nI (((pl.filter (fun t => ow t == k)).reverse).length))) hx hb hr (fun tS ht hW => ⟨⟨(nI (((pl.filter (fun t => ow t == k)).reverse).length)), wl, rfl, ⟨rfl, ⟨fx, f6, hf1, hf2⟩, hfr⟩, mB_of ht hP⟩, hS.F ht⟩) hS.2.2 d_M_copyEntriesOf_57
    · rcases m1 with _ | m2
      · exact absurd mI_0 c1
      rw [mI_s] at hl
      obtain ⟨t9, ht9⟩ : ∃ t, pl[m2]? = some t := ⟨_, List.getElem?_eq_getElem (by omega)⟩
      obtain ⟨x1, x2, x3, x4, f5⟩ := hO t9 (List.mem_of_getElem? ht9)
      have ho9 := hok t9 (List.mem_of_getElem? ht9)
      rw [← hfr t9 (fw_ne f5 f6w (by simp))] at f5
      refine lv_aload_n hx hb d_M_copyEntriesOf_16 rfl (lv_at hl 0 rfl) ?_
      refine lv_iload hx hb d_M_copyEntriesOf_17 (lv_at hl 5 rfl) ?_
      refine va_callq (rn_V (n := 1) (As := [.int (nI m2)]) (rest := []) (C := R_M) (T := F_M) (N := 4) (ci := 0) X hP hS (c_M_entryIn B0 wl h tr ca ta fc pl.length m2 f1 f3 h16 (by omega)) k_282 k_284 k_6 k_56 k_285 (by decide +kernel) rfl rfl ⟨Nat.le_of_ble_eq_true rfl, Nat.le_of_ble_eq_true rfl⟩ f1 rfl rfl hl.1 rfl (Nat.le_of_ble_eq_true rfl) d_M_copyEntriesOf_19 ⟨Nat.le_of_ble_eq_true rfl, Nat.le_of_ble_eq_true rfl⟩) hS (fun q _ h => h) (fun q h => h) (fun r w27 tS H locs ht hvm hw hB hz1 hk1 hS => ?_)
      have hP : fw_P (dC, dI) cls_ (AA s0) w27 H := by rw [← ht]; exact hB
      obtain ⟨ew9, er9⟩ := hw
      rw [ew9] at hP
      rw [er9, hpl m2 t9 ht9]
      refine lv_astore (lv' := [(6, .ref t9), (0, .ref h), (1, .int (nI k)), (2, .ref rw), (3, .int (nI st)), (4, .int (nI ((roL pl (fun t => ow t == k) (m2 + 1)).length))), (5, .int (nI m2))]) hx hb d_M_copyEntriesOf_22 hl (by decide) rfl (fun ls hl => ?_)
      refine lv_aload hx hb d_M_copyEntriesOf_24 (lv_at hl 0 rfl) ?_
      refine lv_ifnull hx hb d_M_copyEntriesOf_26 ?_
      refine lv_aload hx hb d_M_copyEntriesOf_29 (lv_at hl 0 rfl) ?_
      refine va_getN (D := (dC, dI)) (ci := 3) (v := .int (nI (ow t9))) (C := R_T) (T := F_T) (N := 5) hx hb hg in_T hown hK (hP.one f5) 0 rfl rfl 0 (by decide) (hn _ u_403) (fun _ h9 => h9) rfl d_M_copyEntriesOf_31 ?_
      refine lv_iload_n hx hb d_M_copyEntriesOf_34 rfl (lv_at hl 2 rfl) ?_
      refine nu_ne (tgt := 49) hx hb (by omega) (by omega) d_M_copyEntriesOf_35 (by decide) (fun c2 => ?_) (fun c2 => ?_)
      · refine lv_iinc (v := mI m2) (lv' := [(5, .int (mI m2)), (6, .ref t9), (0, .ref h), (1, .int (nI k)), (2, .ref rw), (3, .int (nI st)), (4, .int (nI ((roL pl (fun t => ow t == k) (m2 + 1)).length)))]) hx hb d_M_copyEntriesOf_49 hl (k := 6) rfl (mI_dec m2) (by decide) rfl (fun ls hl => ?_)
        refine lv_goto (tgt := 11) hx hb d_M_copyEntriesOf_52 (by decide) ?_
        have hs9 := roL_no (p := (fun t => ow t == k)) ht9 (by simp [c2])
        rw [← hs9] at hl hf1
        exact ih m2 fx (by omega) hf1 hf2 (by omega) _ _ _ f1 f2 f3 f4 f6 hfr hP hS ls (lv_sub hl [2, 3, 4, 5, 6, 0] rfl)
      · refine lv_aload_n hx hb d_M_copyEntriesOf_38 rfl (lv_at hl 3 rfl) ?_
        refine lv_iload_n hx hb d_M_copyEntriesOf_39 rfl (lv_at hl 4 rfl) ?_
        refine lv_iload hx hb d_M_copyEntriesOf_40 (lv_at hl 5 rfl) ?_
        refine nu_iadd (r := st + ((roL pl (fun t => ow t == k) (m2 + 1)).length)) hx hb d_M_copyEntriesOf_42 (by omega) ?_
        refine lv_aload hx hb d_M_copyEntriesOf_43 (lv_at hl 0 rfl) ?_
        refine fw_astq (tys := tyl dA) (r := (R_T, F_T, 5)) hx hb hK hP hS f6 3 rfl 3 f5 rfl (j := st + ((roL pl (fun t => ow t == k) (m2 + 1)).length)) (by omega) (by decide) d_M_copyEntriesOf_45 (fun w28 H locs ew29 hP hS => ?_)
        have f1 : w28 h = some (.inr (0, [.ref tr, .ref ca, .int (nI pl.length), .ref ta])) := by rw [ew29, va_up_ne _ _ (fw_ne f1 f6 (by simp))]; exact f1
        have f2 : w28 tr = some (.inl (dA 3, 24, .inr (.inr (.inr (.inr ft))))) := by rw [ew29, va_up_ne _ _ (fw_ne f2 f6 (by simp))]; exact f2
        have f3 : w28 ca = some (.inl (dA 3, 16, .inr (.inr (.inr (.inr fc))))) := by rw [ew29, va_up_ne _ _ (Ne.symm (fw_ne f6 f3 (by simp)))]; exact f3
        have f4 : w28 ta = some (.inl (dA 0, 11, .inl fa)) := by rw [ew29, va_up_ne _ _ (fw_ne f4 f6 (by simp))]; exact f4
        have f5 : w28 t9 = some (.inr (3, [.int (nI (ow t9)), x1, x2, x3, x4])) := by rw [ew29, va_up_ne _ _ (fw_ne f5 f6 (by simp))]; exact f5
        have f6 : w28 rw = some (.inl (dA 3, 192, .inr (.inr (.inr (.inr (va_up fx (st + ((roL pl (fun t => ow t == k) (m2 + 1)).length)) (some t9))))))) := by rw [ew29]; exact va_up_self _ _ _
        refine lv_iinc (v := nI ((roL pl (fun t => ow t == k) (m2 + 1)).length + 1)) (lv' := [(4, .int (nI ((roL pl (fun t => ow t == k) (m2 + 1)).length + 1))), (6, .ref t9), (0, .ref h), (1, .int (nI k)), (2, .ref rw), (3, .int (nI st)), (5, .int (nI m2))]) hx hb d_M_copyEntriesOf_46 hl (k := 5) rfl (nI_add _ 1) (by decide) rfl (fun ls hl => ?_)
        refine lv_iinc (v := mI m2) (lv' := [(5, .int (mI m2)), (4, .int (nI ((roL pl (fun t => ow t == k) (m2 + 1)).length + 1))), (6, .ref t9), (0, .ref h), (1, .int (nI k)), (2, .ref rw), (3, .int (nI st))]) hx hb d_M_copyEntriesOf_49 hl (k := 6) rfl (mI_dec m2) (by decide) rfl (fun ls hl => ?_)
        refine lv_goto (tgt := 11) hx hb d_M_copyEntriesOf_52 (by decide) ?_
        have hs9 := roL_yes (p := (fun t => ow t == k)) ht9 (by simp [c2])
        have hs8 : (roL pl (fun t => ow t == k) m2).length = (roL pl (fun t => ow t == k) (m2 + 1)).length + 1 := by rw [hs9, List.length_append]; rfl
        rw [← hs8] at hl
        exact ih m2 (va_up fx (st + (roL pl (fun t => ow t == k) (m2 + 1)).length) (some t9)) (by omega) (by rw [hs9]; exact cP_row hf1) (fun z hz => by rw [va_up_ne _ _ (by omega)]; exact hf2 z hz) (by omega) _ _ _ f1 f2 f3 f4 f6 (fun z z1 => by rw [ew29, va_up_ne _ _ z1]; exact hfr z z1) hP hS ls (lv_sub hl [3, 4, 5, 6, 1, 0] rfl)
set_option maxHeartbeats 4000000 in
set_option maxRecDepth 100000 in
theorem c_M_init {l : Launch} {s0 : State} {dC : Nat → ClassId} {dI : Nat → Nat → Nat} {dA : Nat → ClassId} (B0 : BB s0 dC dI dA) (w : fw_W) (h : Nat) (f1 : w h = some (.inr (0, [.null, .null, .int 0, .null]))) : Met l y_M_init [.code y_M_init b_M_init 1 none] ({ frames := 1, cells := 3, slots := 51, locals := 12 }) (mP s0 dC dI w [.ref h]) (mQv s0 dC dI (fun w' => ∃ tr ca ta : Nat, w tr = none ∧ w ca = none ∧ w ta = none ∧ aM dA w' h tr ca ta (fun _ => none) [] (fun _ => 0) ∧ ∀ z, z ≠ h → z ≠ tr → z ≠ ca → z ≠ ta → w' z = w z)) 3 51 (AA s0) := by
  refine mt_ofW B0 (by decide) (Nat.le_of_ble_eq_true rfl) (fun p e s m args below meth c ls hargs X hin hl hP => ?_)
  have X9 := X
  obtain ⟨hx, hb, hr, hml, hown, hg, hK, hn, hE, hlocks, hA⟩ := X9
  have hS : va_S (AA s0) s.heap s.heap [] := va_S.rf
  have hl : lv_has ls 1 [(0, .ref h)] := hl
  refine lv_aload_n hx hb d_M_init_0 rfl (lv_at hl 0 rfl) ?_
  refine W.objInit hx hb hown (hg _ k_113) (hg _ k_74) (hg _ k_75) rfl (by rw [hml]; exact hl.1) rfl d_M_init_1 (Nat.le_of_ble_eq_true rfl) (Nat.le_of_ble_eq_true rfl) ?_
  refine W.eq (g2 := F0 m 4 ls []) rfl ?_
  refine lv_aload_n hx hb d_M_init_4 rfl (lv_at hl 0 rfl) ?_
  refine lv_bipush (v := (nI 24)) hx hb d_M_init_5 (by decide) ?_
  refine fw_newq (tys := tyl dA) (C := R_T) (N' := 24) hx hb hown (hg _ k_114) (hE.ao B0) hK hP hS hA 3 rfl (by decide) (by decide) (by decide) (Nat.le_of_ble_eq_true rfl) (Nat.le_of_ble_eq_true rfl) d_M_init_7 (fun q30 w31 H hn33 ew32 hP hS => ?_)
  have f1 : w31 h = some (.inr (0, [.null, .null, .int 0, .null])) := by rw [ew32, va_up_ne _ _ (fw_neN f1 hn33)]; exact f1
  have f34 : w31 q30 = some (.inl (dA 3, 24, .inr (.inr (.inr (.inr (fun _ => none)))))) := by rw [ew32]; exact va_up_self _ _ _
  refine fw_putF (D := (dC, dI)) (ci := 0) (v := .ref q30) (ty := (.array (.object "TraceBuilder$Trace"))) (C := R_M) (T := F_M) (N := 4) hx hb hg in_M ft_M ft_M_ok n_M hown hK hP hS f1 rfl 0 (by decide) (hg _ k_116) (fun _ h9 => h9) rfl (hin rfl) rfl (by decide +kernel) rfl rfl (Nat.le_of_ble_eq_true rfl) d_M_init_10 (fun w35 H locs ew36 hP hS => ?_)
  have f34 : w35 q30 = some (.inl (dA 3, 24, .inr (.inr (.inr (.inr (fun _ => none)))))) := by rw [ew36, va_up_ne _ _ (fw_ne f34 f1 (by simp))]; exact f34
  have f1 : w35 h = some (.inr (0, [.ref q30, .null, .int 0, .null])) := by rw [ew36]; exact va_up_self _ _ _
  refine lv_aload_n hx hb d_M_init_13 rfl (lv_at hl 0 rfl) ?_
  refine lv_bipush (v := (nI 16)) hx hb d_M_init_14 (by decide) ?_
  refine fw_newq (tys := tyl dA) (C := R_T) (N' := 16) hx hb hown (hg _ k_114) (hE.ao B0) hK hP hS hA 3 rfl (by decide) (by decide) (by decide) (Nat.le_of_ble_eq_true rfl) (Nat.le_of_ble_eq_true rfl) d_M_init_16 (fun q37 w38 H hn40 ew39 hP hS => ?_)
  have f1 : w38 h = some (.inr (0, [.ref q30, .null, .int 0, .null])) := by rw [ew39, va_up_ne _ _ (fw_neN f1 hn40)]; exact f1
  have f34 : w38 q30 = some (.inl (dA 3, 24, .inr (.inr (.inr (.inr (fun _ => none)))))) := by rw [ew39, va_up_ne _ _ (fw_neN f34 hn40)]; exact f34
  have f41 : w38 q37 = some (.inl (dA 3, 16, .inr (.inr (.inr (.inr (fun _ => none)))))) := by rw [ew39]; exact va_up_self _ _ _
  refine fw_putF (D := (dC, dI)) (ci := 0) (v := .ref q37) (ty := (.array (.object "TraceBuilder$Trace"))) (C := R_M) (T := F_M) (N := 4) hx hb hg in_M ft_M ft_M_ok n_M hown hK hP hS f1 rfl 1 (by decide) (hg _ k_117) (fun _ h9 => h9) rfl (hin rfl) rfl (by decide +kernel) rfl rfl (Nat.le_of_ble_eq_true rfl) d_M_init_19 (fun w42 H locs ew43 hP hS => ?_)
  have f34 : w42 q30 = some (.inl (dA 3, 24, .inr (.inr (.inr (.inr (fun _ => none)))))) := by rw [ew43, va_up_ne _ _ (fw_ne f34 f1 (by simp))]; exact f34
  have f41 : w42 q37 = some (.inl (dA 3, 16, .inr (.inr (.inr (.inr (fun _ => none)))))) := by rw [ew43, va_up_ne _ _ (fw_ne f41 f1 (by simp))]; exact f41
  have f1 : w42 h = some (.inr (0, [.ref q30, .ref q37, .int 0, .null])) := by rw [ew43]; exact va_up_self _ _ _
  refine lv_aload_n hx hb d_M_init_22 rfl (lv_at hl 0 rfl) ?_
  refine lv_bipush (v := (nI 11)) hx hb d_M_init_23 (by decide) ?_
  refine fw_newa (tys := tyl dA) (atype := .int) (N' := 11) (a0 := (11, .inl (fun _ => 0))) hx hb (hg _ k_106) rfl hK hP hS hA 0 rfl (fun _ => rfl) (by decide) (by decide) (by decide) (Nat.le_of_ble_eq_true rfl) (Nat.le_of_ble_eq_true rfl) d_M_init_25 (fun q44 w45 H hn47 ew46 hP hS => ?_)
  have f1 : w45 h = some (.inr (0, [.ref q30, .ref q37, .int 0, .null])) := by rw [ew46, va_up_ne _ _ (fw_neN f1 hn47)]; exact f1
  have f34 : w45 q30 = some (.inl (dA 3, 24, .inr (.inr (.inr (.inr (fun _ => none)))))) := by rw [ew46, va_up_ne _ _ (fw_neN f34 hn47)]; exact f34
  have f41 : w45 q37 = some (.inl (dA 3, 16, .inr (.inr (.inr (.inr (fun _ => none)))))) := by rw [ew46, va_up_ne _ _ (fw_neN f41 hn47)]; exact f41
  have f48 : w45 q44 = some (.inl (dA 0, 11, .inl (fun _ => 0))) := by rw [ew46]; exact va_up_self _ _ _
  refine fw_putF (D := (dC, dI)) (ci := 0) (v := .ref q44) (ty := (.array .int)) (C := R_M) (T := F_M) (N := 4) hx hb hg in_M ft_M ft_M_ok n_M hown hK hP hS f1 rfl 3 (by decide) (hg _ k_120) (fun _ h9 => h9) rfl (hin rfl) rfl (by decide +kernel) rfl rfl (Nat.le_of_ble_eq_true rfl) d_M_init_27 (fun w49 H locs ew50 hP hS => ?_)
  have f34 : w49 q30 = some (.inl (dA 3, 24, .inr (.inr (.inr (.inr (fun _ => none)))))) := by rw [ew50, va_up_ne _ _ (fw_ne f34 f1 (by simp))]; exact f34
  have f41 : w49 q37 = some (.inl (dA 3, 16, .inr (.inr (.inr (.inr (fun _ => none)))))) := by rw [ew50, va_up_ne _ _ (fw_ne f41 f1 (by simp))]; exact f41
  have f48 : w49 q44 = some (.inl (dA 0, 11, .inl (fun _ => 0))) := by rw [ew50, va_up_ne _ _ (fw_ne f48 f1 (by simp))]; exact f48
  have f1 : w49 h = some (.inr (0, [.ref q30, .ref q37, .int 0, .ref q44])) := by rw [ew50]; exact va_up_self _ _ _
  have zq30 : w q30 = none := by
    have a9 := hn33
    exact a9
  have zq37 : w q37 = none := by
    have a9 := hn40
    rw [ew36] at a9
    have b9 : q37 ≠ h := fun e9 => by rw [e9, va_up_self] at a9; cases a9
    rw [va_up_ne _ _ b9] at a9
    rw [ew32] at a9
    have b9 : q37 ≠ q30 := fun e9 => by rw [e9, va_up_self] at a9; cases a9
    rw [va_up_ne _ _ b9] at a9
    exact a9
  have zq44 : w q44 = none := by
    have a9 := hn47
    rw [ew43] at a9
    have b9 : q44 ≠ h := fun e9 => by rw [e9, va_up_self] at a9; cases a9
    rw [va_up_ne _ _ b9] at a9
    rw [ew39] at a9
    have b9 : q44 ≠ q37 := fun e9 => by rw [e9, va_up_self] at a9; cases a9
    rw [va_up_ne _ _ b9] at a9
    rw [ew36] at a9
    have b9 : q44 ≠ h := fun e9 => by rw [e9, va_up_self] at a9; cases a9
    rw [va_up_ne _ _ b9] at a9
    rw [ew32] at a9
    have b9 : q44 ≠ q30 := fun e9 => by rw [e9, va_up_self] at a9; cases a9
    rw [va_up_ne _ _ b9] at a9
    exact a9
  exact W.vret hx hb hr (fun tS ht hW => ⟨⟨w49, rfl, ⟨q30, q37, q44, zq30, zq37, zq44, ⟨fun _ => none, f1, f34, f41, f48, by decide, fun i t hi => by simp at hi, fun _ _ _ => rfl⟩, (fun z z1 z2 z3 z4 => by rw [ew50, va_up_ne _ _ z1, ew46, va_up_ne _ _ z4, ew43, va_up_ne _ _ z1, ew39, va_up_ne _ _ z3, ew36, va_up_ne _ _ z1, ew32, va_up_ne _ _ z2])⟩, mB_of ht hP⟩, hS.F ht⟩) hS.2.2 d_M_init_30
