section CT
variable {w0 w1 : fw_W} {h q : Nat} {v : va_E} {L : List Nat}
theorem st_put (ew : w1 = va_up w0 h (some v)) : ∀ (z : Nat) (e : va_E), w0 z = some e → z ≠ h → w1 z = some e := fun z e a b => by rw [ew, va_up_ne _ _ b]; exact a
theorem st_new (ew : w1 = va_up w0 q (some v)) (hn : w0 q = none) : ∀ (z : Nat) (e : va_E), w0 z = some e → w1 z = some e := fun z e a => by
  rw [ew, va_up_ne _ _ (fun e9 => by rw [e9, hn] at a; cases a)]; exact a
theorem al_put (al : ∀ z ∈ L, w0 z ≠ none) (ew : w1 = va_up w0 q (some v)) : ∀ z ∈ L, w1 z ≠ none := fun z hz => by
  rw [ew]
  by_cases e : z = q
  · rw [e, va_up_self]; simp
  · rw [va_up_ne _ _ e]; exact al z hz
theorem al_new (al : ∀ z ∈ L, w0 z ≠ none) (ew : w1 = va_up w0 q (some v)) : ∀ z ∈ q :: L, w1 z ≠ none := fun z hz => by
  rcases List.mem_cons.mp hz with e | hz
  · rw [e, ew, va_up_self]; simp
  · exact al_put al ew z hz
theorem nd_new (al : ∀ z ∈ L, w0 z ≠ none) (hn : w0 q = none) (nd : L.Nodup) : (q :: L).Nodup := List.nodup_cons.mpr ⟨fun h => al q h hn, nd⟩
theorem no_new {w : fw_W} (up : ∀ (z : Nat) (e : va_E), w z = some e → z ≠ h → w0 z = some e) (hn : w0 q = none) (al : w0 h ≠ none) : w q = none := by
  cases hw : w q with
  | none => rfl
  | some e =>
    have hq : q ≠ h := fun e9 => al (e9 ▸ hn)
    have := up q e hw hq
    rw [hn] at this; cases this
end CT
/-- the place of a field's array among 28, last made first; the object at the end -/
def ps (i : Nat) : Nat := if i < 16 then 27 - i else if i < 35 then 34 - i else 28
def mdL (L : List Nat) (i : Nat) : Nat := L.getD (ps i) 0
theorem mdL_inj {L : List Nat} (hl : L.length = 29) (nd : L.Nodup) : Inj37 (mdL L) := by
  intro i j hi hj e
  have hps : ∀ z, ps z < 29 := fun z => by
    unfold ps
    by_cases h1 : z < 16
    · rw [if_pos h1]; omega
    · rw [if_neg h1]
      by_cases h2 : z < 35
      · rw [if_pos h2]; omega
      · rw [if_neg h2]; omega
  have b1 := hps i
  have b2 := hps j
  unfold mdL at e
  rw [List.getD_eq_getElem?_getD, List.getD_eq_getElem?_getD, List.getElem?_eq_getElem (by omega), List.getElem?_eq_getElem (by omega)] at e
  have e' : ps i = ps j := (List.getElem_inj nd).mp e
  unfold ps at e'
  rcases hi with hi | hi | hi <;> rcases hj with hj | hj | hj
  · rw [if_pos hi, if_pos hj] at e'; omega
  · rw [if_pos hi, if_neg (by omega), if_pos (by omega)] at e'; omega
  · rw [if_pos hi, if_neg (by omega), if_neg (by omega)] at e'; omega
  · rw [if_neg (by omega), if_pos (by omega), if_pos hj] at e'; omega
  · rw [if_neg (by omega), if_pos (by omega), if_neg (by omega), if_pos (by omega)] at e'; omega
  · rw [if_neg (by omega), if_pos (by omega), if_neg (by omega), if_neg (by omega)] at e'; omega
  · rw [if_neg (by omega), if_neg (by omega), if_pos hj] at e'; omega
  · rw [if_neg (by omega), if_neg (by omega), if_neg (by omega), if_pos (by omega)] at e'; omega
  · omega
def μ_0 : MS := ((fun _ => 0, fun _ => 0, fun _ => 0, fun _ => 0), (fun _ => 0, fun _ => 0, fun _ => 0, fun _ => 0, fun _ => 0), (fun _ => 0, fun _ => 0, 0, fun _ => 0, 0), (fun _ => 0, fun _ => 0, 0, fun _ => 0, 0), (0, 0, false, fun _ => 0, fun _ => 0), (fun _ => 0, fun _ => 0, fun _ => 0, fun _ => 0, fun _ => 0, fun _ => 0, fun _ => 0, fun _ => 0, fun _ => 0, fun _ => 0, 0))
def β_0 : BS := (P_0, fun _ => none, [], fun _ => 0)
set_option maxHeartbeats 4000000 in
set_option maxRecDepth 100000 in
theorem c_D_init {l : Launch} {s0 : State} {dC : Nat → ClassId} {dI : Nat → Nat → Nat} {dA : Nat → ClassId} (B0 : BB s0 dC dI dA) (w : fw_W) (h : Nat) (f0 : w h = some (.inr (5, [.null, .null, .null, .null, .null, .null, .null, .null, .null, .null, .null, .null, .null, .null, .null, .null, .int 0, .int 0, .int 0, .int 0, .int 0, .int 0, .int 0, .null, .null, .null, .null, .null, .null, .null, .null, .null, .null, .null, .null, .int 0]))) : Met l y_D_init [.code y_D_init b_D_init 2 none] ({ frames := 1, cells := 28, slots := 9477, locals := 12 }) (mP s0 dC dI w [.ref h]) (mQv s0 dC dI (fun w' => ∃ (md : Nat → Nat) (μ : MS), Inj37 md ∧ md 36 = h ∧ (∀ i, U37 i → i ≠ 36 → w (md i) = none) ∧ RD dA md w' μ ∧ RQ β_0 μ ∧ ∀ (z : Nat) (e : va_E), w z = some e → z ≠ h → w' z = some e)) 28 9477 (AA s0) := by
  refine mt_ofW B0 (by decide) (Nat.le_of_ble_eq_true rfl) (fun p e s m args below meth c ls hargs X hin hl hP => ?_)
  have X9 := X
  obtain ⟨hx, hb, hr, hml, hown, hg, hK, hn, hE, hlocks, hA⟩ := X9
  have hS : va_S (AA s0) s.heap s.heap [] := va_S.rf
  have hl : lv_has ls 2 [(0, .ref h)] := hl
  have tail : ∀ (md : Nat → Nat), md 36 = h → Inj37 md → (∀ i, U37 i → i ≠ 36 → w (md i) = none) → ∀ (wE : fw_W) (H : Heap) (locs : List Loc) (ls : Array Slot), RD dA md wE μ_0 → (∀ (z : Nat) (e : va_E), w z = some e → z ≠ h → wE z = some e) → fw_P (dC, dI) cls_ (AA s0) wE H → va_S (AA s0) s.heap H locs → lv_has ls 2 [(0, .ref h), (1, .int (nI 0))] → W p l e ({ frames := 1, cells := 28, slots := 9477, locals := 12 }) s m args below meth c H locs 28 9477 (MQ below (mQv s0 dC dI (fun w' => ∃ (md : Nat → Nat) (μ : MS), Inj37 md ∧ md 36 = h ∧ (∀ i, U37 i → i ≠ 36 → w (md i) = none) ∧ RD dA md w' μ ∧ RQ β_0 μ ∧ ∀ (z : Nat) (e : va_E), w z = some e → z ≠ h → w' z = some e)) args s 28 9477 (AA s0)) (F0 m 237 ls []) := by
    intro md m36 hj hno wE H locs ls hD up hP hS hl
    subst m36
    suffices lp : ∀ (n : Nat) (i : Nat) (f9 : Nat → Int32) (g9 : Nat → Int32), (i ≤ 24) → (∀ j, j < i → f9 j = -1 ∧ g9 j = -1) → (24 < i + n) → ∀ (wl : fw_W) (H : Heap) (locs : List Loc), (RD dA md wl (u_od (u_mm μ_0 (f9, m_cch μ_0, m_cached μ_0, m_cnt μ_0, m_circ μ_0)) (g9, m_occh μ_0, m_ocached μ_0, m_ocnt μ_0, m_ocirc μ_0))) → (OutD md wE wl) → fw_P (dC, dI) cls_ (AA s0) wl H → va_S (AA s0) s.heap H locs → ∀ (ls : Array Slot), lv_has ls 2 [(0, .ref (md 36)), (1, .int (nI i))] → W p l e _ s m args below meth c H locs 28 9477 (MQ below _ args s 28 9477 (AA s0)) (F0 m 237 ls []) from lp 25 0 (m_trc μ_0) (m_otrc μ_0) (by omega) (fun j hj9 => by omega) (by omega) _ _ _  hD OutD.rf hP hS ls (lv_sub hl [0, 1] rfl)
    intro n
    induction n with
    | zero => intro i f9 g9 hi hf9 hbn; exact absurd hbn (by omega)
    | succ n ih =>
      intro i f9 g9 hi hf9 hbn wl H locs  hR9 ho9 hP hS ls hl
      obtain ⟨r36, r0, r1, r2, r3, r4, r5, r6, r7, r8, ⟨u, r9⟩, r10, r11, r12, r13, r14, r15, r23, r24, r25, r26, r27, r28, r29, r30, r31, r32, r33, r34⟩ := (id hR9)
      refine lv_iload_n hx hb d_D_init_237 rfl (lv_at hl 1 rfl) ?_
      refine lv_bipush (v := (nI 24)) hx hb d_D_init_238 (by decide) ?_
      refine nu_ge (tgt := 263) hx hb (by omega) (by omega) d_D_init_240 (by decide) (fun c1 => ?_) (fun c1 => ?_)
      · have hi9 : i = 24 := by omega
        rw [hi9] at hf9
        have hq9 : RQ β_0 (u_od (u_mm μ_0 (f9, m_cch μ_0, m_cached μ_0, m_cnt μ_0, m_circ μ_0)) (g9, m_occh μ_0, m_ocached μ_0, m_ocnt μ_0, m_ocirc μ_0)) := by
          refine ⟨fun k hk => ⟨rfl, fun h => (by cases h), fun h => (by cases h)⟩, ⟨fun i hi => Or.inl ⟨rfl, (hf9 i hi).1⟩, (show (0 : Nat) ≤ 16 by omega), ⟨rfl, fun i T hT => (by cases hT)⟩⟩, ⟨fun j _ => rfl, rfl⟩, fun i hi => (hf9 i hi).2, rfl, fun f _ => (show (0 : Nat) < 320 by omega)⟩
        have hfr : ∀ (z : Nat) (e : va_E), w z = some e → z ≠ md 36 → wl z = some e := fun z e a b => (ho9 z (fun i hi e9 => by
            by_cases h36 : i = 36
            · rw [h36] at e9; exact b e9
            · rw [e9, hno i hi h36] at a; cases a)).trans (up z e a b)
        exact W.vret hx hb hr (fun tS ht hW => ⟨⟨wl, rfl, ⟨md, (u_od (u_mm μ_0 (f9, m_cch μ_0, m_cached μ_0, m_cnt μ_0, m_circ μ_0)) (g9, m_occh μ_0, m_ocached μ_0, m_ocnt μ_0, m_ocirc μ_0)), hj, rfl, hno, hR9, hq9, hfr⟩, mB_of ht hP⟩, hS.F ht⟩) hS.2.2 d_D_init_263
      · refine lv_aload_n hx hb d_D_init_243 rfl (lv_at hl 0 rfl) ?_
        have r36 : wl (md 36) = some (.inr (5, [.ref (md 0), .ref (md 1), .ref (md 2), .ref (md 3), .ref (md 4), .ref (md 5), .ref (md 6), .ref (md 7), .ref (md 8), .ref (md 9), .ref (md 10), .ref (md 11), .ref (md 12), .ref (md 13), .ref (md 14), .ref (md 15), .int (nI (m_cached μ_0)), .int (nI (m_ocached μ_0)), .int (m_circ μ_0), .int (m_ocirc μ_0), .int (nI (m_thr μ_0)), .int (nI (m_wkr μ_0)), .int (nI (m_ran μ_0).toNat), .ref (md 23), .ref (md 24), .ref (md 25), .ref (md 26), .ref (md 27), .ref (md 28), .ref (md 29), .ref (md 30), .ref (md 31), .ref (md 32), .ref (md 33), .ref (md 34), .int (nI (m_hgt μ_0))])) := r36
        refine va_get (D := (dC, dI)) (ci := 5) (v := .ref (md 10)) (C := R_D) (T := F_D) (N := 36) hx hb hg in_D hown hK (hP.one r36) 0 rfl rfl 10 (by decide) (hg _ k_601) (fun _ h9 => h9) rfl d_D_init_244 ?_
        refine lv_iload_n hx hb d_D_init_247 rfl (lv_at hl 1 rfl) ?_
        refine lv_aload_n hx hb d_D_init_248 rfl (lv_at hl 0 rfl) ?_
        refine va_get (D := (dC, dI)) (ci := 5) (v := .ref (md 11)) (C := R_D) (T := F_D) (N := 36) hx hb hg in_D hown hK (hP.one r36) 0 rfl rfl 11 (by decide) (hg _ k_602) (fun _ h9 => h9) rfl d_D_init_249 ?_
        refine lv_iload_n hx hb d_D_init_252 rfl (lv_at hl 1 rfl) ?_
        refine lv_iconst (v := (-1)) hx hb d_D_init_253 (by decide) ?_
        refine lv_dup_x2 hx hb d_D_init_254 rfl rfl rfl ?_
        have r11 : wl (md 11) = some (.inl (dA 0, 24, .inl g9)) := r11
        refine fw_iast (tys := tyl dA) hx hb hK hP hS r11 0 rfl (j := i) (x := (-1)) (by omega) (by decide) d_D_init_255 (fun w1 H locs ew2 hP hS => ?_)
        have r11 : w1 (md 11) = some (.inl (dA 0, 24, .inl (upd g9 i (-1)))) := by rw [ew2]; exact va_up_self _ _ _
        have ho3 : OutD md wE w1 := OutD.up ho9 ew2 (by decide)
        have r10 : w1 (md 10) = some (.inl (dA 0, 24, .inl f9)) := by rw [ew2, va_up_ne _ _ (hj.ne (i := 10) (j := 11) (by decide) (by decide) (by decide))]; exact r10
        refine fw_iast (tys := tyl dA) hx hb hK hP hS r10 0 rfl (j := i) (x := (-1)) (by omega) (by decide) d_D_init_256 (fun w4 H locs ew5 hP hS => ?_)
        have r10 : w4 (md 10) = some (.inl (dA 0, 24, .inl (upd f9 i (-1)))) := by rw [ew5]; exact va_up_self _ _ _
        have ho6 : OutD md wE w4 := OutD.up ho3 ew5 (by decide)
        refine lv_iinc (v := nI (i + 1)) (lv' := [(1, .int (nI (i + 1))), (0, .ref (md 36))]) hx hb d_D_init_257 hl (k := 1) rfl (nI_add _ 1) (by decide) rfl (fun ls hl => ?_)
        refine lv_goto (tgt := 237) hx hb d_D_init_260 (by decide) ?_
        have hk7 : ∀ i, U37 i → i ∉ [10, 11] → w4 (md i) = wl (md i) := fun i hi hn => by rw [ew5, va_up_ne _ _ (hj.ne hi (j := 10) (by decide) (fun e9 => hn (by rw [e9]; decide))), ew2, va_up_ne _ _ (hj.ne hi (j := 11) (by decide) (fun e9 => hn (by rw [e9]; decide)))]
        have hk8 : ∀ i, U37 i → i ∉ [10] → w4 (md i) = w1 (md i) := fun i hi hn => by rw [ew5, va_up_ne _ _ (hj.ne hi (j := 10) (by decide) (fun e9 => hn (by rw [e9]; decide)))]
        exact ih (i + 1) (upd f9 i (-1)) (upd g9 i (-1)) (by omega) (fun j hj9 => (Nat.lt_or_ge j i).elim (fun h9 => ⟨(pk_un (by omega)).trans (hf9 j h9).1, (pk_un (by omega)).trans (hf9 j h9).2⟩) (fun h9 => by rw [show j = i by omega, pk_us, pk_us]; exact ⟨rfl, rfl⟩)) (by omega) _ _ _  (⟨(hk7 36 (by decide) (by decide)).trans r36, (hk7 0 (by decide) (by decide)).trans r0, (hk7 1 (by decide) (by decide)).trans r1, (hk7 2 (by decide) (by decide)).trans r2, (hk7 3 (by decide) (by decide)).trans r3, (hk7 4 (by decide) (by decide)).trans r4, (hk7 5 (by decide) (by decide)).trans r5, (hk7 6 (by decide) (by decide)).trans r6, (hk7 7 (by decide) (by decide)).trans r7, (hk7 8 (by decide) (by decide)).trans r8, ⟨_, (hk7 9 (by decide) (by decide)).trans r9⟩, r10, (hk8 11 (by decide) (by decide)).trans r11, (hk7 12 (by decide) (by decide)).trans r12, (hk7 13 (by decide) (by decide)).trans r13, (hk7 14 (by decide) (by decide)).trans r14, (hk7 15 (by decide) (by decide)).trans r15, (hk7 23 (by decide) (by decide)).trans r23, (hk7 24 (by decide) (by decide)).trans r24, (hk7 25 (by decide) (by decide)).trans r25, (hk7 26 (by decide) (by decide)).trans r26, (hk7 27 (by decide) (by decide)).trans r27, (hk7 28 (by decide) (by decide)).trans r28, (hk7 29 (by decide) (by decide)).trans r29, (hk7 30 (by decide) (by decide)).trans r30, (hk7 31 (by decide) (by decide)).trans r31, (hk7 32 (by decide) (by decide)).trans r32, (hk7 33 (by decide) (by decide)).trans r33, (hk7 34 (by decide) (by decide)).trans r34⟩) ho6 hP hS ls (lv_sub hl [1, 0] rfl)
  have nd : List.Nodup [h] := by simp
  have al : ∀ z ∈ [h], w z ≠ none := fun z hz => by rw [List.mem_singleton.mp hz, f0]; simp
  have up : ∀ (z : Nat) (e : va_E), w z = some e → z ≠ h → w z = some e := fun z e a _ => a
  refine lv_aload_n hx hb d_D_init_0 rfl (lv_at hl 0 rfl) ?_
  refine W.objInit hx hb hown (hg _ k_590) (hg _ k_74) (hg _ k_75) rfl (by rw [hml]; exact hl.1) rfl d_D_init_1 (Nat.le_of_ble_eq_true rfl) (Nat.le_of_ble_eq_true rfl) ?_
  refine W.eq (g2 := F0 m 4 ls []) rfl ?_
  refine lv_aload_n hx hb d_D_init_4 rfl (lv_at hl 0 rfl) ?_
  refine lv_bipush (v := (nI 12)) hx hb d_D_init_5 (by decide) ?_
  refine fw_newa (tys := tyl dA) (atype := .int) (N' := 12) (a0 := (12, .inl (fun _ => 0))) hx hb (hg _ k_106) rfl hK hP hS hA 0 rfl (fun _ => rfl) (by decide) (by decide) (by decide) (Nat.le_of_ble_eq_true rfl) (Nat.le_of_ble_eq_true rfl) d_D_init_7 (fun q9 w10 H hn12 ew11 hP hS => ?_)
  have S14 := st_new ew11 hn12
  have f13 : w10 q9 = some (.inl (dA 0, 12, .inl (fun _ => 0))) := by rw [ew11]; exact va_up_self _ _ _
  have zn_q9 : w q9 = none := no_new (h := h) up hn12 (by rw [f0]; simp)
  have nh_q9 : q9 ≠ h := fun e9 => by rw [e9, f0] at hn12; cases hn12
  have f0 : w10 h = some (.inr (5, [.null, .null, .null, .null, .null, .null, .null, .null, .null, .null, .null, .null, .null, .null, .null, .null, .int 0, .int 0, .int 0, .int 0, .int 0, .int 0, .int 0, .null, .null, .null, .null, .null, .null, .null, .null, .null, .null, .null, .null, .int 0])) := S14 _ _ f0
  have nd : List.Nodup [q9, h] := nd_new al hn12 nd
  have al : ∀ z ∈ [q9, h], w10 z ≠ none := al_new al ew11
  have up : ∀ (z : Nat) (e : va_E), w z = some e → z ≠ h → w10 z = some e := fun z e a b => S14 z e (up z e a b)
  refine fw_putF (D := (dC, dI)) (ci := 5) (v := .ref q9) (ty := (.array .int)) (C := R_D) (T := F_D) (N := 36) hx hb hg in_D ft_D ft_D_ok n_D hown hK hP hS f0 rfl 0 (by decide) (hg _ k_591) (fun _ h9 => h9) rfl (hin rfl) rfl (by decide +kernel) rfl rfl (Nat.le_of_ble_eq_true rfl) d_D_init_9 (fun w15 H locs ew16 hP hS => ?_)
  have S17 := st_put ew16
  have f0 : w15 h = some (.inr (5, [.ref q9, .null, .null, .null, .null, .null, .null, .null, .null, .null, .null, .null, .null, .null, .null, .null, .int 0, .int 0, .int 0, .int 0, .int 0, .int 0, .int 0, .null, .null, .null, .null, .null, .null, .null, .null, .null, .null, .null, .null, .int 0])) := by rw [ew16]; exact va_up_self _ _ _
  have al : ∀ z ∈ [q9, h], w15 z ≠ none := al_put al ew16
  have up : ∀ (z : Nat) (e : va_E), w z = some e → z ≠ h → w15 z = some e := fun z e a b => S17 z e (up z e a b) b
  refine lv_aload_n hx hb d_D_init_12 rfl (lv_at hl 0 rfl) ?_
  refine lv_bipush (v := (nI 12)) hx hb d_D_init_13 (by decide) ?_
  refine fw_newa (tys := tyl dA) (atype := .int) (N' := 12) (a0 := (12, .inl (fun _ => 0))) hx hb (hg _ k_106) rfl hK hP hS hA 0 rfl (fun _ => rfl) (by decide) (by decide) (by decide) (Nat.le_of_ble_eq_true rfl) (Nat.le_of_ble_eq_true rfl) d_D_init_15 (fun q18 w19 H hn21 ew20 hP hS => ?_)
  have S23 := st_new ew20 hn21
  have f22 : w19 q18 = some (.inl (dA 0, 12, .inl (fun _ => 0))) := by rw [ew20]; exact va_up_self _ _ _
  have zn_q18 : w q18 = none := no_new (h := h) up hn21 (by rw [f0]; simp)
  have nh_q18 : q18 ≠ h := fun e9 => by rw [e9, f0] at hn21; cases hn21
  have f0 : w19 h = some (.inr (5, [.ref q9, .null, .null, .null, .null, .null, .null, .null, .null, .null, .null, .null, .null, .null, .null, .null, .int 0, .int 0, .int 0, .int 0, .int 0, .int 0, .int 0, .null, .null, .null, .null, .null, .null, .null, .null, .null, .null, .null, .null, .int 0])) := S23 _ _ f0
  have nd : List.Nodup [q18, q9, h] := nd_new al hn21 nd
  have al : ∀ z ∈ [q18, q9, h], w19 z ≠ none := al_new al ew20
  have up : ∀ (z : Nat) (e : va_E), w z = some e → z ≠ h → w19 z = some e := fun z e a b => S23 z e (up z e a b)
  refine fw_putF (D := (dC, dI)) (ci := 5) (v := .ref q18) (ty := (.array .int)) (C := R_D) (T := F_D) (N := 36) hx hb hg in_D ft_D ft_D_ok n_D hown hK hP hS f0 rfl 1 (by decide) (hg _ k_592) (fun _ h9 => h9) rfl (hin rfl) rfl (by decide +kernel) rfl rfl (Nat.le_of_ble_eq_true rfl) d_D_init_17 (fun w24 H locs ew25 hP hS => ?_)
  have S26 := st_put ew25
  have f0 : w24 h = some (.inr (5, [.ref q9, .ref q18, .null, .null, .null, .null, .null, .null, .null, .null, .null, .null, .null, .null, .null, .null, .int 0, .int 0, .int 0, .int 0, .int 0, .int 0, .int 0, .null, .null, .null, .null, .null, .null, .null, .null, .null, .null, .null, .null, .int 0])) := by rw [ew25]; exact va_up_self _ _ _
  have al : ∀ z ∈ [q18, q9, h], w24 z ≠ none := al_put al ew25
  have up : ∀ (z : Nat) (e : va_E), w z = some e → z ≠ h → w24 z = some e := fun z e a b => S26 z e (up z e a b) b
  refine lv_aload_n hx hb d_D_init_20 rfl (lv_at hl 0 rfl) ?_
  refine lv_bipush (v := (nI 36)) hx hb d_D_init_21 (by decide) ?_
  refine fw_newa (tys := tyl dA) (atype := .int) (N' := 36) (a0 := (36, .inl (fun _ => 0))) hx hb (hg _ k_106) rfl hK hP hS hA 0 rfl (fun _ => rfl) (by decide) (by decide) (by decide) (Nat.le_of_ble_eq_true rfl) (Nat.le_of_ble_eq_true rfl) d_D_init_23 (fun q27 w28 H hn30 ew29 hP hS => ?_)
  have S32 := st_new ew29 hn30
  have f31 : w28 q27 = some (.inl (dA 0, 36, .inl (fun _ => 0))) := by rw [ew29]; exact va_up_self _ _ _
  have zn_q27 : w q27 = none := no_new (h := h) up hn30 (by rw [f0]; simp)
  have nh_q27 : q27 ≠ h := fun e9 => by rw [e9, f0] at hn30; cases hn30
  have f0 : w28 h = some (.inr (5, [.ref q9, .ref q18, .null, .null, .null, .null, .null, .null, .null, .null, .null, .null, .null, .null, .null, .null, .int 0, .int 0, .int 0, .int 0, .int 0, .int 0, .int 0, .null, .null, .null, .null, .null, .null, .null, .null, .null, .null, .null, .null, .int 0])) := S32 _ _ f0
  have nd : List.Nodup [q27, q18, q9, h] := nd_new al hn30 nd
  have al : ∀ z ∈ [q27, q18, q9, h], w28 z ≠ none := al_new al ew29
  have up : ∀ (z : Nat) (e : va_E), w z = some e → z ≠ h → w28 z = some e := fun z e a b => S32 z e (up z e a b)
  refine fw_putF (D := (dC, dI)) (ci := 5) (v := .ref q27) (ty := (.array .int)) (C := R_D) (T := F_D) (N := 36) hx hb hg in_D ft_D ft_D_ok n_D hown hK hP hS f0 rfl 2 (by decide) (hg _ k_593) (fun _ h9 => h9) rfl (hin rfl) rfl (by decide +kernel) rfl rfl (Nat.le_of_ble_eq_true rfl) d_D_init_25 (fun w33 H locs ew34 hP hS => ?_)
  have S35 := st_put ew34
  have f0 : w33 h = some (.inr (5, [.ref q9, .ref q18, .ref q27, .null, .null, .null, .null, .null, .null, .null, .null, .null, .null, .null, .null, .null, .int 0, .int 0, .int 0, .int 0, .int 0, .int 0, .int 0, .null, .null, .null, .null, .null, .null, .null, .null, .null, .null, .null, .null, .int 0])) := by rw [ew34]; exact va_up_self _ _ _
  have al : ∀ z ∈ [q27, q18, q9, h], w33 z ≠ none := al_put al ew34
  have up : ∀ (z : Nat) (e : va_E), w z = some e → z ≠ h → w33 z = some e := fun z e a b => S35 z e (up z e a b) b
  refine lv_aload_n hx hb d_D_init_28 rfl (lv_at hl 0 rfl) ?_
  refine lv_bipush (v := (nI 12)) hx hb d_D_init_29 (by decide) ?_
  refine fw_newa (tys := tyl dA) (atype := .long) (N' := 12) (a0 := (12, .inr (.inl (fun _ => 0)))) hx hb (hg _ k_107) rfl hK hP hS hA 1 rfl (fun _ => rfl) (by decide) (by decide) (by decide) (Nat.le_of_ble_eq_true rfl) (Nat.le_of_ble_eq_true rfl) d_D_init_31 (fun q36 w37 H hn39 ew38 hP hS => ?_)
  have S41 := st_new ew38 hn39
  have f40 : w37 q36 = some (.inl (dA 1, 12, .inr (.inl (fun _ => 0)))) := by rw [ew38]; exact va_up_self _ _ _
  have zn_q36 : w q36 = none := no_new (h := h) up hn39 (by rw [f0]; simp)
  have nh_q36 : q36 ≠ h := fun e9 => by rw [e9, f0] at hn39; cases hn39
  have f0 : w37 h = some (.inr (5, [.ref q9, .ref q18, .ref q27, .null, .null, .null, .null, .null, .null, .null, .null, .null, .null, .null, .null, .null, .int 0, .int 0, .int 0, .int 0, .int 0, .int 0, .int 0, .null, .null, .null, .null, .null, .null, .null, .null, .null, .null, .null, .null, .int 0])) := S41 _ _ f0
  have nd : List.Nodup [q36, q27, q18, q9, h] := nd_new al hn39 nd
  have al : ∀ z ∈ [q36, q27, q18, q9, h], w37 z ≠ none := al_new al ew38
  have up : ∀ (z : Nat) (e : va_E), w z = some e → z ≠ h → w37 z = some e := fun z e a b => S41 z e (up z e a b)
  refine fw_putF (D := (dC, dI)) (ci := 5) (v := .ref q36) (ty := (.array .long)) (C := R_D) (T := F_D) (N := 36) hx hb hg in_D ft_D ft_D_ok n_D hown hK hP hS f0 rfl 3 (by decide) (hg _ k_594) (fun _ h9 => h9) rfl (hin rfl) rfl (by decide +kernel) rfl rfl (Nat.le_of_ble_eq_true rfl) d_D_init_33 (fun w42 H locs ew43 hP hS => ?_)
  have S44 := st_put ew43
  have f0 : w42 h = some (.inr (5, [.ref q9, .ref q18, .ref q27, .ref q36, .null, .null, .null, .null, .null, .null, .null, .null, .null, .null, .null, .null, .int 0, .int 0, .int 0, .int 0, .int 0, .int 0, .int 0, .null, .null, .null, .null, .null, .null, .null, .null, .null, .null, .null, .null, .int 0])) := by rw [ew43]; exact va_up_self _ _ _
  have al : ∀ z ∈ [q36, q27, q18, q9, h], w42 z ≠ none := al_put al ew43
  have up : ∀ (z : Nat) (e : va_E), w z = some e → z ≠ h → w42 z = some e := fun z e a b => S44 z e (up z e a b) b
  refine lv_aload_n hx hb d_D_init_36 rfl (lv_at hl 0 rfl) ?_
  refine lv_sipush (v := (nI 320)) hx hb d_D_init_37 (by decide) ?_
  refine fw_newa (tys := tyl dA) (atype := .int) (N' := 320) (a0 := (320, .inl (fun _ => 0))) hx hb (hg _ k_106) rfl hK hP hS hA 0 rfl (fun _ => rfl) (by decide) (by decide) (by decide) (Nat.le_of_ble_eq_true rfl) (Nat.le_of_ble_eq_true rfl) d_D_init_40 (fun q45 w46 H hn48 ew47 hP hS => ?_)
  have S50 := st_new ew47 hn48
  have f49 : w46 q45 = some (.inl (dA 0, 320, .inl (fun _ => 0))) := by rw [ew47]; exact va_up_self _ _ _
  have zn_q45 : w q45 = none := no_new (h := h) up hn48 (by rw [f0]; simp)
  have nh_q45 : q45 ≠ h := fun e9 => by rw [e9, f0] at hn48; cases hn48
  have f0 : w46 h = some (.inr (5, [.ref q9, .ref q18, .ref q27, .ref q36, .null, .null, .null, .null, .null, .null, .null, .null, .null, .null, .null, .null, .int 0, .int 0, .int 0, .int 0, .int 0, .int 0, .int 0, .null, .null, .null, .null, .null, .null, .null, .null, .null, .null, .null, .null, .int 0])) := S50 _ _ f0
  have nd : List.Nodup [q45, q36, q27, q18, q9, h] := nd_new al hn48 nd
  have al : ∀ z ∈ [q45, q36, q27, q18, q9, h], w46 z ≠ none := al_new al ew47
  have up : ∀ (z : Nat) (e : va_E), w z = some e → z ≠ h → w46 z = some e := fun z e a b => S50 z e (up z e a b)
  refine fw_putF (D := (dC, dI)) (ci := 5) (v := .ref q45) (ty := (.array .int)) (C := R_D) (T := F_D) (N := 36) hx hb hg in_D ft_D ft_D_ok n_D hown hK hP hS f0 rfl 4 (by decide) (hg _ k_595) (fun _ h9 => h9) rfl (hin rfl) rfl (by decide +kernel) rfl rfl (Nat.le_of_ble_eq_true rfl) d_D_init_42 (fun w51 H locs ew52 hP hS => ?_)
  have S53 := st_put ew52
  have f0 : w51 h = some (.inr (5, [.ref q9, .ref q18, .ref q27, .ref q36, .ref q45, .null, .null, .null, .null, .null, .null, .null, .null, .null, .null, .null, .int 0, .int 0, .int 0, .int 0, .int 0, .int 0, .int 0, .null, .null, .null, .null, .null, .null, .null, .null, .null, .null, .null, .null, .int 0])) := by rw [ew52]; exact va_up_self _ _ _
  have al : ∀ z ∈ [q45, q36, q27, q18, q9, h], w51 z ≠ none := al_put al ew52
  have up : ∀ (z : Nat) (e : va_E), w z = some e → z ≠ h → w51 z = some e := fun z e a b => S53 z e (up z e a b) b
  refine lv_aload_n hx hb d_D_init_45 rfl (lv_at hl 0 rfl) ?_
  refine lv_sipush (v := (nI 3840)) hx hb d_D_init_46 (by decide) ?_
  refine fw_newa (tys := tyl dA) (atype := .int) (N' := 3840) (a0 := (3840, .inl (fun _ => 0))) hx hb (hg _ k_106) rfl hK hP hS hA 0 rfl (fun _ => rfl) (by decide) (by decide) (by decide) (Nat.le_of_ble_eq_true rfl) (Nat.le_of_ble_eq_true rfl) d_D_init_49 (fun q54 w55 H hn57 ew56 hP hS => ?_)
  have S59 := st_new ew56 hn57
  have f58 : w55 q54 = some (.inl (dA 0, 3840, .inl (fun _ => 0))) := by rw [ew56]; exact va_up_self _ _ _
  have zn_q54 : w q54 = none := no_new (h := h) up hn57 (by rw [f0]; simp)
  have nh_q54 : q54 ≠ h := fun e9 => by rw [e9, f0] at hn57; cases hn57
  have f0 : w55 h = some (.inr (5, [.ref q9, .ref q18, .ref q27, .ref q36, .ref q45, .null, .null, .null, .null, .null, .null, .null, .null, .null, .null, .null, .int 0, .int 0, .int 0, .int 0, .int 0, .int 0, .int 0, .null, .null, .null, .null, .null, .null, .null, .null, .null, .null, .null, .null, .int 0])) := S59 _ _ f0
  have nd : List.Nodup [q54, q45, q36, q27, q18, q9, h] := nd_new al hn57 nd
  have al : ∀ z ∈ [q54, q45, q36, q27, q18, q9, h], w55 z ≠ none := al_new al ew56
  have up : ∀ (z : Nat) (e : va_E), w z = some e → z ≠ h → w55 z = some e := fun z e a b => S59 z e (up z e a b)
  refine fw_putF (D := (dC, dI)) (ci := 5) (v := .ref q54) (ty := (.array .int)) (C := R_D) (T := F_D) (N := 36) hx hb hg in_D ft_D ft_D_ok n_D hown hK hP hS f0 rfl 5 (by decide) (hg _ k_596) (fun _ h9 => h9) rfl (hin rfl) rfl (by decide +kernel) rfl rfl (Nat.le_of_ble_eq_true rfl) d_D_init_51 (fun w60 H locs ew61 hP hS => ?_)
  have S62 := st_put ew61
  have f0 : w60 h = some (.inr (5, [.ref q9, .ref q18, .ref q27, .ref q36, .ref q45, .ref q54, .null, .null, .null, .null, .null, .null, .null, .null, .null, .null, .int 0, .int 0, .int 0, .int 0, .int 0, .int 0, .int 0, .null, .null, .null, .null, .null, .null, .null, .null, .null, .null, .null, .null, .int 0])) := by rw [ew61]; exact va_up_self _ _ _
  have al : ∀ z ∈ [q54, q45, q36, q27, q18, q9, h], w60 z ≠ none := al_put al ew61
  have up : ∀ (z : Nat) (e : va_E), w z = some e → z ≠ h → w60 z = some e := fun z e a b => S62 z e (up z e a b) b
  refine lv_aload_n hx hb d_D_init_54 rfl (lv_at hl 0 rfl) ?_
  refine lv_sipush (v := (nI 320)) hx hb d_D_init_55 (by decide) ?_
  refine fw_newa (tys := tyl dA) (atype := .int) (N' := 320) (a0 := (320, .inl (fun _ => 0))) hx hb (hg _ k_106) rfl hK hP hS hA 0 rfl (fun _ => rfl) (by decide) (by decide) (by decide) (Nat.le_of_ble_eq_true rfl) (Nat.le_of_ble_eq_true rfl) d_D_init_58 (fun q63 w64 H hn66 ew65 hP hS => ?_)
  have S68 := st_new ew65 hn66
  have f67 : w64 q63 = some (.inl (dA 0, 320, .inl (fun _ => 0))) := by rw [ew65]; exact va_up_self _ _ _
  have zn_q63 : w q63 = none := no_new (h := h) up hn66 (by rw [f0]; simp)
  have nh_q63 : q63 ≠ h := fun e9 => by rw [e9, f0] at hn66; cases hn66
  have f0 : w64 h = some (.inr (5, [.ref q9, .ref q18, .ref q27, .ref q36, .ref q45, .ref q54, .null, .null, .null, .null, .null, .null, .null, .null, .null, .null, .int 0, .int 0, .int 0, .int 0, .int 0, .int 0, .int 0, .null, .null, .null, .null, .null, .null, .null, .null, .null, .null, .null, .null, .int 0])) := S68 _ _ f0
  have nd : List.Nodup [q63, q54, q45, q36, q27, q18, q9, h] := nd_new al hn66 nd
  have al : ∀ z ∈ [q63, q54, q45, q36, q27, q18, q9, h], w64 z ≠ none := al_new al ew65
  have up : ∀ (z : Nat) (e : va_E), w z = some e → z ≠ h → w64 z = some e := fun z e a b => S68 z e (up z e a b)
  refine fw_putF (D := (dC, dI)) (ci := 5) (v := .ref q63) (ty := (.array .int)) (C := R_D) (T := F_D) (N := 36) hx hb hg in_D ft_D ft_D_ok n_D hown hK hP hS f0 rfl 6 (by decide) (hg _ k_597) (fun _ h9 => h9) rfl (hin rfl) rfl (by decide +kernel) rfl rfl (Nat.le_of_ble_eq_true rfl) d_D_init_60 (fun w69 H locs ew70 hP hS => ?_)
  have S71 := st_put ew70
  have f0 : w69 h = some (.inr (5, [.ref q9, .ref q18, .ref q27, .ref q36, .ref q45, .ref q54, .ref q63, .null, .null, .null, .null, .null, .null, .null, .null, .null, .int 0, .int 0, .int 0, .int 0, .int 0, .int 0, .int 0, .null, .null, .null, .null, .null, .null, .null, .null, .null, .null, .null, .null, .int 0])) := by rw [ew70]; exact va_up_self _ _ _
  have al : ∀ z ∈ [q63, q54, q45, q36, q27, q18, q9, h], w69 z ≠ none := al_put al ew70
  have up : ∀ (z : Nat) (e : va_E), w z = some e → z ≠ h → w69 z = some e := fun z e a b => S71 z e (up z e a b) b
  refine lv_aload_n hx hb d_D_init_63 rfl (lv_at hl 0 rfl) ?_
  refine lv_sipush (v := (nI 3840)) hx hb d_D_init_64 (by decide) ?_
  refine fw_newa (tys := tyl dA) (atype := .long) (N' := 3840) (a0 := (3840, .inr (.inl (fun _ => 0)))) hx hb (hg _ k_107) rfl hK hP hS hA 1 rfl (fun _ => rfl) (by decide) (by decide) (by decide) (Nat.le_of_ble_eq_true rfl) (Nat.le_of_ble_eq_true rfl) d_D_init_67 (fun q72 w73 H hn75 ew74 hP hS => ?_)
  have S77 := st_new ew74 hn75
  have f76 : w73 q72 = some (.inl (dA 1, 3840, .inr (.inl (fun _ => 0)))) := by rw [ew74]; exact va_up_self _ _ _
  have zn_q72 : w q72 = none := no_new (h := h) up hn75 (by rw [f0]; simp)
  have nh_q72 : q72 ≠ h := fun e9 => by rw [e9, f0] at hn75; cases hn75
  have f0 : w73 h = some (.inr (5, [.ref q9, .ref q18, .ref q27, .ref q36, .ref q45, .ref q54, .ref q63, .null, .null, .null, .null, .null, .null, .null, .null, .null, .int 0, .int 0, .int 0, .int 0, .int 0, .int 0, .int 0, .null, .null, .null, .null, .null, .null, .null, .null, .null, .null, .null, .null, .int 0])) := S77 _ _ f0
  have nd : List.Nodup [q72, q63, q54, q45, q36, q27, q18, q9, h] := nd_new al hn75 nd
  have al : ∀ z ∈ [q72, q63, q54, q45, q36, q27, q18, q9, h], w73 z ≠ none := al_new al ew74
  have up : ∀ (z : Nat) (e : va_E), w z = some e → z ≠ h → w73 z = some e := fun z e a b => S77 z e (up z e a b)
  refine fw_putF (D := (dC, dI)) (ci := 5) (v := .ref q72) (ty := (.array .long)) (C := R_D) (T := F_D) (N := 36) hx hb hg in_D ft_D ft_D_ok n_D hown hK hP hS f0 rfl 7 (by decide) (hg _ k_598) (fun _ h9 => h9) rfl (hin rfl) rfl (by decide +kernel) rfl rfl (Nat.le_of_ble_eq_true rfl) d_D_init_69 (fun w78 H locs ew79 hP hS => ?_)
  have S80 := st_put ew79
  have f0 : w78 h = some (.inr (5, [.ref q9, .ref q18, .ref q27, .ref q36, .ref q45, .ref q54, .ref q63, .ref q72, .null, .null, .null, .null, .null, .null, .null, .null, .int 0, .int 0, .int 0, .int 0, .int 0, .int 0, .int 0, .null, .null, .null, .null, .null, .null, .null, .null, .null, .null, .null, .null, .int 0])) := by rw [ew79]; exact va_up_self _ _ _
  have al : ∀ z ∈ [q72, q63, q54, q45, q36, q27, q18, q9, h], w78 z ≠ none := al_put al ew79
  have up : ∀ (z : Nat) (e : va_E), w z = some e → z ≠ h → w78 z = some e := fun z e a b => S80 z e (up z e a b) b
  refine lv_aload_n hx hb d_D_init_72 rfl (lv_at hl 0 rfl) ?_
  refine lv_sipush (v := (nI 320)) hx hb d_D_init_73 (by decide) ?_
  refine fw_newa (tys := tyl dA) (atype := .long) (N' := 320) (a0 := (320, .inr (.inl (fun _ => 0)))) hx hb (hg _ k_107) rfl hK hP hS hA 1 rfl (fun _ => rfl) (by decide) (by decide) (by decide) (Nat.le_of_ble_eq_true rfl) (Nat.le_of_ble_eq_true rfl) d_D_init_76 (fun q81 w82 H hn84 ew83 hP hS => ?_)
  have S86 := st_new ew83 hn84
  have f85 : w82 q81 = some (.inl (dA 1, 320, .inr (.inl (fun _ => 0)))) := by rw [ew83]; exact va_up_self _ _ _
  have zn_q81 : w q81 = none := no_new (h := h) up hn84 (by rw [f0]; simp)
  have nh_q81 : q81 ≠ h := fun e9 => by rw [e9, f0] at hn84; cases hn84
  have f0 : w82 h = some (.inr (5, [.ref q9, .ref q18, .ref q27, .ref q36, .ref q45, .ref q54, .ref q63, .ref q72, .null, .null, .null, .null, .null, .null, .null, .null, .int 0, .int 0, .int 0, .int 0, .int 0, .int 0, .int 0, .null, .null, .null, .null, .null, .null, .null, .null, .null, .null, .null, .null, .int 0])) := S86 _ _ f0
  have nd : List.Nodup [q81, q72, q63, q54, q45, q36, q27, q18, q9, h] := nd_new al hn84 nd
  have al : ∀ z ∈ [q81, q72, q63, q54, q45, q36, q27, q18, q9, h], w82 z ≠ none := al_new al ew83
  have up : ∀ (z : Nat) (e : va_E), w z = some e → z ≠ h → w82 z = some e := fun z e a b => S86 z e (up z e a b)
  refine fw_putF (D := (dC, dI)) (ci := 5) (v := .ref q81) (ty := (.array .long)) (C := R_D) (T := F_D) (N := 36) hx hb hg in_D ft_D ft_D_ok n_D hown hK hP hS f0 rfl 8 (by decide) (hg _ k_599) (fun _ h9 => h9) rfl (hin rfl) rfl (by decide +kernel) rfl rfl (Nat.le_of_ble_eq_true rfl) d_D_init_78 (fun w87 H locs ew88 hP hS => ?_)
  have S89 := st_put ew88
  have f0 : w87 h = some (.inr (5, [.ref q9, .ref q18, .ref q27, .ref q36, .ref q45, .ref q54, .ref q63, .ref q72, .ref q81, .null, .null, .null, .null, .null, .null, .null, .int 0, .int 0, .int 0, .int 0, .int 0, .int 0, .int 0, .null, .null, .null, .null, .null, .null, .null, .null, .null, .null, .null, .null, .int 0])) := by rw [ew88]; exact va_up_self _ _ _
  have al : ∀ z ∈ [q81, q72, q63, q54, q45, q36, q27, q18, q9, h], w87 z ≠ none := al_put al ew88
  have up : ∀ (z : Nat) (e : va_E), w z = some e → z ≠ h → w87 z = some e := fun z e a b => S89 z e (up z e a b) b
  refine lv_aload_n hx hb d_D_init_81 rfl (lv_at hl 0 rfl) ?_
  refine lv_sipush (v := (nI 320)) hx hb d_D_init_82 (by decide) ?_
  refine fw_newa (tys := tyl dA) (atype := .boolean) (N' := 320) (a0 := (320, .inl (zf (fun _ => false)))) hx hb (hg _ k_169) rfl hK hP hS hA 2 rfl (fun _ => rfl) (by decide) (by decide) (by decide) (Nat.le_of_ble_eq_true rfl) (Nat.le_of_ble_eq_true rfl) d_D_init_85 (fun q90 w91 H hn93 ew92 hP hS => ?_)
  have S95 := st_new ew92 hn93
  have f94 : w91 q90 = some (.inl (dA 2, 320, .inl (zf (fun _ => false)))) := by rw [ew92]; exact va_up_self _ _ _
  have zn_q90 : w q90 = none := no_new (h := h) up hn93 (by rw [f0]; simp)
  have nh_q90 : q90 ≠ h := fun e9 => by rw [e9, f0] at hn93; cases hn93
  have f0 : w91 h = some (.inr (5, [.ref q9, .ref q18, .ref q27, .ref q36, .ref q45, .ref q54, .ref q63, .ref q72, .ref q81, .null, .null, .null, .null, .null, .null, .null, .int 0, .int 0, .int 0, .int 0, .int 0, .int 0, .int 0, .null, .null, .null, .null, .null, .null, .null, .null, .null, .null, .null, .null, .int 0])) := S95 _ _ f0
  have nd : List.Nodup [q90, q81, q72, q63, q54, q45, q36, q27, q18, q9, h] := nd_new al hn93 nd
  have al : ∀ z ∈ [q90, q81, q72, q63, q54, q45, q36, q27, q18, q9, h], w91 z ≠ none := al_new al ew92
  have up : ∀ (z : Nat) (e : va_E), w z = some e → z ≠ h → w91 z = some e := fun z e a b => S95 z e (up z e a b)
  refine fw_putF (D := (dC, dI)) (ci := 5) (v := .ref q90) (ty := (.array .boolean)) (C := R_D) (T := F_D) (N := 36) hx hb hg in_D ft_D ft_D_ok n_D hown hK hP hS f0 rfl 9 (by decide) (hg _ k_600) (fun _ h9 => h9) rfl (hin rfl) rfl (by decide +kernel) rfl rfl (Nat.le_of_ble_eq_true rfl) d_D_init_87 (fun w96 H locs ew97 hP hS => ?_)
  have S98 := st_put ew97
  have f0 : w96 h = some (.inr (5, [.ref q9, .ref q18, .ref q27, .ref q36, .ref q45, .ref q54, .ref q63, .ref q72, .ref q81, .ref q90, .null, .null, .null, .null, .null, .null, .int 0, .int 0, .int 0, .int 0, .int 0, .int 0, .int 0, .null, .null, .null, .null, .null, .null, .null, .null, .null, .null, .null, .null, .int 0])) := by rw [ew97]; exact va_up_self _ _ _
  have al : ∀ z ∈ [q90, q81, q72, q63, q54, q45, q36, q27, q18, q9, h], w96 z ≠ none := al_put al ew97
  have up : ∀ (z : Nat) (e : va_E), w z = some e → z ≠ h → w96 z = some e := fun z e a b => S98 z e (up z e a b) b
  refine lv_aload_n hx hb d_D_init_90 rfl (lv_at hl 0 rfl) ?_
  refine lv_bipush (v := (nI 24)) hx hb d_D_init_91 (by decide) ?_
  refine fw_newa (tys := tyl dA) (atype := .int) (N' := 24) (a0 := (24, .inl (fun _ => 0))) hx hb (hg _ k_106) rfl hK hP hS hA 0 rfl (fun _ => rfl) (by decide) (by decide) (by decide) (Nat.le_of_ble_eq_true rfl) (Nat.le_of_ble_eq_true rfl) d_D_init_93 (fun q99 w100 H hn102 ew101 hP hS => ?_)
  have S104 := st_new ew101 hn102
  have f103 : w100 q99 = some (.inl (dA 0, 24, .inl (fun _ => 0))) := by rw [ew101]; exact va_up_self _ _ _
  have zn_q99 : w q99 = none := no_new (h := h) up hn102 (by rw [f0]; simp)
  have nh_q99 : q99 ≠ h := fun e9 => by rw [e9, f0] at hn102; cases hn102
  have f0 : w100 h = some (.inr (5, [.ref q9, .ref q18, .ref q27, .ref q36, .ref q45, .ref q54, .ref q63, .ref q72, .ref q81, .ref q90, .null, .null, .null, .null, .null, .null, .int 0, .int 0, .int 0, .int 0, .int 0, .int 0, .int 0, .null, .null, .null, .null, .null, .null, .null, .null, .null, .null, .null, .null, .int 0])) := S104 _ _ f0
  have nd : List.Nodup [q99, q90, q81, q72, q63, q54, q45, q36, q27, q18, q9, h] := nd_new al hn102 nd
  have al : ∀ z ∈ [q99, q90, q81, q72, q63, q54, q45, q36, q27, q18, q9, h], w100 z ≠ none := al_new al ew101
  have up : ∀ (z : Nat) (e : va_E), w z = some e → z ≠ h → w100 z = some e := fun z e a b => S104 z e (up z e a b)
  refine fw_putF (D := (dC, dI)) (ci := 5) (v := .ref q99) (ty := (.array .int)) (C := R_D) (T := F_D) (N := 36) hx hb hg in_D ft_D ft_D_ok n_D hown hK hP hS f0 rfl 10 (by decide) (hg _ k_601) (fun _ h9 => h9) rfl (hin rfl) rfl (by decide +kernel) rfl rfl (Nat.le_of_ble_eq_true rfl) d_D_init_95 (fun w105 H locs ew106 hP hS => ?_)
  have S107 := st_put ew106
  have f0 : w105 h = some (.inr (5, [.ref q9, .ref q18, .ref q27, .ref q36, .ref q45, .ref q54, .ref q63, .ref q72, .ref q81, .ref q90, .ref q99, .null, .null, .null, .null, .null, .int 0, .int 0, .int 0, .int 0, .int 0, .int 0, .int 0, .null, .null, .null, .null, .null, .null, .null, .null, .null, .null, .null, .null, .int 0])) := by rw [ew106]; exact va_up_self _ _ _
  have al : ∀ z ∈ [q99, q90, q81, q72, q63, q54, q45, q36, q27, q18, q9, h], w105 z ≠ none := al_put al ew106
  have up : ∀ (z : Nat) (e : va_E), w z = some e → z ≠ h → w105 z = some e := fun z e a b => S107 z e (up z e a b) b
  refine lv_aload_n hx hb d_D_init_98 rfl (lv_at hl 0 rfl) ?_
  refine lv_bipush (v := (nI 24)) hx hb d_D_init_99 (by decide) ?_
  refine fw_newa (tys := tyl dA) (atype := .int) (N' := 24) (a0 := (24, .inl (fun _ => 0))) hx hb (hg _ k_106) rfl hK hP hS hA 0 rfl (fun _ => rfl) (by decide) (by decide) (by decide) (Nat.le_of_ble_eq_true rfl) (Nat.le_of_ble_eq_true rfl) d_D_init_101 (fun q108 w109 H hn111 ew110 hP hS => ?_)
  have S113 := st_new ew110 hn111
  have f112 : w109 q108 = some (.inl (dA 0, 24, .inl (fun _ => 0))) := by rw [ew110]; exact va_up_self _ _ _
  have zn_q108 : w q108 = none := no_new (h := h) up hn111 (by rw [f0]; simp)
  have nh_q108 : q108 ≠ h := fun e9 => by rw [e9, f0] at hn111; cases hn111
  have f0 : w109 h = some (.inr (5, [.ref q9, .ref q18, .ref q27, .ref q36, .ref q45, .ref q54, .ref q63, .ref q72, .ref q81, .ref q90, .ref q99, .null, .null, .null, .null, .null, .int 0, .int 0, .int 0, .int 0, .int 0, .int 0, .int 0, .null, .null, .null, .null, .null, .null, .null, .null, .null, .null, .null, .null, .int 0])) := S113 _ _ f0
  have nd : List.Nodup [q108, q99, q90, q81, q72, q63, q54, q45, q36, q27, q18, q9, h] := nd_new al hn111 nd
  have al : ∀ z ∈ [q108, q99, q90, q81, q72, q63, q54, q45, q36, q27, q18, q9, h], w109 z ≠ none := al_new al ew110
  have up : ∀ (z : Nat) (e : va_E), w z = some e → z ≠ h → w109 z = some e := fun z e a b => S113 z e (up z e a b)
  refine fw_putF (D := (dC, dI)) (ci := 5) (v := .ref q108) (ty := (.array .int)) (C := R_D) (T := F_D) (N := 36) hx hb hg in_D ft_D ft_D_ok n_D hown hK hP hS f0 rfl 11 (by decide) (hg _ k_602) (fun _ h9 => h9) rfl (hin rfl) rfl (by decide +kernel) rfl rfl (Nat.le_of_ble_eq_true rfl) d_D_init_103 (fun w114 H locs ew115 hP hS => ?_)
  have S116 := st_put ew115
  have f0 : w114 h = some (.inr (5, [.ref q9, .ref q18, .ref q27, .ref q36, .ref q45, .ref q54, .ref q63, .ref q72, .ref q81, .ref q90, .ref q99, .ref q108, .null, .null, .null, .null, .int 0, .int 0, .int 0, .int 0, .int 0, .int 0, .int 0, .null, .null, .null, .null, .null, .null, .null, .null, .null, .null, .null, .null, .int 0])) := by rw [ew115]; exact va_up_self _ _ _
  have al : ∀ z ∈ [q108, q99, q90, q81, q72, q63, q54, q45, q36, q27, q18, q9, h], w114 z ≠ none := al_put al ew115
  have up : ∀ (z : Nat) (e : va_E), w z = some e → z ≠ h → w114 z = some e := fun z e a b => S116 z e (up z e a b) b
  refine lv_aload_n hx hb d_D_init_106 rfl (lv_at hl 0 rfl) ?_
  refine lv_bipush (v := (nI 17)) hx hb d_D_init_107 (by decide) ?_
  refine fw_newa (tys := tyl dA) (atype := .int) (N' := 17) (a0 := (17, .inl (fun _ => 0))) hx hb (hg _ k_106) rfl hK hP hS hA 0 rfl (fun _ => rfl) (by decide) (by decide) (by decide) (Nat.le_of_ble_eq_true rfl) (Nat.le_of_ble_eq_true rfl) d_D_init_109 (fun q117 w118 H hn120 ew119 hP hS => ?_)
  have S122 := st_new ew119 hn120
  have f121 : w118 q117 = some (.inl (dA 0, 17, .inl (fun _ => 0))) := by rw [ew119]; exact va_up_self _ _ _
  have zn_q117 : w q117 = none := no_new (h := h) up hn120 (by rw [f0]; simp)
  have nh_q117 : q117 ≠ h := fun e9 => by rw [e9, f0] at hn120; cases hn120
  have f0 : w118 h = some (.inr (5, [.ref q9, .ref q18, .ref q27, .ref q36, .ref q45, .ref q54, .ref q63, .ref q72, .ref q81, .ref q90, .ref q99, .ref q108, .null, .null, .null, .null, .int 0, .int 0, .int 0, .int 0, .int 0, .int 0, .int 0, .null, .null, .null, .null, .null, .null, .null, .null, .null, .null, .null, .null, .int 0])) := S122 _ _ f0
  have nd : List.Nodup [q117, q108, q99, q90, q81, q72, q63, q54, q45, q36, q27, q18, q9, h] := nd_new al hn120 nd
  have al : ∀ z ∈ [q117, q108, q99, q90, q81, q72, q63, q54, q45, q36, q27, q18, q9, h], w118 z ≠ none := al_new al ew119
  have up : ∀ (z : Nat) (e : va_E), w z = some e → z ≠ h → w118 z = some e := fun z e a b => S122 z e (up z e a b)
  refine fw_putF (D := (dC, dI)) (ci := 5) (v := .ref q117) (ty := (.array .int)) (C := R_D) (T := F_D) (N := 36) hx hb hg in_D ft_D ft_D_ok n_D hown hK hP hS f0 rfl 12 (by decide) (hg _ k_603) (fun _ h9 => h9) rfl (hin rfl) rfl (by decide +kernel) rfl rfl (Nat.le_of_ble_eq_true rfl) d_D_init_111 (fun w123 H locs ew124 hP hS => ?_)
  have S125 := st_put ew124
  have f0 : w123 h = some (.inr (5, [.ref q9, .ref q18, .ref q27, .ref q36, .ref q45, .ref q54, .ref q63, .ref q72, .ref q81, .ref q90, .ref q99, .ref q108, .ref q117, .null, .null, .null, .int 0, .int 0, .int 0, .int 0, .int 0, .int 0, .int 0, .null, .null, .null, .null, .null, .null, .null, .null, .null, .null, .null, .null, .int 0])) := by rw [ew124]; exact va_up_self _ _ _
  have al : ∀ z ∈ [q117, q108, q99, q90, q81, q72, q63, q54, q45, q36, q27, q18, q9, h], w123 z ≠ none := al_put al ew124
  have up : ∀ (z : Nat) (e : va_E), w z = some e → z ≠ h → w123 z = some e := fun z e a b => S125 z e (up z e a b) b
  refine lv_aload_n hx hb d_D_init_114 rfl (lv_at hl 0 rfl) ?_
  refine lv_bipush (v := (nI 17)) hx hb d_D_init_115 (by decide) ?_
  refine fw_newa (tys := tyl dA) (atype := .int) (N' := 17) (a0 := (17, .inl (fun _ => 0))) hx hb (hg _ k_106) rfl hK hP hS hA 0 rfl (fun _ => rfl) (by decide) (by decide) (by decide) (Nat.le_of_ble_eq_true rfl) (Nat.le_of_ble_eq_true rfl) d_D_init_117 (fun q126 w127 H hn129 ew128 hP hS => ?_)
  have S131 := st_new ew128 hn129
  have f130 : w127 q126 = some (.inl (dA 0, 17, .inl (fun _ => 0))) := by rw [ew128]; exact va_up_self _ _ _
  have zn_q126 : w q126 = none := no_new (h := h) up hn129 (by rw [f0]; simp)
  have nh_q126 : q126 ≠ h := fun e9 => by rw [e9, f0] at hn129; cases hn129
  have f0 : w127 h = some (.inr (5, [.ref q9, .ref q18, .ref q27, .ref q36, .ref q45, .ref q54, .ref q63, .ref q72, .ref q81, .ref q90, .ref q99, .ref q108, .ref q117, .null, .null, .null, .int 0, .int 0, .int 0, .int 0, .int 0, .int 0, .int 0, .null, .null, .null, .null, .null, .null, .null, .null, .null, .null, .null, .null, .int 0])) := S131 _ _ f0
  have nd : List.Nodup [q126, q117, q108, q99, q90, q81, q72, q63, q54, q45, q36, q27, q18, q9, h] := nd_new al hn129 nd
  have al : ∀ z ∈ [q126, q117, q108, q99, q90, q81, q72, q63, q54, q45, q36, q27, q18, q9, h], w127 z ≠ none := al_new al ew128
  have up : ∀ (z : Nat) (e : va_E), w z = some e → z ≠ h → w127 z = some e := fun z e a b => S131 z e (up z e a b)
  refine fw_putF (D := (dC, dI)) (ci := 5) (v := .ref q126) (ty := (.array .int)) (C := R_D) (T := F_D) (N := 36) hx hb hg in_D ft_D ft_D_ok n_D hown hK hP hS f0 rfl 13 (by decide) (hg _ k_604) (fun _ h9 => h9) rfl (hin rfl) rfl (by decide +kernel) rfl rfl (Nat.le_of_ble_eq_true rfl) d_D_init_119 (fun w132 H locs ew133 hP hS => ?_)
  have S134 := st_put ew133
  have f0 : w132 h = some (.inr (5, [.ref q9, .ref q18, .ref q27, .ref q36, .ref q45, .ref q54, .ref q63, .ref q72, .ref q81, .ref q90, .ref q99, .ref q108, .ref q117, .ref q126, .null, .null, .int 0, .int 0, .int 0, .int 0, .int 0, .int 0, .int 0, .null, .null, .null, .null, .null, .null, .null, .null, .null, .null, .null, .null, .int 0])) := by rw [ew133]; exact va_up_self _ _ _
  have al : ∀ z ∈ [q126, q117, q108, q99, q90, q81, q72, q63, q54, q45, q36, q27, q18, q9, h], w132 z ≠ none := al_put al ew133
  have up : ∀ (z : Nat) (e : va_E), w z = some e → z ≠ h → w132 z = some e := fun z e a b => S134 z e (up z e a b) b
  refine lv_aload_n hx hb d_D_init_122 rfl (lv_at hl 0 rfl) ?_
  refine lv_bipush (v := (nI 7)) hx hb d_D_init_123 (by decide) ?_
  refine fw_newa (tys := tyl dA) (atype := .int) (N' := 7) (a0 := (7, .inl (fun _ => 0))) hx hb (hg _ k_106) rfl hK hP hS hA 0 rfl (fun _ => rfl) (by decide) (by decide) (by decide) (Nat.le_of_ble_eq_true rfl) (Nat.le_of_ble_eq_true rfl) d_D_init_125 (fun q135 w136 H hn138 ew137 hP hS => ?_)
  have S140 := st_new ew137 hn138
  have f139 : w136 q135 = some (.inl (dA 0, 7, .inl (fun _ => 0))) := by rw [ew137]; exact va_up_self _ _ _
  have zn_q135 : w q135 = none := no_new (h := h) up hn138 (by rw [f0]; simp)
  have nh_q135 : q135 ≠ h := fun e9 => by rw [e9, f0] at hn138; cases hn138
  have f0 : w136 h = some (.inr (5, [.ref q9, .ref q18, .ref q27, .ref q36, .ref q45, .ref q54, .ref q63, .ref q72, .ref q81, .ref q90, .ref q99, .ref q108, .ref q117, .ref q126, .null, .null, .int 0, .int 0, .int 0, .int 0, .int 0, .int 0, .int 0, .null, .null, .null, .null, .null, .null, .null, .null, .null, .null, .null, .null, .int 0])) := S140 _ _ f0
  have nd : List.Nodup [q135, q126, q117, q108, q99, q90, q81, q72, q63, q54, q45, q36, q27, q18, q9, h] := nd_new al hn138 nd
  have al : ∀ z ∈ [q135, q126, q117, q108, q99, q90, q81, q72, q63, q54, q45, q36, q27, q18, q9, h], w136 z ≠ none := al_new al ew137
  have up : ∀ (z : Nat) (e : va_E), w z = some e → z ≠ h → w136 z = some e := fun z e a b => S140 z e (up z e a b)
  refine fw_putF (D := (dC, dI)) (ci := 5) (v := .ref q135) (ty := (.array .int)) (C := R_D) (T := F_D) (N := 36) hx hb hg in_D ft_D ft_D_ok n_D hown hK hP hS f0 rfl 14 (by decide) (hg _ k_605) (fun _ h9 => h9) rfl (hin rfl) rfl (by decide +kernel) rfl rfl (Nat.le_of_ble_eq_true rfl) d_D_init_127 (fun w141 H locs ew142 hP hS => ?_)
  have S143 := st_put ew142
  have f0 : w141 h = some (.inr (5, [.ref q9, .ref q18, .ref q27, .ref q36, .ref q45, .ref q54, .ref q63, .ref q72, .ref q81, .ref q90, .ref q99, .ref q108, .ref q117, .ref q126, .ref q135, .null, .int 0, .int 0, .int 0, .int 0, .int 0, .int 0, .int 0, .null, .null, .null, .null, .null, .null, .null, .null, .null, .null, .null, .null, .int 0])) := by rw [ew142]; exact va_up_self _ _ _
  have al : ∀ z ∈ [q135, q126, q117, q108, q99, q90, q81, q72, q63, q54, q45, q36, q27, q18, q9, h], w141 z ≠ none := al_put al ew142
  have up : ∀ (z : Nat) (e : va_E), w z = some e → z ≠ h → w141 z = some e := fun z e a b => S143 z e (up z e a b) b
  refine lv_aload_n hx hb d_D_init_130 rfl (lv_at hl 0 rfl) ?_
  refine lv_bipush (v := (nI 7)) hx hb d_D_init_131 (by decide) ?_
  refine fw_newa (tys := tyl dA) (atype := .int) (N' := 7) (a0 := (7, .inl (fun _ => 0))) hx hb (hg _ k_106) rfl hK hP hS hA 0 rfl (fun _ => rfl) (by decide) (by decide) (by decide) (Nat.le_of_ble_eq_true rfl) (Nat.le_of_ble_eq_true rfl) d_D_init_133 (fun q144 w145 H hn147 ew146 hP hS => ?_)
  have S149 := st_new ew146 hn147
  have f148 : w145 q144 = some (.inl (dA 0, 7, .inl (fun _ => 0))) := by rw [ew146]; exact va_up_self _ _ _
  have zn_q144 : w q144 = none := no_new (h := h) up hn147 (by rw [f0]; simp)
  have nh_q144 : q144 ≠ h := fun e9 => by rw [e9, f0] at hn147; cases hn147
  have f0 : w145 h = some (.inr (5, [.ref q9, .ref q18, .ref q27, .ref q36, .ref q45, .ref q54, .ref q63, .ref q72, .ref q81, .ref q90, .ref q99, .ref q108, .ref q117, .ref q126, .ref q135, .null, .int 0, .int 0, .int 0, .int 0, .int 0, .int 0, .int 0, .null, .null, .null, .null, .null, .null, .null, .null, .null, .null, .null, .null, .int 0])) := S149 _ _ f0
  have nd : List.Nodup [q144, q135, q126, q117, q108, q99, q90, q81, q72, q63, q54, q45, q36, q27, q18, q9, h] := nd_new al hn147 nd
  have al : ∀ z ∈ [q144, q135, q126, q117, q108, q99, q90, q81, q72, q63, q54, q45, q36, q27, q18, q9, h], w145 z ≠ none := al_new al ew146
  have up : ∀ (z : Nat) (e : va_E), w z = some e → z ≠ h → w145 z = some e := fun z e a b => S149 z e (up z e a b)
  refine fw_putF (D := (dC, dI)) (ci := 5) (v := .ref q144) (ty := (.array .int)) (C := R_D) (T := F_D) (N := 36) hx hb hg in_D ft_D ft_D_ok n_D hown hK hP hS f0 rfl 15 (by decide) (hg _ k_606) (fun _ h9 => h9) rfl (hin rfl) rfl (by decide +kernel) rfl rfl (Nat.le_of_ble_eq_true rfl) d_D_init_135 (fun w150 H locs ew151 hP hS => ?_)
  have S152 := st_put ew151
  have f0 : w150 h = some (.inr (5, [.ref q9, .ref q18, .ref q27, .ref q36, .ref q45, .ref q54, .ref q63, .ref q72, .ref q81, .ref q90, .ref q99, .ref q108, .ref q117, .ref q126, .ref q135, .ref q144, .int 0, .int 0, .int 0, .int 0, .int 0, .int 0, .int 0, .null, .null, .null, .null, .null, .null, .null, .null, .null, .null, .null, .null, .int 0])) := by rw [ew151]; exact va_up_self _ _ _
  have al : ∀ z ∈ [q144, q135, q126, q117, q108, q99, q90, q81, q72, q63, q54, q45, q36, q27, q18, q9, h], w150 z ≠ none := al_put al ew151
  have up : ∀ (z : Nat) (e : va_E), w z = some e → z ≠ h → w150 z = some e := fun z e a b => S152 z e (up z e a b) b
  refine lv_aload_n hx hb d_D_init_138 rfl (lv_at hl 0 rfl) ?_
  refine lv_bipush (v := (nI 12)) hx hb d_D_init_139 (by decide) ?_
  refine fw_newa (tys := tyl dA) (atype := .int) (N' := 12) (a0 := (12, .inl (fun _ => 0))) hx hb (hg _ k_106) rfl hK hP hS hA 0 rfl (fun _ => rfl) (by decide) (by decide) (by decide) (Nat.le_of_ble_eq_true rfl) (Nat.le_of_ble_eq_true rfl) d_D_init_141 (fun q153 w154 H hn156 ew155 hP hS => ?_)
  have S158 := st_new ew155 hn156
  have f157 : w154 q153 = some (.inl (dA 0, 12, .inl (fun _ => 0))) := by rw [ew155]; exact va_up_self _ _ _
  have zn_q153 : w q153 = none := no_new (h := h) up hn156 (by rw [f0]; simp)
  have nh_q153 : q153 ≠ h := fun e9 => by rw [e9, f0] at hn156; cases hn156
  have f0 : w154 h = some (.inr (5, [.ref q9, .ref q18, .ref q27, .ref q36, .ref q45, .ref q54, .ref q63, .ref q72, .ref q81, .ref q90, .ref q99, .ref q108, .ref q117, .ref q126, .ref q135, .ref q144, .int 0, .int 0, .int 0, .int 0, .int 0, .int 0, .int 0, .null, .null, .null, .null, .null, .null, .null, .null, .null, .null, .null, .null, .int 0])) := S158 _ _ f0
  have nd : List.Nodup [q153, q144, q135, q126, q117, q108, q99, q90, q81, q72, q63, q54, q45, q36, q27, q18, q9, h] := nd_new al hn156 nd
  have al : ∀ z ∈ [q153, q144, q135, q126, q117, q108, q99, q90, q81, q72, q63, q54, q45, q36, q27, q18, q9, h], w154 z ≠ none := al_new al ew155
  have up : ∀ (z : Nat) (e : va_E), w z = some e → z ≠ h → w154 z = some e := fun z e a b => S158 z e (up z e a b)
  refine fw_putF (D := (dC, dI)) (ci := 5) (v := .ref q153) (ty := (.array .int)) (C := R_D) (T := F_D) (N := 36) hx hb hg in_D ft_D ft_D_ok n_D hown hK hP hS f0 rfl 23 (by decide) (hg _ k_614) (fun _ h9 => h9) rfl (hin rfl) rfl (by decide +kernel) rfl rfl (Nat.le_of_ble_eq_true rfl) d_D_init_143 (fun w159 H locs ew160 hP hS => ?_)
  have S161 := st_put ew160
  have f0 : w159 h = some (.inr (5, [.ref q9, .ref q18, .ref q27, .ref q36, .ref q45, .ref q54, .ref q63, .ref q72, .ref q81, .ref q90, .ref q99, .ref q108, .ref q117, .ref q126, .ref q135, .ref q144, .int 0, .int 0, .int 0, .int 0, .int 0, .int 0, .int 0, .ref q153, .null, .null, .null, .null, .null, .null, .null, .null, .null, .null, .null, .int 0])) := by rw [ew160]; exact va_up_self _ _ _
  have al : ∀ z ∈ [q153, q144, q135, q126, q117, q108, q99, q90, q81, q72, q63, q54, q45, q36, q27, q18, q9, h], w159 z ≠ none := al_put al ew160
  have up : ∀ (z : Nat) (e : va_E), w z = some e → z ≠ h → w159 z = some e := fun z e a b => S161 z e (up z e a b) b
  refine lv_aload_n hx hb d_D_init_146 rfl (lv_at hl 0 rfl) ?_
  refine lv_bipush (v := (nI 12)) hx hb d_D_init_147 (by decide) ?_
  refine fw_newa (tys := tyl dA) (atype := .long) (N' := 12) (a0 := (12, .inr (.inl (fun _ => 0)))) hx hb (hg _ k_107) rfl hK hP hS hA 1 rfl (fun _ => rfl) (by decide) (by decide) (by decide) (Nat.le_of_ble_eq_true rfl) (Nat.le_of_ble_eq_true rfl) d_D_init_149 (fun q162 w163 H hn165 ew164 hP hS => ?_)
  have S167 := st_new ew164 hn165
  have f166 : w163 q162 = some (.inl (dA 1, 12, .inr (.inl (fun _ => 0)))) := by rw [ew164]; exact va_up_self _ _ _
  have zn_q162 : w q162 = none := no_new (h := h) up hn165 (by rw [f0]; simp)
  have nh_q162 : q162 ≠ h := fun e9 => by rw [e9, f0] at hn165; cases hn165
  have f0 : w163 h = some (.inr (5, [.ref q9, .ref q18, .ref q27, .ref q36, .ref q45, .ref q54, .ref q63, .ref q72, .ref q81, .ref q90, .ref q99, .ref q108, .ref q117, .ref q126, .ref q135, .ref q144, .int 0, .int 0, .int 0, .int 0, .int 0, .int 0, .int 0, .ref q153, .null, .null, .null, .null, .null, .null, .null, .null, .null, .null, .null, .int 0])) := S167 _ _ f0
  have nd : List.Nodup [q162, q153, q144, q135, q126, q117, q108, q99, q90, q81, q72, q63, q54, q45, q36, q27, q18, q9, h] := nd_new al hn165 nd
  have al : ∀ z ∈ [q162, q153, q144, q135, q126, q117, q108, q99, q90, q81, q72, q63, q54, q45, q36, q27, q18, q9, h], w163 z ≠ none := al_new al ew164
  have up : ∀ (z : Nat) (e : va_E), w z = some e → z ≠ h → w163 z = some e := fun z e a b => S167 z e (up z e a b)
  refine fw_putF (D := (dC, dI)) (ci := 5) (v := .ref q162) (ty := (.array .long)) (C := R_D) (T := F_D) (N := 36) hx hb hg in_D ft_D ft_D_ok n_D hown hK hP hS f0 rfl 24 (by decide) (hg _ k_615) (fun _ h9 => h9) rfl (hin rfl) rfl (by decide +kernel) rfl rfl (Nat.le_of_ble_eq_true rfl) d_D_init_151 (fun w168 H locs ew169 hP hS => ?_)
  have S170 := st_put ew169
  have f0 : w168 h = some (.inr (5, [.ref q9, .ref q18, .ref q27, .ref q36, .ref q45, .ref q54, .ref q63, .ref q72, .ref q81, .ref q90, .ref q99, .ref q108, .ref q117, .ref q126, .ref q135, .ref q144, .int 0, .int 0, .int 0, .int 0, .int 0, .int 0, .int 0, .ref q153, .ref q162, .null, .null, .null, .null, .null, .null, .null, .null, .null, .null, .int 0])) := by rw [ew169]; exact va_up_self _ _ _
  have al : ∀ z ∈ [q162, q153, q144, q135, q126, q117, q108, q99, q90, q81, q72, q63, q54, q45, q36, q27, q18, q9, h], w168 z ≠ none := al_put al ew169
  have up : ∀ (z : Nat) (e : va_E), w z = some e → z ≠ h → w168 z = some e := fun z e a b => S170 z e (up z e a b) b
  refine lv_aload_n hx hb d_D_init_154 rfl (lv_at hl 0 rfl) ?_
  refine lv_bipush (v := (nI 13)) hx hb d_D_init_155 (by decide) ?_
  refine fw_newa (tys := tyl dA) (atype := .int) (N' := 13) (a0 := (13, .inl (fun _ => 0))) hx hb (hg _ k_106) rfl hK hP hS hA 0 rfl (fun _ => rfl) (by decide) (by decide) (by decide) (Nat.le_of_ble_eq_true rfl) (Nat.le_of_ble_eq_true rfl) d_D_init_157 (fun q171 w172 H hn174 ew173 hP hS => ?_)
  have S176 := st_new ew173 hn174
  have f175 : w172 q171 = some (.inl (dA 0, 13, .inl (fun _ => 0))) := by rw [ew173]; exact va_up_self _ _ _
  have zn_q171 : w q171 = none := no_new (h := h) up hn174 (by rw [f0]; simp)
  have nh_q171 : q171 ≠ h := fun e9 => by rw [e9, f0] at hn174; cases hn174
  have f0 : w172 h = some (.inr (5, [.ref q9, .ref q18, .ref q27, .ref q36, .ref q45, .ref q54, .ref q63, .ref q72, .ref q81, .ref q90, .ref q99, .ref q108, .ref q117, .ref q126, .ref q135, .ref q144, .int 0, .int 0, .int 0, .int 0, .int 0, .int 0, .int 0, .ref q153, .ref q162, .null, .null, .null, .null, .null, .null, .null, .null, .null, .null, .int 0])) := S176 _ _ f0
  have nd : List.Nodup [q171, q162, q153, q144, q135, q126, q117, q108, q99, q90, q81, q72, q63, q54, q45, q36, q27, q18, q9, h] := nd_new al hn174 nd
  have al : ∀ z ∈ [q171, q162, q153, q144, q135, q126, q117, q108, q99, q90, q81, q72, q63, q54, q45, q36, q27, q18, q9, h], w172 z ≠ none := al_new al ew173
  have up : ∀ (z : Nat) (e : va_E), w z = some e → z ≠ h → w172 z = some e := fun z e a b => S176 z e (up z e a b)
  refine fw_putF (D := (dC, dI)) (ci := 5) (v := .ref q171) (ty := (.array .int)) (C := R_D) (T := F_D) (N := 36) hx hb hg in_D ft_D ft_D_ok n_D hown hK hP hS f0 rfl 25 (by decide) (hg _ k_616) (fun _ h9 => h9) rfl (hin rfl) rfl (by decide +kernel) rfl rfl (Nat.le_of_ble_eq_true rfl) d_D_init_159 (fun w177 H locs ew178 hP hS => ?_)
  have S179 := st_put ew178
  have f0 : w177 h = some (.inr (5, [.ref q9, .ref q18, .ref q27, .ref q36, .ref q45, .ref q54, .ref q63, .ref q72, .ref q81, .ref q90, .ref q99, .ref q108, .ref q117, .ref q126, .ref q135, .ref q144, .int 0, .int 0, .int 0, .int 0, .int 0, .int 0, .int 0, .ref q153, .ref q162, .ref q171, .null, .null, .null, .null, .null, .null, .null, .null, .null, .int 0])) := by rw [ew178]; exact va_up_self _ _ _
  have al : ∀ z ∈ [q171, q162, q153, q144, q135, q126, q117, q108, q99, q90, q81, q72, q63, q54, q45, q36, q27, q18, q9, h], w177 z ≠ none := al_put al ew178
  have up : ∀ (z : Nat) (e : va_E), w z = some e → z ≠ h → w177 z = some e := fun z e a b => S179 z e (up z e a b) b
  refine lv_aload_n hx hb d_D_init_162 rfl (lv_at hl 0 rfl) ?_
  refine lv_bipush (v := (nI 13)) hx hb d_D_init_163 (by decide) ?_
  refine fw_newa (tys := tyl dA) (atype := .int) (N' := 13) (a0 := (13, .inl (fun _ => 0))) hx hb (hg _ k_106) rfl hK hP hS hA 0 rfl (fun _ => rfl) (by decide) (by decide) (by decide) (Nat.le_of_ble_eq_true rfl) (Nat.le_of_ble_eq_true rfl) d_D_init_165 (fun q180 w181 H hn183 ew182 hP hS => ?_)
  have S185 := st_new ew182 hn183
  have f184 : w181 q180 = some (.inl (dA 0, 13, .inl (fun _ => 0))) := by rw [ew182]; exact va_up_self _ _ _
  have zn_q180 : w q180 = none := no_new (h := h) up hn183 (by rw [f0]; simp)
  have nh_q180 : q180 ≠ h := fun e9 => by rw [e9, f0] at hn183; cases hn183
  have f0 : w181 h = some (.inr (5, [.ref q9, .ref q18, .ref q27, .ref q36, .ref q45, .ref q54, .ref q63, .ref q72, .ref q81, .ref q90, .ref q99, .ref q108, .ref q117, .ref q126, .ref q135, .ref q144, .int 0, .int 0, .int 0, .int 0, .int 0, .int 0, .int 0, .ref q153, .ref q162, .ref q171, .null, .null, .null, .null, .null, .null, .null, .null, .null, .int 0])) := S185 _ _ f0
  have nd : List.Nodup [q180, q171, q162, q153, q144, q135, q126, q117, q108, q99, q90, q81, q72, q63, q54, q45, q36, q27, q18, q9, h] := nd_new al hn183 nd
  have al : ∀ z ∈ [q180, q171, q162, q153, q144, q135, q126, q117, q108, q99, q90, q81, q72, q63, q54, q45, q36, q27, q18, q9, h], w181 z ≠ none := al_new al ew182
  have up : ∀ (z : Nat) (e : va_E), w z = some e → z ≠ h → w181 z = some e := fun z e a b => S185 z e (up z e a b)
  refine fw_putF (D := (dC, dI)) (ci := 5) (v := .ref q180) (ty := (.array .int)) (C := R_D) (T := F_D) (N := 36) hx hb hg in_D ft_D ft_D_ok n_D hown hK hP hS f0 rfl 26 (by decide) (hg _ k_617) (fun _ h9 => h9) rfl (hin rfl) rfl (by decide +kernel) rfl rfl (Nat.le_of_ble_eq_true rfl) d_D_init_167 (fun w186 H locs ew187 hP hS => ?_)
  have S188 := st_put ew187
  have f0 : w186 h = some (.inr (5, [.ref q9, .ref q18, .ref q27, .ref q36, .ref q45, .ref q54, .ref q63, .ref q72, .ref q81, .ref q90, .ref q99, .ref q108, .ref q117, .ref q126, .ref q135, .ref q144, .int 0, .int 0, .int 0, .int 0, .int 0, .int 0, .int 0, .ref q153, .ref q162, .ref q171, .ref q180, .null, .null, .null, .null, .null, .null, .null, .null, .int 0])) := by rw [ew187]; exact va_up_self _ _ _
  have al : ∀ z ∈ [q180, q171, q162, q153, q144, q135, q126, q117, q108, q99, q90, q81, q72, q63, q54, q45, q36, q27, q18, q9, h], w186 z ≠ none := al_put al ew187
  have up : ∀ (z : Nat) (e : va_E), w z = some e → z ≠ h → w186 z = some e := fun z e a b => S188 z e (up z e a b) b
  refine lv_aload_n hx hb d_D_init_170 rfl (lv_at hl 0 rfl) ?_
  refine lv_bipush (v := (nI 13)) hx hb d_D_init_171 (by decide) ?_
  refine fw_newa (tys := tyl dA) (atype := .int) (N' := 13) (a0 := (13, .inl (fun _ => 0))) hx hb (hg _ k_106) rfl hK hP hS hA 0 rfl (fun _ => rfl) (by decide) (by decide) (by decide) (Nat.le_of_ble_eq_true rfl) (Nat.le_of_ble_eq_true rfl) d_D_init_173 (fun q189 w190 H hn192 ew191 hP hS => ?_)
  have S194 := st_new ew191 hn192
  have f193 : w190 q189 = some (.inl (dA 0, 13, .inl (fun _ => 0))) := by rw [ew191]; exact va_up_self _ _ _
  have zn_q189 : w q189 = none := no_new (h := h) up hn192 (by rw [f0]; simp)
  have nh_q189 : q189 ≠ h := fun e9 => by rw [e9, f0] at hn192; cases hn192
  have f0 : w190 h = some (.inr (5, [.ref q9, .ref q18, .ref q27, .ref q36, .ref q45, .ref q54, .ref q63, .ref q72, .ref q81, .ref q90, .ref q99, .ref q108, .ref q117, .ref q126, .ref q135, .ref q144, .int 0, .int 0, .int 0, .int 0, .int 0, .int 0, .int 0, .ref q153, .ref q162, .ref q171, .ref q180, .null, .null, .null, .null, .null, .null, .null, .null, .int 0])) := S194 _ _ f0
  have nd : List.Nodup [q189, q180, q171, q162, q153, q144, q135, q126, q117, q108, q99, q90, q81, q72, q63, q54, q45, q36, q27, q18, q9, h] := nd_new al hn192 nd
  have al : ∀ z ∈ [q189, q180, q171, q162, q153, q144, q135, q126, q117, q108, q99, q90, q81, q72, q63, q54, q45, q36, q27, q18, q9, h], w190 z ≠ none := al_new al ew191
  have up : ∀ (z : Nat) (e : va_E), w z = some e → z ≠ h → w190 z = some e := fun z e a b => S194 z e (up z e a b)
  refine fw_putF (D := (dC, dI)) (ci := 5) (v := .ref q189) (ty := (.array .int)) (C := R_D) (T := F_D) (N := 36) hx hb hg in_D ft_D ft_D_ok n_D hown hK hP hS f0 rfl 27 (by decide) (hg _ k_618) (fun _ h9 => h9) rfl (hin rfl) rfl (by decide +kernel) rfl rfl (Nat.le_of_ble_eq_true rfl) d_D_init_175 (fun w195 H locs ew196 hP hS => ?_)
  have S197 := st_put ew196
  have f0 : w195 h = some (.inr (5, [.ref q9, .ref q18, .ref q27, .ref q36, .ref q45, .ref q54, .ref q63, .ref q72, .ref q81, .ref q90, .ref q99, .ref q108, .ref q117, .ref q126, .ref q135, .ref q144, .int 0, .int 0, .int 0, .int 0, .int 0, .int 0, .int 0, .ref q153, .ref q162, .ref q171, .ref q180, .ref q189, .null, .null, .null, .null, .null, .null, .null, .int 0])) := by rw [ew196]; exact va_up_self _ _ _
  have al : ∀ z ∈ [q189, q180, q171, q162, q153, q144, q135, q126, q117, q108, q99, q90, q81, q72, q63, q54, q45, q36, q27, q18, q9, h], w195 z ≠ none := al_put al ew196
  have up : ∀ (z : Nat) (e : va_E), w z = some e → z ≠ h → w195 z = some e := fun z e a b => S197 z e (up z e a b) b
  refine lv_aload_n hx hb d_D_init_178 rfl (lv_at hl 0 rfl) ?_
  refine lv_bipush (v := (nI 13)) hx hb d_D_init_179 (by decide) ?_
  refine fw_newa (tys := tyl dA) (atype := .int) (N' := 13) (a0 := (13, .inl (fun _ => 0))) hx hb (hg _ k_106) rfl hK hP hS hA 0 rfl (fun _ => rfl) (by decide) (by decide) (by decide) (Nat.le_of_ble_eq_true rfl) (Nat.le_of_ble_eq_true rfl) d_D_init_181 (fun q198 w199 H hn201 ew200 hP hS => ?_)
  have S203 := st_new ew200 hn201
  have f202 : w199 q198 = some (.inl (dA 0, 13, .inl (fun _ => 0))) := by rw [ew200]; exact va_up_self _ _ _
  have zn_q198 : w q198 = none := no_new (h := h) up hn201 (by rw [f0]; simp)
  have nh_q198 : q198 ≠ h := fun e9 => by rw [e9, f0] at hn201; cases hn201
  have f0 : w199 h = some (.inr (5, [.ref q9, .ref q18, .ref q27, .ref q36, .ref q45, .ref q54, .ref q63, .ref q72, .ref q81, .ref q90, .ref q99, .ref q108, .ref q117, .ref q126, .ref q135, .ref q144, .int 0, .int 0, .int 0, .int 0, .int 0, .int 0, .int 0, .ref q153, .ref q162, .ref q171, .ref q180, .ref q189, .null, .null, .null, .null, .null, .null, .null, .int 0])) := S203 _ _ f0
  have nd : List.Nodup [q198, q189, q180, q171, q162, q153, q144, q135, q126, q117, q108, q99, q90, q81, q72, q63, q54, q45, q36, q27, q18, q9, h] := nd_new al hn201 nd
  have al : ∀ z ∈ [q198, q189, q180, q171, q162, q153, q144, q135, q126, q117, q108, q99, q90, q81, q72, q63, q54, q45, q36, q27, q18, q9, h], w199 z ≠ none := al_new al ew200
  have up : ∀ (z : Nat) (e : va_E), w z = some e → z ≠ h → w199 z = some e := fun z e a b => S203 z e (up z e a b)
  refine fw_putF (D := (dC, dI)) (ci := 5) (v := .ref q198) (ty := (.array .int)) (C := R_D) (T := F_D) (N := 36) hx hb hg in_D ft_D ft_D_ok n_D hown hK hP hS f0 rfl 28 (by decide) (hg _ k_619) (fun _ h9 => h9) rfl (hin rfl) rfl (by decide +kernel) rfl rfl (Nat.le_of_ble_eq_true rfl) d_D_init_183 (fun w204 H locs ew205 hP hS => ?_)
  have S206 := st_put ew205
  have f0 : w204 h = some (.inr (5, [.ref q9, .ref q18, .ref q27, .ref q36, .ref q45, .ref q54, .ref q63, .ref q72, .ref q81, .ref q90, .ref q99, .ref q108, .ref q117, .ref q126, .ref q135, .ref q144, .int 0, .int 0, .int 0, .int 0, .int 0, .int 0, .int 0, .ref q153, .ref q162, .ref q171, .ref q180, .ref q189, .ref q198, .null, .null, .null, .null, .null, .null, .int 0])) := by rw [ew205]; exact va_up_self _ _ _
  have al : ∀ z ∈ [q198, q189, q180, q171, q162, q153, q144, q135, q126, q117, q108, q99, q90, q81, q72, q63, q54, q45, q36, q27, q18, q9, h], w204 z ≠ none := al_put al ew205
  have up : ∀ (z : Nat) (e : va_E), w z = some e → z ≠ h → w204 z = some e := fun z e a b => S206 z e (up z e a b) b
  refine lv_aload_n hx hb d_D_init_186 rfl (lv_at hl 0 rfl) ?_
  refine lv_sipush (v := (nI 208)) hx hb d_D_init_187 (by decide) ?_
  refine fw_newa (tys := tyl dA) (atype := .int) (N' := 208) (a0 := (208, .inl (fun _ => 0))) hx hb (hg _ k_106) rfl hK hP hS hA 0 rfl (fun _ => rfl) (by decide) (by decide) (by decide) (Nat.le_of_ble_eq_true rfl) (Nat.le_of_ble_eq_true rfl) d_D_init_190 (fun q207 w208 H hn210 ew209 hP hS => ?_)
  have S212 := st_new ew209 hn210
  have f211 : w208 q207 = some (.inl (dA 0, 208, .inl (fun _ => 0))) := by rw [ew209]; exact va_up_self _ _ _
  have zn_q207 : w q207 = none := no_new (h := h) up hn210 (by rw [f0]; simp)
  have nh_q207 : q207 ≠ h := fun e9 => by rw [e9, f0] at hn210; cases hn210
  have f0 : w208 h = some (.inr (5, [.ref q9, .ref q18, .ref q27, .ref q36, .ref q45, .ref q54, .ref q63, .ref q72, .ref q81, .ref q90, .ref q99, .ref q108, .ref q117, .ref q126, .ref q135, .ref q144, .int 0, .int 0, .int 0, .int 0, .int 0, .int 0, .int 0, .ref q153, .ref q162, .ref q171, .ref q180, .ref q189, .ref q198, .null, .null, .null, .null, .null, .null, .int 0])) := S212 _ _ f0
  have nd : List.Nodup [q207, q198, q189, q180, q171, q162, q153, q144, q135, q126, q117, q108, q99, q90, q81, q72, q63, q54, q45, q36, q27, q18, q9, h] := nd_new al hn210 nd
  have al : ∀ z ∈ [q207, q198, q189, q180, q171, q162, q153, q144, q135, q126, q117, q108, q99, q90, q81, q72, q63, q54, q45, q36, q27, q18, q9, h], w208 z ≠ none := al_new al ew209
  have up : ∀ (z : Nat) (e : va_E), w z = some e → z ≠ h → w208 z = some e := fun z e a b => S212 z e (up z e a b)
  refine fw_putF (D := (dC, dI)) (ci := 5) (v := .ref q207) (ty := (.array .int)) (C := R_D) (T := F_D) (N := 36) hx hb hg in_D ft_D ft_D_ok n_D hown hK hP hS f0 rfl 29 (by decide) (hg _ k_620) (fun _ h9 => h9) rfl (hin rfl) rfl (by decide +kernel) rfl rfl (Nat.le_of_ble_eq_true rfl) d_D_init_192 (fun w213 H locs ew214 hP hS => ?_)
  have S215 := st_put ew214
  have f0 : w213 h = some (.inr (5, [.ref q9, .ref q18, .ref q27, .ref q36, .ref q45, .ref q54, .ref q63, .ref q72, .ref q81, .ref q90, .ref q99, .ref q108, .ref q117, .ref q126, .ref q135, .ref q144, .int 0, .int 0, .int 0, .int 0, .int 0, .int 0, .int 0, .ref q153, .ref q162, .ref q171, .ref q180, .ref q189, .ref q198, .ref q207, .null, .null, .null, .null, .null, .int 0])) := by rw [ew214]; exact va_up_self _ _ _
  have al : ∀ z ∈ [q207, q198, q189, q180, q171, q162, q153, q144, q135, q126, q117, q108, q99, q90, q81, q72, q63, q54, q45, q36, q27, q18, q9, h], w213 z ≠ none := al_put al ew214
  have up : ∀ (z : Nat) (e : va_E), w z = some e → z ≠ h → w213 z = some e := fun z e a b => S215 z e (up z e a b) b
  refine lv_aload_n hx hb d_D_init_195 rfl (lv_at hl 0 rfl) ?_
  refine lv_bipush (v := (nI 13)) hx hb d_D_init_196 (by decide) ?_
  refine fw_newa (tys := tyl dA) (atype := .int) (N' := 13) (a0 := (13, .inl (fun _ => 0))) hx hb (hg _ k_106) rfl hK hP hS hA 0 rfl (fun _ => rfl) (by decide) (by decide) (by decide) (Nat.le_of_ble_eq_true rfl) (Nat.le_of_ble_eq_true rfl) d_D_init_198 (fun q216 w217 H hn219 ew218 hP hS => ?_)
  have S221 := st_new ew218 hn219
  have f220 : w217 q216 = some (.inl (dA 0, 13, .inl (fun _ => 0))) := by rw [ew218]; exact va_up_self _ _ _
  have zn_q216 : w q216 = none := no_new (h := h) up hn219 (by rw [f0]; simp)
  have nh_q216 : q216 ≠ h := fun e9 => by rw [e9, f0] at hn219; cases hn219
  have f0 : w217 h = some (.inr (5, [.ref q9, .ref q18, .ref q27, .ref q36, .ref q45, .ref q54, .ref q63, .ref q72, .ref q81, .ref q90, .ref q99, .ref q108, .ref q117, .ref q126, .ref q135, .ref q144, .int 0, .int 0, .int 0, .int 0, .int 0, .int 0, .int 0, .ref q153, .ref q162, .ref q171, .ref q180, .ref q189, .ref q198, .ref q207, .null, .null, .null, .null, .null, .int 0])) := S221 _ _ f0
  have nd : List.Nodup [q216, q207, q198, q189, q180, q171, q162, q153, q144, q135, q126, q117, q108, q99, q90, q81, q72, q63, q54, q45, q36, q27, q18, q9, h] := nd_new al hn219 nd
  have al : ∀ z ∈ [q216, q207, q198, q189, q180, q171, q162, q153, q144, q135, q126, q117, q108, q99, q90, q81, q72, q63, q54, q45, q36, q27, q18, q9, h], w217 z ≠ none := al_new al ew218
  have up : ∀ (z : Nat) (e : va_E), w z = some e → z ≠ h → w217 z = some e := fun z e a b => S221 z e (up z e a b)
  refine fw_putF (D := (dC, dI)) (ci := 5) (v := .ref q216) (ty := (.array .int)) (C := R_D) (T := F_D) (N := 36) hx hb hg in_D ft_D ft_D_ok n_D hown hK hP hS f0 rfl 30 (by decide) (hg _ k_621) (fun _ h9 => h9) rfl (hin rfl) rfl (by decide +kernel) rfl rfl (Nat.le_of_ble_eq_true rfl) d_D_init_200 (fun w222 H locs ew223 hP hS => ?_)
  have S224 := st_put ew223
  have f0 : w222 h = some (.inr (5, [.ref q9, .ref q18, .ref q27, .ref q36, .ref q45, .ref q54, .ref q63, .ref q72, .ref q81, .ref q90, .ref q99, .ref q108, .ref q117, .ref q126, .ref q135, .ref q144, .int 0, .int 0, .int 0, .int 0, .int 0, .int 0, .int 0, .ref q153, .ref q162, .ref q171, .ref q180, .ref q189, .ref q198, .ref q207, .ref q216, .null, .null, .null, .null, .int 0])) := by rw [ew223]; exact va_up_self _ _ _
  have al : ∀ z ∈ [q216, q207, q198, q189, q180, q171, q162, q153, q144, q135, q126, q117, q108, q99, q90, q81, q72, q63, q54, q45, q36, q27, q18, q9, h], w222 z ≠ none := al_put al ew223
  have up : ∀ (z : Nat) (e : va_E), w z = some e → z ≠ h → w222 z = some e := fun z e a b => S224 z e (up z e a b) b
  refine lv_aload_n hx hb d_D_init_203 rfl (lv_at hl 0 rfl) ?_
  refine lv_bipush (v := (nI 13)) hx hb d_D_init_204 (by decide) ?_
  refine fw_newa (tys := tyl dA) (atype := .int) (N' := 13) (a0 := (13, .inl (fun _ => 0))) hx hb (hg _ k_106) rfl hK hP hS hA 0 rfl (fun _ => rfl) (by decide) (by decide) (by decide) (Nat.le_of_ble_eq_true rfl) (Nat.le_of_ble_eq_true rfl) d_D_init_206 (fun q225 w226 H hn228 ew227 hP hS => ?_)
  have S230 := st_new ew227 hn228
  have f229 : w226 q225 = some (.inl (dA 0, 13, .inl (fun _ => 0))) := by rw [ew227]; exact va_up_self _ _ _
  have zn_q225 : w q225 = none := no_new (h := h) up hn228 (by rw [f0]; simp)
  have nh_q225 : q225 ≠ h := fun e9 => by rw [e9, f0] at hn228; cases hn228
  have f0 : w226 h = some (.inr (5, [.ref q9, .ref q18, .ref q27, .ref q36, .ref q45, .ref q54, .ref q63, .ref q72, .ref q81, .ref q90, .ref q99, .ref q108, .ref q117, .ref q126, .ref q135, .ref q144, .int 0, .int 0, .int 0, .int 0, .int 0, .int 0, .int 0, .ref q153, .ref q162, .ref q171, .ref q180, .ref q189, .ref q198, .ref q207, .ref q216, .null, .null, .null, .null, .int 0])) := S230 _ _ f0
  have nd : List.Nodup [q225, q216, q207, q198, q189, q180, q171, q162, q153, q144, q135, q126, q117, q108, q99, q90, q81, q72, q63, q54, q45, q36, q27, q18, q9, h] := nd_new al hn228 nd
  have al : ∀ z ∈ [q225, q216, q207, q198, q189, q180, q171, q162, q153, q144, q135, q126, q117, q108, q99, q90, q81, q72, q63, q54, q45, q36, q27, q18, q9, h], w226 z ≠ none := al_new al ew227
  have up : ∀ (z : Nat) (e : va_E), w z = some e → z ≠ h → w226 z = some e := fun z e a b => S230 z e (up z e a b)
  refine fw_putF (D := (dC, dI)) (ci := 5) (v := .ref q225) (ty := (.array .int)) (C := R_D) (T := F_D) (N := 36) hx hb hg in_D ft_D ft_D_ok n_D hown hK hP hS f0 rfl 31 (by decide) (hg _ k_622) (fun _ h9 => h9) rfl (hin rfl) rfl (by decide +kernel) rfl rfl (Nat.le_of_ble_eq_true rfl) d_D_init_208 (fun w231 H locs ew232 hP hS => ?_)
  have S233 := st_put ew232
  have f0 : w231 h = some (.inr (5, [.ref q9, .ref q18, .ref q27, .ref q36, .ref q45, .ref q54, .ref q63, .ref q72, .ref q81, .ref q90, .ref q99, .ref q108, .ref q117, .ref q126, .ref q135, .ref q144, .int 0, .int 0, .int 0, .int 0, .int 0, .int 0, .int 0, .ref q153, .ref q162, .ref q171, .ref q180, .ref q189, .ref q198, .ref q207, .ref q216, .ref q225, .null, .null, .null, .int 0])) := by rw [ew232]; exact va_up_self _ _ _
  have al : ∀ z ∈ [q225, q216, q207, q198, q189, q180, q171, q162, q153, q144, q135, q126, q117, q108, q99, q90, q81, q72, q63, q54, q45, q36, q27, q18, q9, h], w231 z ≠ none := al_put al ew232
  have up : ∀ (z : Nat) (e : va_E), w z = some e → z ≠ h → w231 z = some e := fun z e a b => S233 z e (up z e a b) b
  refine lv_aload_n hx hb d_D_init_211 rfl (lv_at hl 0 rfl) ?_
  refine lv_bipush (v := (nI 13)) hx hb d_D_init_212 (by decide) ?_
  refine fw_newa (tys := tyl dA) (atype := .int) (N' := 13) (a0 := (13, .inl (fun _ => 0))) hx hb (hg _ k_106) rfl hK hP hS hA 0 rfl (fun _ => rfl) (by decide) (by decide) (by decide) (Nat.le_of_ble_eq_true rfl) (Nat.le_of_ble_eq_true rfl) d_D_init_214 (fun q234 w235 H hn237 ew236 hP hS => ?_)
  have S239 := st_new ew236 hn237
  have f238 : w235 q234 = some (.inl (dA 0, 13, .inl (fun _ => 0))) := by rw [ew236]; exact va_up_self _ _ _
  have zn_q234 : w q234 = none := no_new (h := h) up hn237 (by rw [f0]; simp)
  have nh_q234 : q234 ≠ h := fun e9 => by rw [e9, f0] at hn237; cases hn237
  have f0 : w235 h = some (.inr (5, [.ref q9, .ref q18, .ref q27, .ref q36, .ref q45, .ref q54, .ref q63, .ref q72, .ref q81, .ref q90, .ref q99, .ref q108, .ref q117, .ref q126, .ref q135, .ref q144, .int 0, .int 0, .int 0, .int 0, .int 0, .int 0, .int 0, .ref q153, .ref q162, .ref q171, .ref q180, .ref q189, .ref q198, .ref q207, .ref q216, .ref q225, .null, .null, .null, .int 0])) := S239 _ _ f0
  have nd : List.Nodup [q234, q225, q216, q207, q198, q189, q180, q171, q162, q153, q144, q135, q126, q117, q108, q99, q90, q81, q72, q63, q54, q45, q36, q27, q18, q9, h] := nd_new al hn237 nd
  have al : ∀ z ∈ [q234, q225, q216, q207, q198, q189, q180, q171, q162, q153, q144, q135, q126, q117, q108, q99, q90, q81, q72, q63, q54, q45, q36, q27, q18, q9, h], w235 z ≠ none := al_new al ew236
  have up : ∀ (z : Nat) (e : va_E), w z = some e → z ≠ h → w235 z = some e := fun z e a b => S239 z e (up z e a b)
  refine fw_putF (D := (dC, dI)) (ci := 5) (v := .ref q234) (ty := (.array .int)) (C := R_D) (T := F_D) (N := 36) hx hb hg in_D ft_D ft_D_ok n_D hown hK hP hS f0 rfl 32 (by decide) (hg _ k_623) (fun _ h9 => h9) rfl (hin rfl) rfl (by decide +kernel) rfl rfl (Nat.le_of_ble_eq_true rfl) d_D_init_216 (fun w240 H locs ew241 hP hS => ?_)
  have S242 := st_put ew241
  have f0 : w240 h = some (.inr (5, [.ref q9, .ref q18, .ref q27, .ref q36, .ref q45, .ref q54, .ref q63, .ref q72, .ref q81, .ref q90, .ref q99, .ref q108, .ref q117, .ref q126, .ref q135, .ref q144, .int 0, .int 0, .int 0, .int 0, .int 0, .int 0, .int 0, .ref q153, .ref q162, .ref q171, .ref q180, .ref q189, .ref q198, .ref q207, .ref q216, .ref q225, .ref q234, .null, .null, .int 0])) := by rw [ew241]; exact va_up_self _ _ _
  have al : ∀ z ∈ [q234, q225, q216, q207, q198, q189, q180, q171, q162, q153, q144, q135, q126, q117, q108, q99, q90, q81, q72, q63, q54, q45, q36, q27, q18, q9, h], w240 z ≠ none := al_put al ew241
  have up : ∀ (z : Nat) (e : va_E), w z = some e → z ≠ h → w240 z = some e := fun z e a b => S242 z e (up z e a b) b
  refine lv_aload_n hx hb d_D_init_219 rfl (lv_at hl 0 rfl) ?_
  refine lv_bipush (v := (nI 13)) hx hb d_D_init_220 (by decide) ?_
  refine fw_newa (tys := tyl dA) (atype := .long) (N' := 13) (a0 := (13, .inr (.inl (fun _ => 0)))) hx hb (hg _ k_107) rfl hK hP hS hA 1 rfl (fun _ => rfl) (by decide) (by decide) (by decide) (Nat.le_of_ble_eq_true rfl) (Nat.le_of_ble_eq_true rfl) d_D_init_222 (fun q243 w244 H hn246 ew245 hP hS => ?_)
  have S248 := st_new ew245 hn246
  have f247 : w244 q243 = some (.inl (dA 1, 13, .inr (.inl (fun _ => 0)))) := by rw [ew245]; exact va_up_self _ _ _
  have zn_q243 : w q243 = none := no_new (h := h) up hn246 (by rw [f0]; simp)
  have nh_q243 : q243 ≠ h := fun e9 => by rw [e9, f0] at hn246; cases hn246
  have f0 : w244 h = some (.inr (5, [.ref q9, .ref q18, .ref q27, .ref q36, .ref q45, .ref q54, .ref q63, .ref q72, .ref q81, .ref q90, .ref q99, .ref q108, .ref q117, .ref q126, .ref q135, .ref q144, .int 0, .int 0, .int 0, .int 0, .int 0, .int 0, .int 0, .ref q153, .ref q162, .ref q171, .ref q180, .ref q189, .ref q198, .ref q207, .ref q216, .ref q225, .ref q234, .null, .null, .int 0])) := S248 _ _ f0
  have nd : List.Nodup [q243, q234, q225, q216, q207, q198, q189, q180, q171, q162, q153, q144, q135, q126, q117, q108, q99, q90, q81, q72, q63, q54, q45, q36, q27, q18, q9, h] := nd_new al hn246 nd
  have al : ∀ z ∈ [q243, q234, q225, q216, q207, q198, q189, q180, q171, q162, q153, q144, q135, q126, q117, q108, q99, q90, q81, q72, q63, q54, q45, q36, q27, q18, q9, h], w244 z ≠ none := al_new al ew245
  have up : ∀ (z : Nat) (e : va_E), w z = some e → z ≠ h → w244 z = some e := fun z e a b => S248 z e (up z e a b)
  refine fw_putF (D := (dC, dI)) (ci := 5) (v := .ref q243) (ty := (.array .long)) (C := R_D) (T := F_D) (N := 36) hx hb hg in_D ft_D ft_D_ok n_D hown hK hP hS f0 rfl 33 (by decide) (hg _ k_624) (fun _ h9 => h9) rfl (hin rfl) rfl (by decide +kernel) rfl rfl (Nat.le_of_ble_eq_true rfl) d_D_init_224 (fun w249 H locs ew250 hP hS => ?_)
  have S251 := st_put ew250
  have f0 : w249 h = some (.inr (5, [.ref q9, .ref q18, .ref q27, .ref q36, .ref q45, .ref q54, .ref q63, .ref q72, .ref q81, .ref q90, .ref q99, .ref q108, .ref q117, .ref q126, .ref q135, .ref q144, .int 0, .int 0, .int 0, .int 0, .int 0, .int 0, .int 0, .ref q153, .ref q162, .ref q171, .ref q180, .ref q189, .ref q198, .ref q207, .ref q216, .ref q225, .ref q234, .ref q243, .null, .int 0])) := by rw [ew250]; exact va_up_self _ _ _
  have al : ∀ z ∈ [q243, q234, q225, q216, q207, q198, q189, q180, q171, q162, q153, q144, q135, q126, q117, q108, q99, q90, q81, q72, q63, q54, q45, q36, q27, q18, q9, h], w249 z ≠ none := al_put al ew250
  have up : ∀ (z : Nat) (e : va_E), w z = some e → z ≠ h → w249 z = some e := fun z e a b => S251 z e (up z e a b) b
  refine lv_aload_n hx hb d_D_init_227 rfl (lv_at hl 0 rfl) ?_
  refine lv_bipush (v := (nI 13)) hx hb d_D_init_228 (by decide) ?_
  refine fw_newa (tys := tyl dA) (atype := .long) (N' := 13) (a0 := (13, .inr (.inl (fun _ => 0)))) hx hb (hg _ k_107) rfl hK hP hS hA 1 rfl (fun _ => rfl) (by decide) (by decide) (by decide) (Nat.le_of_ble_eq_true rfl) (Nat.le_of_ble_eq_true rfl) d_D_init_230 (fun q252 w253 H hn255 ew254 hP hS => ?_)
  have S257 := st_new ew254 hn255
  have f256 : w253 q252 = some (.inl (dA 1, 13, .inr (.inl (fun _ => 0)))) := by rw [ew254]; exact va_up_self _ _ _
  have zn_q252 : w q252 = none := no_new (h := h) up hn255 (by rw [f0]; simp)
  have nh_q252 : q252 ≠ h := fun e9 => by rw [e9, f0] at hn255; cases hn255
  have f0 : w253 h = some (.inr (5, [.ref q9, .ref q18, .ref q27, .ref q36, .ref q45, .ref q54, .ref q63, .ref q72, .ref q81, .ref q90, .ref q99, .ref q108, .ref q117, .ref q126, .ref q135, .ref q144, .int 0, .int 0, .int 0, .int 0, .int 0, .int 0, .int 0, .ref q153, .ref q162, .ref q171, .ref q180, .ref q189, .ref q198, .ref q207, .ref q216, .ref q225, .ref q234, .ref q243, .null, .int 0])) := S257 _ _ f0
  have nd : List.Nodup [q252, q243, q234, q225, q216, q207, q198, q189, q180, q171, q162, q153, q144, q135, q126, q117, q108, q99, q90, q81, q72, q63, q54, q45, q36, q27, q18, q9, h] := nd_new al hn255 nd
  have al : ∀ z ∈ [q252, q243, q234, q225, q216, q207, q198, q189, q180, q171, q162, q153, q144, q135, q126, q117, q108, q99, q90, q81, q72, q63, q54, q45, q36, q27, q18, q9, h], w253 z ≠ none := al_new al ew254
  have up : ∀ (z : Nat) (e : va_E), w z = some e → z ≠ h → w253 z = some e := fun z e a b => S257 z e (up z e a b)
  refine fw_putF (D := (dC, dI)) (ci := 5) (v := .ref q252) (ty := (.array .long)) (C := R_D) (T := F_D) (N := 36) hx hb hg in_D ft_D ft_D_ok n_D hown hK hP hS f0 rfl 34 (by decide) (hg _ k_625) (fun _ h9 => h9) rfl (hin rfl) rfl (by decide +kernel) rfl rfl (Nat.le_of_ble_eq_true rfl) d_D_init_232 (fun w258 H locs ew259 hP hS => ?_)
  have S260 := st_put ew259
  have f0 : w258 h = some (.inr (5, [.ref q9, .ref q18, .ref q27, .ref q36, .ref q45, .ref q54, .ref q63, .ref q72, .ref q81, .ref q90, .ref q99, .ref q108, .ref q117, .ref q126, .ref q135, .ref q144, .int 0, .int 0, .int 0, .int 0, .int 0, .int 0, .int 0, .ref q153, .ref q162, .ref q171, .ref q180, .ref q189, .ref q198, .ref q207, .ref q216, .ref q225, .ref q234, .ref q243, .ref q252, .int 0])) := by rw [ew259]; exact va_up_self _ _ _
  have al : ∀ z ∈ [q252, q243, q234, q225, q216, q207, q198, q189, q180, q171, q162, q153, q144, q135, q126, q117, q108, q99, q90, q81, q72, q63, q54, q45, q36, q27, q18, q9, h], w258 z ≠ none := al_put al ew259
  have up : ∀ (z : Nat) (e : va_E), w z = some e → z ≠ h → w258 z = some e := fun z e a b => S260 z e (up z e a b) b
  refine lv_iconst (v := (nI 0)) hx hb d_D_init_235 (by decide) ?_
  refine lv_istore_n (lv' := [(1, .int (nI 0)), (0, .ref h)]) hx hb d_D_init_236 rfl hl (by decide) rfl (fun ls hl => ?_)
  have T261 : ∀ (z : Nat) (e : va_E), w258 z = some e → z ≠ h → w258 z = some e := fun _ _ a _ => a
  have T262 := fun (z : Nat) (e : va_E) (a : _) (b : z ≠ h) => T261 z e (S260 z e a b) b
  have T263 := fun (z : Nat) (e : va_E) (a : _) (b : z ≠ h) => T262 z e (S257 z e a) b
  have T264 := fun (z : Nat) (e : va_E) (a : _) (b : z ≠ h) => T263 z e (S251 z e a b) b
  have T265 := fun (z : Nat) (e : va_E) (a : _) (b : z ≠ h) => T264 z e (S248 z e a) b
  have T266 := fun (z : Nat) (e : va_E) (a : _) (b : z ≠ h) => T265 z e (S242 z e a b) b
  have T267 := fun (z : Nat) (e : va_E) (a : _) (b : z ≠ h) => T266 z e (S239 z e a) b
  have T268 := fun (z : Nat) (e : va_E) (a : _) (b : z ≠ h) => T267 z e (S233 z e a b) b
  have T269 := fun (z : Nat) (e : va_E) (a : _) (b : z ≠ h) => T268 z e (S230 z e a) b
  have T270 := fun (z : Nat) (e : va_E) (a : _) (b : z ≠ h) => T269 z e (S224 z e a b) b
  have T271 := fun (z : Nat) (e : va_E) (a : _) (b : z ≠ h) => T270 z e (S221 z e a) b
  have T272 := fun (z : Nat) (e : va_E) (a : _) (b : z ≠ h) => T271 z e (S215 z e a b) b
  have T273 := fun (z : Nat) (e : va_E) (a : _) (b : z ≠ h) => T272 z e (S212 z e a) b
  have T274 := fun (z : Nat) (e : va_E) (a : _) (b : z ≠ h) => T273 z e (S206 z e a b) b
  have T275 := fun (z : Nat) (e : va_E) (a : _) (b : z ≠ h) => T274 z e (S203 z e a) b
  have T276 := fun (z : Nat) (e : va_E) (a : _) (b : z ≠ h) => T275 z e (S197 z e a b) b
  have T277 := fun (z : Nat) (e : va_E) (a : _) (b : z ≠ h) => T276 z e (S194 z e a) b
  have T278 := fun (z : Nat) (e : va_E) (a : _) (b : z ≠ h) => T277 z e (S188 z e a b) b
  have T279 := fun (z : Nat) (e : va_E) (a : _) (b : z ≠ h) => T278 z e (S185 z e a) b
  have T280 := fun (z : Nat) (e : va_E) (a : _) (b : z ≠ h) => T279 z e (S179 z e a b) b
  have T281 := fun (z : Nat) (e : va_E) (a : _) (b : z ≠ h) => T280 z e (S176 z e a) b
  have T282 := fun (z : Nat) (e : va_E) (a : _) (b : z ≠ h) => T281 z e (S170 z e a b) b
  have T283 := fun (z : Nat) (e : va_E) (a : _) (b : z ≠ h) => T282 z e (S167 z e a) b
  have T284 := fun (z : Nat) (e : va_E) (a : _) (b : z ≠ h) => T283 z e (S161 z e a b) b
  have T285 := fun (z : Nat) (e : va_E) (a : _) (b : z ≠ h) => T284 z e (S158 z e a) b
  have T286 := fun (z : Nat) (e : va_E) (a : _) (b : z ≠ h) => T285 z e (S152 z e a b) b
  have T287 := fun (z : Nat) (e : va_E) (a : _) (b : z ≠ h) => T286 z e (S149 z e a) b
  have T288 := fun (z : Nat) (e : va_E) (a : _) (b : z ≠ h) => T287 z e (S143 z e a b) b
  have T289 := fun (z : Nat) (e : va_E) (a : _) (b : z ≠ h) => T288 z e (S140 z e a) b
  have T290 := fun (z : Nat) (e : va_E) (a : _) (b : z ≠ h) => T289 z e (S134 z e a b) b
  have T291 := fun (z : Nat) (e : va_E) (a : _) (b : z ≠ h) => T290 z e (S131 z e a) b
  have T292 := fun (z : Nat) (e : va_E) (a : _) (b : z ≠ h) => T291 z e (S125 z e a b) b
  have T293 := fun (z : Nat) (e : va_E) (a : _) (b : z ≠ h) => T292 z e (S122 z e a) b
  have T294 := fun (z : Nat) (e : va_E) (a : _) (b : z ≠ h) => T293 z e (S116 z e a b) b
  have T295 := fun (z : Nat) (e : va_E) (a : _) (b : z ≠ h) => T294 z e (S113 z e a) b
  have T296 := fun (z : Nat) (e : va_E) (a : _) (b : z ≠ h) => T295 z e (S107 z e a b) b
  have T297 := fun (z : Nat) (e : va_E) (a : _) (b : z ≠ h) => T296 z e (S104 z e a) b
  have T298 := fun (z : Nat) (e : va_E) (a : _) (b : z ≠ h) => T297 z e (S98 z e a b) b
  have T299 := fun (z : Nat) (e : va_E) (a : _) (b : z ≠ h) => T298 z e (S95 z e a) b
  have T300 := fun (z : Nat) (e : va_E) (a : _) (b : z ≠ h) => T299 z e (S89 z e a b) b
  have T301 := fun (z : Nat) (e : va_E) (a : _) (b : z ≠ h) => T300 z e (S86 z e a) b
  have T302 := fun (z : Nat) (e : va_E) (a : _) (b : z ≠ h) => T301 z e (S80 z e a b) b
  have T303 := fun (z : Nat) (e : va_E) (a : _) (b : z ≠ h) => T302 z e (S77 z e a) b
  have T304 := fun (z : Nat) (e : va_E) (a : _) (b : z ≠ h) => T303 z e (S71 z e a b) b
  have T305 := fun (z : Nat) (e : va_E) (a : _) (b : z ≠ h) => T304 z e (S68 z e a) b
  have T306 := fun (z : Nat) (e : va_E) (a : _) (b : z ≠ h) => T305 z e (S62 z e a b) b
  have T307 := fun (z : Nat) (e : va_E) (a : _) (b : z ≠ h) => T306 z e (S59 z e a) b
  have T308 := fun (z : Nat) (e : va_E) (a : _) (b : z ≠ h) => T307 z e (S53 z e a b) b
  have T309 := fun (z : Nat) (e : va_E) (a : _) (b : z ≠ h) => T308 z e (S50 z e a) b
  have T310 := fun (z : Nat) (e : va_E) (a : _) (b : z ≠ h) => T309 z e (S44 z e a b) b
  have T311 := fun (z : Nat) (e : va_E) (a : _) (b : z ≠ h) => T310 z e (S41 z e a) b
  have T312 := fun (z : Nat) (e : va_E) (a : _) (b : z ≠ h) => T311 z e (S35 z e a b) b
  have T313 := fun (z : Nat) (e : va_E) (a : _) (b : z ≠ h) => T312 z e (S32 z e a) b
  have T314 := fun (z : Nat) (e : va_E) (a : _) (b : z ≠ h) => T313 z e (S26 z e a b) b
  have T315 := fun (z : Nat) (e : va_E) (a : _) (b : z ≠ h) => T314 z e (S23 z e a) b
  have T316 := fun (z : Nat) (e : va_E) (a : _) (b : z ≠ h) => T315 z e (S17 z e a b) b
  have T317 := fun (z : Nat) (e : va_E) (a : _) (b : z ≠ h) => T316 z e (S14 z e a) b
  obtain ⟨md, hmd⟩ : ∃ md : Nat → Nat, md = mdL [q252, q243, q234, q225, q216, q207, q198, q189, q180, q171, q162, q153, q144, q135, q126, q117, q108, q99, q90, q81, q72, q63, q54, q45, q36, q27, q18, q9, h] := ⟨_, rfl⟩
  have m0 : md 0 = q9 := by rw [hmd]; rfl
  have m1 : md 1 = q18 := by rw [hmd]; rfl
  have m2 : md 2 = q27 := by rw [hmd]; rfl
  have m3 : md 3 = q36 := by rw [hmd]; rfl
  have m4 : md 4 = q45 := by rw [hmd]; rfl
  have m5 : md 5 = q54 := by rw [hmd]; rfl
  have m6 : md 6 = q63 := by rw [hmd]; rfl
  have m7 : md 7 = q72 := by rw [hmd]; rfl
  have m8 : md 8 = q81 := by rw [hmd]; rfl
  have m9 : md 9 = q90 := by rw [hmd]; rfl
  have m10 : md 10 = q99 := by rw [hmd]; rfl
  have m11 : md 11 = q108 := by rw [hmd]; rfl
  have m12 : md 12 = q117 := by rw [hmd]; rfl
  have m13 : md 13 = q126 := by rw [hmd]; rfl
  have m14 : md 14 = q135 := by rw [hmd]; rfl
  have m15 : md 15 = q144 := by rw [hmd]; rfl
  have m23 : md 23 = q153 := by rw [hmd]; rfl
  have m24 : md 24 = q162 := by rw [hmd]; rfl
  have m25 : md 25 = q171 := by rw [hmd]; rfl
  have m26 : md 26 = q180 := by rw [hmd]; rfl
  have m27 : md 27 = q189 := by rw [hmd]; rfl
  have m28 : md 28 = q198 := by rw [hmd]; rfl
  have m29 : md 29 = q207 := by rw [hmd]; rfl
  have m30 : md 30 = q216 := by rw [hmd]; rfl
  have m31 : md 31 = q225 := by rw [hmd]; rfl
  have m32 : md 32 = q234 := by rw [hmd]; rfl
  have m33 : md 33 = q243 := by rw [hmd]; rfl
  have m34 : md 34 = q252 := by rw [hmd]; rfl
  have m36 : md 36 = h := by rw [hmd]; rfl
  have hj : Inj37 md := by rw [hmd]; exact mdL_inj rfl nd
  have hno : ∀ i, U37 i → i ≠ 36 → w (md i) = none := by
    intro i hi hi36
    rcases (show i = 0 ∨ i = 1 ∨ i = 2 ∨ i = 3 ∨ i = 4 ∨ i = 5 ∨ i = 6 ∨ i = 7 ∨ i = 8 ∨ i = 9 ∨ i = 10 ∨ i = 11 ∨ i = 12 ∨ i = 13 ∨ i = 14 ∨ i = 15 ∨ i = 23 ∨ i = 24 ∨ i = 25 ∨ i = 26 ∨ i = 27 ∨ i = 28 ∨ i = 29 ∨ i = 30 ∨ i = 31 ∨ i = 32 ∨ i = 33 ∨ i = 34 by omega) with rfl | rfl | rfl | rfl | rfl | rfl | rfl | rfl | rfl | rfl | rfl | rfl | rfl | rfl | rfl | rfl | rfl | rfl | rfl | rfl | rfl | rfl | rfl | rfl | rfl | rfl | rfl | rfl
    · rw [m0]; exact zn_q9
    · rw [m1]; exact zn_q18
    · rw [m2]; exact zn_q27
    · rw [m3]; exact zn_q36
    · rw [m4]; exact zn_q45
    · rw [m5]; exact zn_q54
    · rw [m6]; exact zn_q63
    · rw [m7]; exact zn_q72
    · rw [m8]; exact zn_q81
    · rw [m9]; exact zn_q90
    · rw [m10]; exact zn_q99
    · rw [m11]; exact zn_q108
    · rw [m12]; exact zn_q117
    · rw [m13]; exact zn_q126
    · rw [m14]; exact zn_q135
    · rw [m15]; exact zn_q144
    · rw [m23]; exact zn_q153
    · rw [m24]; exact zn_q162
    · rw [m25]; exact zn_q171
    · rw [m26]; exact zn_q180
    · rw [m27]; exact zn_q189
    · rw [m28]; exact zn_q198
    · rw [m29]; exact zn_q207
    · rw [m30]; exact zn_q216
    · rw [m31]; exact zn_q225
    · rw [m32]; exact zn_q234
    · rw [m33]; exact zn_q243
    · rw [m34]; exact zn_q252
  have hD : RD dA md w258 μ_0 := by
    unfold RD
    rw [m36, m0, m1, m2, m3, m4, m5, m6, m7, m8, m9, m10, m11, m12, m13, m14, m15, m23, m24, m25, m26, m27, m28, m29, m30, m31, m32, m33, m34]
    exact ⟨f0, (T316 _ _ f13 nh_q9), (T314 _ _ f22 nh_q18), (T312 _ _ f31 nh_q27), (T310 _ _ f40 nh_q36), (T308 _ _ f49 nh_q45), (T306 _ _ f58 nh_q54), (T304 _ _ f67 nh_q63), (T302 _ _ f76 nh_q72), (T300 _ _ f85 nh_q81), ⟨fun _ => false, (T298 _ _ f94 nh_q90)⟩, (T296 _ _ f103 nh_q99), (T294 _ _ f112 nh_q108), (T292 _ _ f121 nh_q117), (T290 _ _ f130 nh_q126), (T288 _ _ f139 nh_q135), (T286 _ _ f148 nh_q144), (T284 _ _ f157 nh_q153), (T282 _ _ f166 nh_q162), (T280 _ _ f175 nh_q171), (T278 _ _ f184 nh_q180), (T276 _ _ f193 nh_q189), (T274 _ _ f202 nh_q198), (T272 _ _ f211 nh_q207), (T270 _ _ f220 nh_q216), (T268 _ _ f229 nh_q225), (T266 _ _ f238 nh_q234), (T264 _ _ f247 nh_q243), (T262 _ _ f256 nh_q252)⟩
  exact tail md m36 hj hno _ _ _ ls hD up hP hS (lv_sub hl [1, 0] rfl)
