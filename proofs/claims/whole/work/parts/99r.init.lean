section CT
variable {w0 w1 : fw_W} {h q : Nat} {v : va_E} {L : List Nat}
theorem st_put (ew : w1 = va_up w0 h (some v)) : ∀ (z : Nat) (e : va_E), w0 z = some e → z ≠ h → w1 z = some e := fun z e a b => by rw [ew, va_up_ne _ _ b]; exact a
theorem st_new (ew : w1 = va_up w0 q (some v)) (hn : w0 q = none) : ∀ (z : Nat) (e : va_E), w0 z = some e → w1 z = some e := fun z e a => by
  rw [ew, va_up_ne _ _ (fun e9 => by rw [e9, hn] at a; cases a)]; exact a
theorem al_put (al : ∀ z ∈ L, w0 z ≠ none) (ew : w1 = va_up w0 q (some v)) : ∀ z ∈ L, w1 z ≠ none := fun z hz => by
  rw [ew]
  by_cases e : z = q
  · rw [e, va_up_self]; simp
  · rw [va_up_ne _ _ e]; exact al z hz
theorem al_new (al : ∀ z ∈ L, w0 z ≠ none) (ew : w1 = va_up w0 q (some v)) : ∀ z ∈ q :: L, w1 z ≠ none := fun z hz => by
  rcases List.mem_cons.mp hz with e | hz
  · rw [e, ew, va_up_self]; simp
  · exact al_put al ew z hz
theorem nd_new (al : ∀ z ∈ L, w0 z ≠ none) (hn : w0 q = none) (nd : L.Nodup) : (q :: L).Nodup := List.nodup_cons.mpr ⟨fun h => al q h hn, nd⟩
theorem no_new {w : fw_W} (up : ∀ (z : Nat) (e : va_E), w z = some e → z ≠ h → w0 z = some e) (hn : w0 q = none) (al : w0 h ≠ none) : w q = none := by
  cases hw : w q with
  | none => rfl
  | some e =>
    have hq : q ≠ h := fun e9 => al (e9 ▸ hn)
    have := up q e hw hq
    rw [hn] at this; cases this
end CT
/-- the place of a field's array among 28, last made first; the object at the end -/
def ps (i : Nat) : Nat := if i < 16 then 27 - i else if i < 35 then 34 - i else 28
def mdL (L : List Nat) (i : Nat) : Nat := L.getD (ps i) 0
theorem mdL_inj {L : List Nat} (hl : L.length = 29) (nd : L.Nodup) : Inj37 (mdL L) := by
  intro i j hi hj e
  have b1 : ps i < 29 := by unfold ps; split <;> try (split <;> omega); omega
  have b2 : ps j < 29 := by unfold ps; split <;> try (split <;> omega); omega
  unfold mdL at e
  rw [List.getD_eq_getElem?_getD, List.getD_eq_getElem?_getD, List.getElem?_eq_getElem (by omega), List.getElem?_eq_getElem (by omega)] at e
  have e' : ps i = ps j := (List.Nodup.getElem_inj_iff nd).mp e
  unfold ps at e'
  rcases hi with hi | hi | hi <;> rcases hj with hj | hj | hj
  · rw [if_pos hi, if_pos hj] at e'; omega
  · rw [if_pos hi, if_neg (by omega), if_pos (by omega)] at e'; omega
  · rw [if_pos hi, if_neg (by omega), if_neg (by omega)] at e'; omega
  · rw [if_neg (by omega), if_pos (by omega), if_pos hj] at e'; omega
  · rw [if_neg (by omega), if_pos (by omega), if_neg (by omega), if_pos (by omega)] at e'; omega
  · rw [if_neg (by omega), if_pos (by omega), if_neg (by omega), if_neg (by omega)] at e'; omega
  · rw [if_neg (by omega), if_neg (by omega), if_pos hj] at e'; omega
  · rw [if_neg (by omega), if_neg (by omega), if_neg (by omega), if_pos (by omega)] at e'; omega
  · omega
def μ_0 : MS := ((fun _ => 0, fun _ => 0, fun _ => 0, fun _ => 0), (fun _ => 0, fun _ => 0, fun _ => 0, fun _ => 0, fun _ => 0), (fun _ => 0, fun _ => 0, 0, fun _ => 0, 0), (fun _ => 0, fun _ => 0, 0, fun _ => 0, 0), (0, 0, false, fun _ => 0, fun _ => 0), (fun _ => 0, fun _ => 0, fun _ => 0, fun _ => 0, fun _ => 0, fun _ => 0, fun _ => 0, fun _ => 0, fun _ => 0, fun _ => 0, 0))
def β_0 : BS := (P_0, fun _ => none, [], fun _ => 0)
set_option maxHeartbeats 4000000 in
set_option maxRecDepth 100000 in
theorem c_D_init {l : Launch} {s0 : State} {dC : Nat → ClassId} {dI : Nat → Nat → Nat} {dA : Nat → ClassId} (B0 : BB s0 dC dI dA) (w : fw_W) (h : Nat) (f0 : w h = some (.inr (5, [.null, .null, .null, .null, .null, .null, .null, .null, .null, .null, .null, .null, .null, .null, .null, .null, .int 0, .int 0, .int 0, .int 0, .int 0, .int 0, .int 0, .null, .null, .null, .null, .null, .null, .null, .null, .null, .null, .null, .null, .int 0]))) : Met l y_D_init [.code y_D_init b_D_init 2 none] ({ frames := 1, cells := 28, slots := 9477, locals := 12 }) (mP s0 dC dI w [.ref h]) (mQv s0 dC dI (fun w' => ∃ (md : Nat → Nat) (μ : MS), Inj37 md ∧ md 36 = h ∧ (∀ i, U37 i → i ≠ 36 → w (md i) = none) ∧ RD dA md w' μ ∧ RQ β_0 μ ∧ ∀ (z : Nat) (e : va_E), w z = some e → z ≠ h → w' z = some e)) 28 9477 (AA s0) := by
  refine mt_ofW B0 (by decide) (Nat.le_of_ble_eq_true rfl) (fun p e s m args below meth c ls hargs X hin hl hP => ?_)
  have X9 := X
  obtain ⟨hx, hb, hr, hml, hown, hg, hK, hn, hE, hlocks, hA⟩ := X9
  have hS : va_S (AA s0) s.heap s.heap [] := va_S.rf
  have hl : lv_has ls 2 [(0, .ref h)] := hl
  have nd : List.Nodup [h] := by simp
  have al : ∀ z ∈ [h], w z ≠ none := fun z hz => by rw [List.mem_singleton.mp hz, f0]; simp
  have up : ∀ (z : Nat) (e : va_E), w z = some e → z ≠ h → w z = some e := fun z e a _ => a
  refine lv_aload_n hx hb d_D_init_0 rfl (lv_at hl 0 rfl) ?_
  refine W.objInit hx hb hown (hg _ k_590) (hg _ k_74) (hg _ k_75) rfl (by rw [hml]; exact hl.1) rfl d_D_init_1 (Nat.le_of_ble_eq_true rfl) (Nat.le_of_ble_eq_true rfl) ?_
  refine W.eq (g2 := F0 m 4 ls []) rfl ?_
  refine lv_aload_n hx hb d_D_init_4 rfl (lv_at hl 0 rfl) ?_
  refine lv_bipush (v := (nI 12)) hx hb d_D_init_5 (by decide) ?_
  refine fw_newa (tys := tyl dA) (atype := .int) (N' := 12) (a0 := (12, .inl (fun _ => 0))) hx hb (hg _ k_106) rfl hK hP hS hA 0 rfl (fun _ => rfl) (by decide) (by decide) (by decide) (Nat.le_of_ble_eq_true rfl) (Nat.le_of_ble_eq_true rfl) d_D_init_7 (fun q1 w2 H hn4 ew3 hP hS => ?_)
  have S6 := st_new ew3 hn4
  have f5 : w2 q1 = some (.inl (dA 0, 12, .inl (fun _ => 0))) := by rw [ew3]; exact va_up_self _ _ _
  have zn_q1 : w q1 = none := no_new (h := h) up hn4 (by rw [f0]; simp)
  have nh_q1 : q1 ≠ h := fun e9 => by rw [e9, f0] at hn4; cases hn4
  have f0 : w2 h = some (.inr (5, [.null, .null, .null, .null, .null, .null, .null, .null, .null, .null, .null, .null, .null, .null, .null, .null, .int 0, .int 0, .int 0, .int 0, .int 0, .int 0, .int 0, .null, .null, .null, .null, .null, .null, .null, .null, .null, .null, .null, .null, .int 0])) := S6 _ _ f0
  have nd : List.Nodup [q1, h] := nd_new al hn4 nd
  have al : ∀ z ∈ [q1, h], w2 z ≠ none := al_new al ew3
  have up : ∀ (z : Nat) (e : va_E), w z = some e → z ≠ h → w2 z = some e := fun z e a b => S6 z e (up z e a b)
  refine fw_putF (D := (dC, dI)) (ci := 5) (v := .ref q1) (ty := (.array .int)) (C := R_D) (T := F_D) (N := 36) hx hb hg in_D ft_D ft_D_ok n_D hown hK hP hS f0 rfl 0 (by decide) (hg _ k_591) (fun _ h9 => h9) rfl (hin rfl) rfl (by decide +kernel) rfl rfl (Nat.le_of_ble_eq_true rfl) d_D_init_9 (fun w7 H locs ew8 hP hS => ?_)
  have S9 := st_put ew8
  have f0 : w7 h = some (.inr (5, [.ref q1, .null, .null, .null, .null, .null, .null, .null, .null, .null, .null, .null, .null, .null, .null, .null, .int 0, .int 0, .int 0, .int 0, .int 0, .int 0, .int 0, .null, .null, .null, .null, .null, .null, .null, .null, .null, .null, .null, .null, .int 0])) := by rw [ew8]; exact va_up_self _ _ _
  have al : ∀ z ∈ [q1, h], w7 z ≠ none := al_put al ew8
  have up : ∀ (z : Nat) (e : va_E), w z = some e → z ≠ h → w7 z = some e := fun z e a b => S9 z e (up z e a b) b
  refine lv_aload_n hx hb d_D_init_12 rfl (lv_at hl 0 rfl) ?_
  refine lv_bipush (v := (nI 12)) hx hb d_D_init_13 (by decide) ?_
  refine fw_newa (tys := tyl dA) (atype := .int) (N' := 12) (a0 := (12, .inl (fun _ => 0))) hx hb (hg _ k_106) rfl hK hP hS hA 0 rfl (fun _ => rfl) (by decide) (by decide) (by decide) (Nat.le_of_ble_eq_true rfl) (Nat.le_of_ble_eq_true rfl) d_D_init_15 (fun q10 w11 H hn13 ew12 hP hS => ?_)
  have S15 := st_new ew12 hn13
  have f14 : w11 q10 = some (.inl (dA 0, 12, .inl (fun _ => 0))) := by rw [ew12]; exact va_up_self _ _ _
  have zn_q10 : w q10 = none := no_new (h := h) up hn13 (by rw [f0]; simp)
  have nh_q10 : q10 ≠ h := fun e9 => by rw [e9, f0] at hn13; cases hn13
  have f0 : w11 h = some (.inr (5, [.ref q1, .null, .null, .null, .null, .null, .null, .null, .null, .null, .null, .null, .null, .null, .null, .null, .int 0, .int 0, .int 0, .int 0, .int 0, .int 0, .int 0, .null, .null, .null, .null, .null, .null, .null, .null, .null, .null, .null, .null, .int 0])) := S15 _ _ f0
  have nd : List.Nodup [q10, q1, h] := nd_new al hn13 nd
  have al : ∀ z ∈ [q10, q1, h], w11 z ≠ none := al_new al ew12
  have up : ∀ (z : Nat) (e : va_E), w z = some e → z ≠ h → w11 z = some e := fun z e a b => S15 z e (up z e a b)
  refine fw_putF (D := (dC, dI)) (ci := 5) (v := .ref q10) (ty := (.array .int)) (C := R_D) (T := F_D) (N := 36) hx hb hg in_D ft_D ft_D_ok n_D hown hK hP hS f0 rfl 1 (by decide) (hg _ k_592) (fun _ h9 => h9) rfl (hin rfl) rfl (by decide +kernel) rfl rfl (Nat.le_of_ble_eq_true rfl) d_D_init_17 (fun w16 H locs ew17 hP hS => ?_)
  have S18 := st_put ew17
  have f0 : w16 h = some (.inr (5, [.ref q1, .ref q10, .null, .null, .null, .null, .null, .null, .null, .null, .null, .null, .null, .null, .null, .null, .int 0, .int 0, .int 0, .int 0, .int 0, .int 0, .int 0, .null, .null, .null, .null, .null, .null, .null, .null, .null, .null, .null, .null, .int 0])) := by rw [ew17]; exact va_up_self _ _ _
  have al : ∀ z ∈ [q10, q1, h], w16 z ≠ none := al_put al ew17
  have up : ∀ (z : Nat) (e : va_E), w z = some e → z ≠ h → w16 z = some e := fun z e a b => S18 z e (up z e a b) b
  refine lv_aload_n hx hb d_D_init_20 rfl (lv_at hl 0 rfl) ?_
  refine lv_bipush (v := (nI 36)) hx hb d_D_init_21 (by decide) ?_
  refine fw_newa (tys := tyl dA) (atype := .int) (N' := 36) (a0 := (36, .inl (fun _ => 0))) hx hb (hg _ k_106) rfl hK hP hS hA 0 rfl (fun _ => rfl) (by decide) (by decide) (by decide) (Nat.le_of_ble_eq_true rfl) (Nat.le_of_ble_eq_true rfl) d_D_init_23 (fun q19 w20 H hn22 ew21 hP hS => ?_)
  have S24 := st_new ew21 hn22
  have f23 : w20 q19 = some (.inl (dA 0, 36, .inl (fun _ => 0))) := by rw [ew21]; exact va_up_self _ _ _
  have zn_q19 : w q19 = none := no_new (h := h) up hn22 (by rw [f0]; simp)
  have nh_q19 : q19 ≠ h := fun e9 => by rw [e9, f0] at hn22; cases hn22
  have f0 : w20 h = some (.inr (5, [.ref q1, .ref q10, .null, .null, .null, .null, .null, .null, .null, .null, .null, .null, .null, .null, .null, .null, .int 0, .int 0, .int 0, .int 0, .int 0, .int 0, .int 0, .null, .null, .null, .null, .null, .null, .null, .null, .null, .null, .null, .null, .int 0])) := S24 _ _ f0
  have nd : List.Nodup [q19, q10, q1, h] := nd_new al hn22 nd
  have al : ∀ z ∈ [q19, q10, q1, h], w20 z ≠ none := al_new al ew21
  have up : ∀ (z : Nat) (e : va_E), w z = some e → z ≠ h → w20 z = some e := fun z e a b => S24 z e (up z e a b)
  refine fw_putF (D := (dC, dI)) (ci := 5) (v := .ref q19) (ty := (.array .int)) (C := R_D) (T := F_D) (N := 36) hx hb hg in_D ft_D ft_D_ok n_D hown hK hP hS f0 rfl 2 (by decide) (hg _ k_593) (fun _ h9 => h9) rfl (hin rfl) rfl (by decide +kernel) rfl rfl (Nat.le_of_ble_eq_true rfl) d_D_init_25 (fun w25 H locs ew26 hP hS => ?_)
  have S27 := st_put ew26
  have f0 : w25 h = some (.inr (5, [.ref q1, .ref q10, .ref q19, .null, .null, .null, .null, .null, .null, .null, .null, .null, .null, .null, .null, .null, .int 0, .int 0, .int 0, .int 0, .int 0, .int 0, .int 0, .null, .null, .null, .null, .null, .null, .null, .null, .null, .null, .null, .null, .int 0])) := by rw [ew26]; exact va_up_self _ _ _
  have al : ∀ z ∈ [q19, q10, q1, h], w25 z ≠ none := al_put al ew26
  have up : ∀ (z : Nat) (e : va_E), w z = some e → z ≠ h → w25 z = some e := fun z e a b => S27 z e (up z e a b) b
  refine lv_aload_n hx hb d_D_init_28 rfl (lv_at hl 0 rfl) ?_
  refine lv_bipush (v := (nI 12)) hx hb d_D_init_29 (by decide) ?_
  refine fw_newa (tys := tyl dA) (atype := .long) (N' := 12) (a0 := (12, .inr (.inl (fun _ => 0)))) hx hb (hg _ k_107) rfl hK hP hS hA 1 rfl (fun _ => rfl) (by decide) (by decide) (by decide) (Nat.le_of_ble_eq_true rfl) (Nat.le_of_ble_eq_true rfl) d_D_init_31 (fun q28 w29 H hn31 ew30 hP hS => ?_)
  have S33 := st_new ew30 hn31
  have f32 : w29 q28 = some (.inl (dA 1, 12, .inr (.inl (fun _ => 0)))) := by rw [ew30]; exact va_up_self _ _ _
  have zn_q28 : w q28 = none := no_new (h := h) up hn31 (by rw [f0]; simp)
  have nh_q28 : q28 ≠ h := fun e9 => by rw [e9, f0] at hn31; cases hn31
  have f0 : w29 h = some (.inr (5, [.ref q1, .ref q10, .ref q19, .null, .null, .null, .null, .null, .null, .null, .null, .null, .null, .null, .null, .null, .int 0, .int 0, .int 0, .int 0, .int 0, .int 0, .int 0, .null, .null, .null, .null, .null, .null, .null, .null, .null, .null, .null, .null, .int 0])) := S33 _ _ f0
  have nd : List.Nodup [q28, q19, q10, q1, h] := nd_new al hn31 nd
  have al : ∀ z ∈ [q28, q19, q10, q1, h], w29 z ≠ none := al_new al ew30
  have up : ∀ (z : Nat) (e : va_E), w z = some e → z ≠ h → w29 z = some e := fun z e a b => S33 z e (up z e a b)
  refine fw_putF (D := (dC, dI)) (ci := 5) (v := .ref q28) (ty := (.array .long)) (C := R_D) (T := F_D) (N := 36) hx hb hg in_D ft_D ft_D_ok n_D hown hK hP hS f0 rfl 3 (by decide) (hg _ k_594) (fun _ h9 => h9) rfl (hin rfl) rfl (by decide +kernel) rfl rfl (Nat.le_of_ble_eq_true rfl) d_D_init_33 (fun w34 H locs ew35 hP hS => ?_)
  have S36 := st_put ew35
  have f0 : w34 h = some (.inr (5, [.ref q1, .ref q10, .ref q19, .ref q28, .null, .null, .null, .null, .null, .null, .null, .null, .null, .null, .null, .null, .int 0, .int 0, .int 0, .int 0, .int 0, .int 0, .int 0, .null, .null, .null, .null, .null, .null, .null, .null, .null, .null, .null, .null, .int 0])) := by rw [ew35]; exact va_up_self _ _ _
  have al : ∀ z ∈ [q28, q19, q10, q1, h], w34 z ≠ none := al_put al ew35
  have up : ∀ (z : Nat) (e : va_E), w z = some e → z ≠ h → w34 z = some e := fun z e a b => S36 z e (up z e a b) b
  refine lv_aload_n hx hb d_D_init_36 rfl (lv_at hl 0 rfl) ?_
  refine lv_sipush (v := (nI 320)) hx hb d_D_init_37 (by decide) ?_
  refine fw_newa (tys := tyl dA) (atype := .int) (N' := 320) (a0 := (320, .inl (fun _ => 0))) hx hb (hg _ k_106) rfl hK hP hS hA 0 rfl (fun _ => rfl) (by decide) (by decide) (by decide) (Nat.le_of_ble_eq_true rfl) (Nat.le_of_ble_eq_true rfl) d_D_init_40 (fun q37 w38 H hn40 ew39 hP hS => ?_)
  have S42 := st_new ew39 hn40
  have f41 : w38 q37 = some (.inl (dA 0, 320, .inl (fun _ => 0))) := by rw [ew39]; exact va_up_self _ _ _
  have zn_q37 : w q37 = none := no_new (h := h) up hn40 (by rw [f0]; simp)
  have nh_q37 : q37 ≠ h := fun e9 => by rw [e9, f0] at hn40; cases hn40
  have f0 : w38 h = some (.inr (5, [.ref q1, .ref q10, .ref q19, .ref q28, .null, .null, .null, .null, .null, .null, .null, .null, .null, .null, .null, .null, .int 0, .int 0, .int 0, .int 0, .int 0, .int 0, .int 0, .null, .null, .null, .null, .null, .null, .null, .null, .null, .null, .null, .null, .int 0])) := S42 _ _ f0
  have nd : List.Nodup [q37, q28, q19, q10, q1, h] := nd_new al hn40 nd
  have al : ∀ z ∈ [q37, q28, q19, q10, q1, h], w38 z ≠ none := al_new al ew39
  have up : ∀ (z : Nat) (e : va_E), w z = some e → z ≠ h → w38 z = some e := fun z e a b => S42 z e (up z e a b)
  refine fw_putF (D := (dC, dI)) (ci := 5) (v := .ref q37) (ty := (.array .int)) (C := R_D) (T := F_D) (N := 36) hx hb hg in_D ft_D ft_D_ok n_D hown hK hP hS f0 rfl 4 (by decide) (hg _ k_595) (fun _ h9 => h9) rfl (hin rfl) rfl (by decide +kernel) rfl rfl (Nat.le_of_ble_eq_true rfl) d_D_init_42 (fun w43 H locs ew44 hP hS => ?_)
  have S45 := st_put ew44
  have f0 : w43 h = some (.inr (5, [.ref q1, .ref q10, .ref q19, .ref q28, .ref q37, .null, .null, .null, .null, .null, .null, .null, .null, .null, .null, .null, .int 0, .int 0, .int 0, .int 0, .int 0, .int 0, .int 0, .null, .null, .null, .null, .null, .null, .null, .null, .null, .null, .null, .null, .int 0])) := by rw [ew44]; exact va_up_self _ _ _
  have al : ∀ z ∈ [q37, q28, q19, q10, q1, h], w43 z ≠ none := al_put al ew44
  have up : ∀ (z : Nat) (e : va_E), w z = some e → z ≠ h → w43 z = some e := fun z e a b => S45 z e (up z e a b) b
  refine lv_aload_n hx hb d_D_init_45 rfl (lv_at hl 0 rfl) ?_
  refine lv_sipush (v := (nI 3840)) hx hb d_D_init_46 (by decide) ?_
  refine fw_newa (tys := tyl dA) (atype := .int) (N' := 3840) (a0 := (3840, .inl (fun _ => 0))) hx hb (hg _ k_106) rfl hK hP hS hA 0 rfl (fun _ => rfl) (by decide) (by decide) (by decide) (Nat.le_of_ble_eq_true rfl) (Nat.le_of_ble_eq_true rfl) d_D_init_49 (fun q46 w47 H hn49 ew48 hP hS => ?_)
  have S51 := st_new ew48 hn49
  have f50 : w47 q46 = some (.inl (dA 0, 3840, .inl (fun _ => 0))) := by rw [ew48]; exact va_up_self _ _ _
  have zn_q46 : w q46 = none := no_new (h := h) up hn49 (by rw [f0]; simp)
  have nh_q46 : q46 ≠ h := fun e9 => by rw [e9, f0] at hn49; cases hn49
  have f0 : w47 h = some (.inr (5, [.ref q1, .ref q10, .ref q19, .ref q28, .ref q37, .null, .null, .null, .null, .null, .null, .null, .null, .null, .null, .null, .int 0, .int 0, .int 0, .int 0, .int 0, .int 0, .int 0, .null, .null, .null, .null, .null, .null, .null, .null, .null, .null, .null, .null, .int 0])) := S51 _ _ f0
  have nd : List.Nodup [q46, q37, q28, q19, q10, q1, h] := nd_new al hn49 nd
  have al : ∀ z ∈ [q46, q37, q28, q19, q10, q1, h], w47 z ≠ none := al_new al ew48
  have up : ∀ (z : Nat) (e : va_E), w z = some e → z ≠ h → w47 z = some e := fun z e a b => S51 z e (up z e a b)
  refine fw_putF (D := (dC, dI)) (ci := 5) (v := .ref q46) (ty := (.array .int)) (C := R_D) (T := F_D) (N := 36) hx hb hg in_D ft_D ft_D_ok n_D hown hK hP hS f0 rfl 5 (by decide) (hg _ k_596) (fun _ h9 => h9) rfl (hin rfl) rfl (by decide +kernel) rfl rfl (Nat.le_of_ble_eq_true rfl) d_D_init_51 (fun w52 H locs ew53 hP hS => ?_)
  have S54 := st_put ew53
  have f0 : w52 h = some (.inr (5, [.ref q1, .ref q10, .ref q19, .ref q28, .ref q37, .ref q46, .null, .null, .null, .null, .null, .null, .null, .null, .null, .null, .int 0, .int 0, .int 0, .int 0, .int 0, .int 0, .int 0, .null, .null, .null, .null, .null, .null, .null, .null, .null, .null, .null, .null, .int 0])) := by rw [ew53]; exact va_up_self _ _ _
  have al : ∀ z ∈ [q46, q37, q28, q19, q10, q1, h], w52 z ≠ none := al_put al ew53
  have up : ∀ (z : Nat) (e : va_E), w z = some e → z ≠ h → w52 z = some e := fun z e a b => S54 z e (up z e a b) b
  refine lv_aload_n hx hb d_D_init_54 rfl (lv_at hl 0 rfl) ?_
  refine lv_sipush (v := (nI 320)) hx hb d_D_init_55 (by decide) ?_
  refine fw_newa (tys := tyl dA) (atype := .int) (N' := 320) (a0 := (320, .inl (fun _ => 0))) hx hb (hg _ k_106) rfl hK hP hS hA 0 rfl (fun _ => rfl) (by decide) (by decide) (by decide) (Nat.le_of_ble_eq_true rfl) (Nat.le_of_ble_eq_true rfl) d_D_init_58 (fun q55 w56 H hn58 ew57 hP hS => ?_)
  have S60 := st_new ew57 hn58
  have f59 : w56 q55 = some (.inl (dA 0, 320, .inl (fun _ => 0))) := by rw [ew57]; exact va_up_self _ _ _
  have zn_q55 : w q55 = none := no_new (h := h) up hn58 (by rw [f0]; simp)
  have nh_q55 : q55 ≠ h := fun e9 => by rw [e9, f0] at hn58; cases hn58
  have f0 : w56 h = some (.inr (5, [.ref q1, .ref q10, .ref q19, .ref q28, .ref q37, .ref q46, .null, .null, .null, .null, .null, .null, .null, .null, .null, .null, .int 0, .int 0, .int 0, .int 0, .int 0, .int 0, .int 0, .null, .null, .null, .null, .null, .null, .null, .null, .null, .null, .null, .null, .int 0])) := S60 _ _ f0
  have nd : List.Nodup [q55, q46, q37, q28, q19, q10, q1, h] := nd_new al hn58 nd
  have al : ∀ z ∈ [q55, q46, q37, q28, q19, q10, q1, h], w56 z ≠ none := al_new al ew57
  have up : ∀ (z : Nat) (e : va_E), w z = some e → z ≠ h → w56 z = some e := fun z e a b => S60 z e (up z e a b)
  refine fw_putF (D := (dC, dI)) (ci := 5) (v := .ref q55) (ty := (.array .int)) (C := R_D) (T := F_D) (N := 36) hx hb hg in_D ft_D ft_D_ok n_D hown hK hP hS f0 rfl 6 (by decide) (hg _ k_597) (fun _ h9 => h9) rfl (hin rfl) rfl (by decide +kernel) rfl rfl (Nat.le_of_ble_eq_true rfl) d_D_init_60 (fun w61 H locs ew62 hP hS => ?_)
  have S63 := st_put ew62
  have f0 : w61 h = some (.inr (5, [.ref q1, .ref q10, .ref q19, .ref q28, .ref q37, .ref q46, .ref q55, .null, .null, .null, .null, .null, .null, .null, .null, .null, .int 0, .int 0, .int 0, .int 0, .int 0, .int 0, .int 0, .null, .null, .null, .null, .null, .null, .null, .null, .null, .null, .null, .null, .int 0])) := by rw [ew62]; exact va_up_self _ _ _
  have al : ∀ z ∈ [q55, q46, q37, q28, q19, q10, q1, h], w61 z ≠ none := al_put al ew62
  have up : ∀ (z : Nat) (e : va_E), w z = some e → z ≠ h → w61 z = some e := fun z e a b => S63 z e (up z e a b) b
  refine lv_aload_n hx hb d_D_init_63 rfl (lv_at hl 0 rfl) ?_
  refine lv_sipush (v := (nI 3840)) hx hb d_D_init_64 (by decide) ?_
  refine fw_newa (tys := tyl dA) (atype := .long) (N' := 3840) (a0 := (3840, .inr (.inl (fun _ => 0)))) hx hb (hg _ k_107) rfl hK hP hS hA 1 rfl (fun _ => rfl) (by decide) (by decide) (by decide) (Nat.le_of_ble_eq_true rfl) (Nat.le_of_ble_eq_true rfl) d_D_init_67 (fun q64 w65 H hn67 ew66 hP hS => ?_)
  have S69 := st_new ew66 hn67
  have f68 : w65 q64 = some (.inl (dA 1, 3840, .inr (.inl (fun _ => 0)))) := by rw [ew66]; exact va_up_self _ _ _
  have zn_q64 : w q64 = none := no_new (h := h) up hn67 (by rw [f0]; simp)
  have nh_q64 : q64 ≠ h := fun e9 => by rw [e9, f0] at hn67; cases hn67
  have f0 : w65 h = some (.inr (5, [.ref q1, .ref q10, .ref q19, .ref q28, .ref q37, .ref q46, .ref q55, .null, .null, .null, .null, .null, .null, .null, .null, .null, .int 0, .int 0, .int 0, .int 0, .int 0, .int 0, .int 0, .null, .null, .null, .null, .null, .null, .null, .null, .null, .null, .null, .null, .int 0])) := S69 _ _ f0
  have nd : List.Nodup [q64, q55, q46, q37, q28, q19, q10, q1, h] := nd_new al hn67 nd
  have al : ∀ z ∈ [q64, q55, q46, q37, q28, q19, q10, q1, h], w65 z ≠ none := al_new al ew66
  have up : ∀ (z : Nat) (e : va_E), w z = some e → z ≠ h → w65 z = some e := fun z e a b => S69 z e (up z e a b)
  refine fw_putF (D := (dC, dI)) (ci := 5) (v := .ref q64) (ty := (.array .long)) (C := R_D) (T := F_D) (N := 36) hx hb hg in_D ft_D ft_D_ok n_D hown hK hP hS f0 rfl 7 (by decide) (hg _ k_598) (fun _ h9 => h9) rfl (hin rfl) rfl (by decide +kernel) rfl rfl (Nat.le_of_ble_eq_true rfl) d_D_init_69 (fun w70 H locs ew71 hP hS => ?_)
  have S72 := st_put ew71
  have f0 : w70 h = some (.inr (5, [.ref q1, .ref q10, .ref q19, .ref q28, .ref q37, .ref q46, .ref q55, .ref q64, .null, .null, .null, .null, .null, .null, .null, .null, .int 0, .int 0, .int 0, .int 0, .int 0, .int 0, .int 0, .null, .null, .null, .null, .null, .null, .null, .null, .null, .null, .null, .null, .int 0])) := by rw [ew71]; exact va_up_self _ _ _
  have al : ∀ z ∈ [q64, q55, q46, q37, q28, q19, q10, q1, h], w70 z ≠ none := al_put al ew71
  have up : ∀ (z : Nat) (e : va_E), w z = some e → z ≠ h → w70 z = some e := fun z e a b => S72 z e (up z e a b) b
  refine lv_aload_n hx hb d_D_init_72 rfl (lv_at hl 0 rfl) ?_
  refine lv_sipush (v := (nI 320)) hx hb d_D_init_73 (by decide) ?_
  refine fw_newa (tys := tyl dA) (atype := .long) (N' := 320) (a0 := (320, .inr (.inl (fun _ => 0)))) hx hb (hg _ k_107) rfl hK hP hS hA 1 rfl (fun _ => rfl) (by decide) (by decide) (by decide) (Nat.le_of_ble_eq_true rfl) (Nat.le_of_ble_eq_true rfl) d_D_init_76 (fun q73 w74 H hn76 ew75 hP hS => ?_)
  have S78 := st_new ew75 hn76
  have f77 : w74 q73 = some (.inl (dA 1, 320, .inr (.inl (fun _ => 0)))) := by rw [ew75]; exact va_up_self _ _ _
  have zn_q73 : w q73 = none := no_new (h := h) up hn76 (by rw [f0]; simp)
  have nh_q73 : q73 ≠ h := fun e9 => by rw [e9, f0] at hn76; cases hn76
  have f0 : w74 h = some (.inr (5, [.ref q1, .ref q10, .ref q19, .ref q28, .ref q37, .ref q46, .ref q55, .ref q64, .null, .null, .null, .null, .null, .null, .null, .null, .int 0, .int 0, .int 0, .int 0, .int 0, .int 0, .int 0, .null, .null, .null, .null, .null, .null, .null, .null, .null, .null, .null, .null, .int 0])) := S78 _ _ f0
  have nd : List.Nodup [q73, q64, q55, q46, q37, q28, q19, q10, q1, h] := nd_new al hn76 nd
  have al : ∀ z ∈ [q73, q64, q55, q46, q37, q28, q19, q10, q1, h], w74 z ≠ none := al_new al ew75
  have up : ∀ (z : Nat) (e : va_E), w z = some e → z ≠ h → w74 z = some e := fun z e a b => S78 z e (up z e a b)
  refine fw_putF (D := (dC, dI)) (ci := 5) (v := .ref q73) (ty := (.array .long)) (C := R_D) (T := F_D) (N := 36) hx hb hg in_D ft_D ft_D_ok n_D hown hK hP hS f0 rfl 8 (by decide) (hg _ k_599) (fun _ h9 => h9) rfl (hin rfl) rfl (by decide +kernel) rfl rfl (Nat.le_of_ble_eq_true rfl) d_D_init_78 (fun w79 H locs ew80 hP hS => ?_)
  have S81 := st_put ew80
  have f0 : w79 h = some (.inr (5, [.ref q1, .ref q10, .ref q19, .ref q28, .ref q37, .ref q46, .ref q55, .ref q64, .ref q73, .null, .null, .null, .null, .null, .null, .null, .int 0, .int 0, .int 0, .int 0, .int 0, .int 0, .int 0, .null, .null, .null, .null, .null, .null, .null, .null, .null, .null, .null, .null, .int 0])) := by rw [ew80]; exact va_up_self _ _ _
  have al : ∀ z ∈ [q73, q64, q55, q46, q37, q28, q19, q10, q1, h], w79 z ≠ none := al_put al ew80
  have up : ∀ (z : Nat) (e : va_E), w z = some e → z ≠ h → w79 z = some e := fun z e a b => S81 z e (up z e a b) b
  refine lv_aload_n hx hb d_D_init_81 rfl (lv_at hl 0 rfl) ?_
  refine lv_sipush (v := (nI 320)) hx hb d_D_init_82 (by decide) ?_
  refine fw_newa (tys := tyl dA) (atype := .boolean) (N' := 320) (a0 := (320, .inl (zf (fun _ => false)))) hx hb (hg _ k_169) rfl hK hP hS hA 2 rfl (fun _ => rfl) (by decide) (by decide) (by decide) (Nat.le_of_ble_eq_true rfl) (Nat.le_of_ble_eq_true rfl) d_D_init_85 (fun q82 w83 H hn85 ew84 hP hS => ?_)
  have S87 := st_new ew84 hn85
  have f86 : w83 q82 = some (.inl (dA 2, 320, .inl (zf (fun _ => false)))) := by rw [ew84]; exact va_up_self _ _ _
  have zn_q82 : w q82 = none := no_new (h := h) up hn85 (by rw [f0]; simp)
  have nh_q82 : q82 ≠ h := fun e9 => by rw [e9, f0] at hn85; cases hn85
  have f0 : w83 h = some (.inr (5, [.ref q1, .ref q10, .ref q19, .ref q28, .ref q37, .ref q46, .ref q55, .ref q64, .ref q73, .null, .null, .null, .null, .null, .null, .null, .int 0, .int 0, .int 0, .int 0, .int 0, .int 0, .int 0, .null, .null, .null, .null, .null, .null, .null, .null, .null, .null, .null, .null, .int 0])) := S87 _ _ f0
  have nd : List.Nodup [q82, q73, q64, q55, q46, q37, q28, q19, q10, q1, h] := nd_new al hn85 nd
  have al : ∀ z ∈ [q82, q73, q64, q55, q46, q37, q28, q19, q10, q1, h], w83 z ≠ none := al_new al ew84
  have up : ∀ (z : Nat) (e : va_E), w z = some e → z ≠ h → w83 z = some e := fun z e a b => S87 z e (up z e a b)
  refine fw_putF (D := (dC, dI)) (ci := 5) (v := .ref q82) (ty := (.array .boolean)) (C := R_D) (T := F_D) (N := 36) hx hb hg in_D ft_D ft_D_ok n_D hown hK hP hS f0 rfl 9 (by decide) (hg _ k_600) (fun _ h9 => h9) rfl (hin rfl) rfl (by decide +kernel) rfl rfl (Nat.le_of_ble_eq_true rfl) d_D_init_87 (fun w88 H locs ew89 hP hS => ?_)
  have S90 := st_put ew89
  have f0 : w88 h = some (.inr (5, [.ref q1, .ref q10, .ref q19, .ref q28, .ref q37, .ref q46, .ref q55, .ref q64, .ref q73, .ref q82, .null, .null, .null, .null, .null, .null, .int 0, .int 0, .int 0, .int 0, .int 0, .int 0, .int 0, .null, .null, .null, .null, .null, .null, .null, .null, .null, .null, .null, .null, .int 0])) := by rw [ew89]; exact va_up_self _ _ _
  have al : ∀ z ∈ [q82, q73, q64, q55, q46, q37, q28, q19, q10, q1, h], w88 z ≠ none := al_put al ew89
  have up : ∀ (z : Nat) (e : va_E), w z = some e → z ≠ h → w88 z = some e := fun z e a b => S90 z e (up z e a b) b
  refine lv_aload_n hx hb d_D_init_90 rfl (lv_at hl 0 rfl) ?_
  refine lv_bipush (v := (nI 24)) hx hb d_D_init_91 (by decide) ?_
  refine fw_newa (tys := tyl dA) (atype := .int) (N' := 24) (a0 := (24, .inl (fun _ => 0))) hx hb (hg _ k_106) rfl hK hP hS hA 0 rfl (fun _ => rfl) (by decide) (by decide) (by decide) (Nat.le_of_ble_eq_true rfl) (Nat.le_of_ble_eq_true rfl) d_D_init_93 (fun q91 w92 H hn94 ew93 hP hS => ?_)
  have S96 := st_new ew93 hn94
  have f95 : w92 q91 = some (.inl (dA 0, 24, .inl (fun _ => 0))) := by rw [ew93]; exact va_up_self _ _ _
  have zn_q91 : w q91 = none := no_new (h := h) up hn94 (by rw [f0]; simp)
  have nh_q91 : q91 ≠ h := fun e9 => by rw [e9, f0] at hn94; cases hn94
  have f0 : w92 h = some (.inr (5, [.ref q1, .ref q10, .ref q19, .ref q28, .ref q37, .ref q46, .ref q55, .ref q64, .ref q73, .ref q82, .null, .null, .null, .null, .null, .null, .int 0, .int 0, .int 0, .int 0, .int 0, .int 0, .int 0, .null, .null, .null, .null, .null, .null, .null, .null, .null, .null, .null, .null, .int 0])) := S96 _ _ f0
  have nd : List.Nodup [q91, q82, q73, q64, q55, q46, q37, q28, q19, q10, q1, h] := nd_new al hn94 nd
  have al : ∀ z ∈ [q91, q82, q73, q64, q55, q46, q37, q28, q19, q10, q1, h], w92 z ≠ none := al_new al ew93
  have up : ∀ (z : Nat) (e : va_E), w z = some e → z ≠ h → w92 z = some e := fun z e a b => S96 z e (up z e a b)
  refine fw_putF (D := (dC, dI)) (ci := 5) (v := .ref q91) (ty := (.array .int)) (C := R_D) (T := F_D) (N := 36) hx hb hg in_D ft_D ft_D_ok n_D hown hK hP hS f0 rfl 10 (by decide) (hg _ k_601) (fun _ h9 => h9) rfl (hin rfl) rfl (by decide +kernel) rfl rfl (Nat.le_of_ble_eq_true rfl) d_D_init_95 (fun w97 H locs ew98 hP hS => ?_)
  have S99 := st_put ew98
  have f0 : w97 h = some (.inr (5, [.ref q1, .ref q10, .ref q19, .ref q28, .ref q37, .ref q46, .ref q55, .ref q64, .ref q73, .ref q82, .ref q91, .null, .null, .null, .null, .null, .int 0, .int 0, .int 0, .int 0, .int 0, .int 0, .int 0, .null, .null, .null, .null, .null, .null, .null, .null, .null, .null, .null, .null, .int 0])) := by rw [ew98]; exact va_up_self _ _ _
  have al : ∀ z ∈ [q91, q82, q73, q64, q55, q46, q37, q28, q19, q10, q1, h], w97 z ≠ none := al_put al ew98
  have up : ∀ (z : Nat) (e : va_E), w z = some e → z ≠ h → w97 z = some e := fun z e a b => S99 z e (up z e a b) b
  refine lv_aload_n hx hb d_D_init_98 rfl (lv_at hl 0 rfl) ?_
  refine lv_bipush (v := (nI 24)) hx hb d_D_init_99 (by decide) ?_
  refine fw_newa (tys := tyl dA) (atype := .int) (N' := 24) (a0 := (24, .inl (fun _ => 0))) hx hb (hg _ k_106) rfl hK hP hS hA 0 rfl (fun _ => rfl) (by decide) (by decide) (by decide) (Nat.le_of_ble_eq_true rfl) (Nat.le_of_ble_eq_true rfl) d_D_init_101 (fun q100 w101 H hn103 ew102 hP hS => ?_)
  have S105 := st_new ew102 hn103
  have f104 : w101 q100 = some (.inl (dA 0, 24, .inl (fun _ => 0))) := by rw [ew102]; exact va_up_self _ _ _
  have zn_q100 : w q100 = none := no_new (h := h) up hn103 (by rw [f0]; simp)
  have nh_q100 : q100 ≠ h := fun e9 => by rw [e9, f0] at hn103; cases hn103
  have f0 : w101 h = some (.inr (5, [.ref q1, .ref q10, .ref q19, .ref q28, .ref q37, .ref q46, .ref q55, .ref q64, .ref q73, .ref q82, .ref q91, .null, .null, .null, .null, .null, .int 0, .int 0, .int 0, .int 0, .int 0, .int 0, .int 0, .null, .null, .null, .null, .null, .null, .null, .null, .null, .null, .null, .null, .int 0])) := S105 _ _ f0
  have nd : List.Nodup [q100, q91, q82, q73, q64, q55, q46, q37, q28, q19, q10, q1, h] := nd_new al hn103 nd
  have al : ∀ z ∈ [q100, q91, q82, q73, q64, q55, q46, q37, q28, q19, q10, q1, h], w101 z ≠ none := al_new al ew102
  have up : ∀ (z : Nat) (e : va_E), w z = some e → z ≠ h → w101 z = some e := fun z e a b => S105 z e (up z e a b)
  refine fw_putF (D := (dC, dI)) (ci := 5) (v := .ref q100) (ty := (.array .int)) (C := R_D) (T := F_D) (N := 36) hx hb hg in_D ft_D ft_D_ok n_D hown hK hP hS f0 rfl 11 (by decide) (hg _ k_602) (fun _ h9 => h9) rfl (hin rfl) rfl (by decide +kernel) rfl rfl (Nat.le_of_ble_eq_true rfl) d_D_init_103 (fun w106 H locs ew107 hP hS => ?_)
  have S108 := st_put ew107
  have f0 : w106 h = some (.inr (5, [.ref q1, .ref q10, .ref q19, .ref q28, .ref q37, .ref q46, .ref q55, .ref q64, .ref q73, .ref q82, .ref q91, .ref q100, .null, .null, .null, .null, .int 0, .int 0, .int 0, .int 0, .int 0, .int 0, .int 0, .null, .null, .null, .null, .null, .null, .null, .null, .null, .null, .null, .null, .int 0])) := by rw [ew107]; exact va_up_self _ _ _
  have al : ∀ z ∈ [q100, q91, q82, q73, q64, q55, q46, q37, q28, q19, q10, q1, h], w106 z ≠ none := al_put al ew107
  have up : ∀ (z : Nat) (e : va_E), w z = some e → z ≠ h → w106 z = some e := fun z e a b => S108 z e (up z e a b) b
  refine lv_aload_n hx hb d_D_init_106 rfl (lv_at hl 0 rfl) ?_
  refine lv_bipush (v := (nI 17)) hx hb d_D_init_107 (by decide) ?_
  refine fw_newa (tys := tyl dA) (atype := .int) (N' := 17) (a0 := (17, .inl (fun _ => 0))) hx hb (hg _ k_106) rfl hK hP hS hA 0 rfl (fun _ => rfl) (by decide) (by decide) (by decide) (Nat.le_of_ble_eq_true rfl) (Nat.le_of_ble_eq_true rfl) d_D_init_109 (fun q109 w110 H hn112 ew111 hP hS => ?_)
  have S114 := st_new ew111 hn112
  have f113 : w110 q109 = some (.inl (dA 0, 17, .inl (fun _ => 0))) := by rw [ew111]; exact va_up_self _ _ _
  have zn_q109 : w q109 = none := no_new (h := h) up hn112 (by rw [f0]; simp)
  have nh_q109 : q109 ≠ h := fun e9 => by rw [e9, f0] at hn112; cases hn112
  have f0 : w110 h = some (.inr (5, [.ref q1, .ref q10, .ref q19, .ref q28, .ref q37, .ref q46, .ref q55, .ref q64, .ref q73, .ref q82, .ref q91, .ref q100, .null, .null, .null, .null, .int 0, .int 0, .int 0, .int 0, .int 0, .int 0, .int 0, .null, .null, .null, .null, .null, .null, .null, .null, .null, .null, .null, .null, .int 0])) := S114 _ _ f0
  have nd : List.Nodup [q109, q100, q91, q82, q73, q64, q55, q46, q37, q28, q19, q10, q1, h] := nd_new al hn112 nd
  have al : ∀ z ∈ [q109, q100, q91, q82, q73, q64, q55, q46, q37, q28, q19, q10, q1, h], w110 z ≠ none := al_new al ew111
  have up : ∀ (z : Nat) (e : va_E), w z = some e → z ≠ h → w110 z = some e := fun z e a b => S114 z e (up z e a b)
  refine fw_putF (D := (dC, dI)) (ci := 5) (v := .ref q109) (ty := (.array .int)) (C := R_D) (T := F_D) (N := 36) hx hb hg in_D ft_D ft_D_ok n_D hown hK hP hS f0 rfl 12 (by decide) (hg _ k_603) (fun _ h9 => h9) rfl (hin rfl) rfl (by decide +kernel) rfl rfl (Nat.le_of_ble_eq_true rfl) d_D_init_111 (fun w115 H locs ew116 hP hS => ?_)
  have S117 := st_put ew116
  have f0 : w115 h = some (.inr (5, [.ref q1, .ref q10, .ref q19, .ref q28, .ref q37, .ref q46, .ref q55, .ref q64, .ref q73, .ref q82, .ref q91, .ref q100, .ref q109, .null, .null, .null, .int 0, .int 0, .int 0, .int 0, .int 0, .int 0, .int 0, .null, .null, .null, .null, .null, .null, .null, .null, .null, .null, .null, .null, .int 0])) := by rw [ew116]; exact va_up_self _ _ _
  have al : ∀ z ∈ [q109, q100, q91, q82, q73, q64, q55, q46, q37, q28, q19, q10, q1, h], w115 z ≠ none := al_put al ew116
  have up : ∀ (z : Nat) (e : va_E), w z = some e → z ≠ h → w115 z = some e := fun z e a b => S117 z e (up z e a b) b
  refine lv_aload_n hx hb d_D_init_114 rfl (lv_at hl 0 rfl) ?_
  refine lv_bipush (v := (nI 17)) hx hb d_D_init_115 (by decide) ?_
  refine fw_newa (tys := tyl dA) (atype := .int) (N' := 17) (a0 := (17, .inl (fun _ => 0))) hx hb (hg _ k_106) rfl hK hP hS hA 0 rfl (fun _ => rfl) (by decide) (by decide) (by decide) (Nat.le_of_ble_eq_true rfl) (Nat.le_of_ble_eq_true rfl) d_D_init_117 (fun q118 w119 H hn121 ew120 hP hS => ?_)
  have S123 := st_new ew120 hn121
  have f122 : w119 q118 = some (.inl (dA 0, 17, .inl (fun _ => 0))) := by rw [ew120]; exact va_up_self _ _ _
  have zn_q118 : w q118 = none := no_new (h := h) up hn121 (by rw [f0]; simp)
  have nh_q118 : q118 ≠ h := fun e9 => by rw [e9, f0] at hn121; cases hn121
  have f0 : w119 h = some (.inr (5, [.ref q1, .ref q10, .ref q19, .ref q28, .ref q37, .ref q46, .ref q55, .ref q64, .ref q73, .ref q82, .ref q91, .ref q100, .ref q109, .null, .null, .null, .int 0, .int 0, .int 0, .int 0, .int 0, .int 0, .int 0, .null, .null, .null, .null, .null, .null, .null, .null, .null, .null, .null, .null, .int 0])) := S123 _ _ f0
  have nd : List.Nodup [q118, q109, q100, q91, q82, q73, q64, q55, q46, q37, q28, q19, q10, q1, h] := nd_new al hn121 nd
  have al : ∀ z ∈ [q118, q109, q100, q91, q82, q73, q64, q55, q46, q37, q28, q19, q10, q1, h], w119 z ≠ none := al_new al ew120
  have up : ∀ (z : Nat) (e : va_E), w z = some e → z ≠ h → w119 z = some e := fun z e a b => S123 z e (up z e a b)
  refine fw_putF (D := (dC, dI)) (ci := 5) (v := .ref q118) (ty := (.array .int)) (C := R_D) (T := F_D) (N := 36) hx hb hg in_D ft_D ft_D_ok n_D hown hK hP hS f0 rfl 13 (by decide) (hg _ k_604) (fun _ h9 => h9) rfl (hin rfl) rfl (by decide +kernel) rfl rfl (Nat.le_of_ble_eq_true rfl) d_D_init_119 (fun w124 H locs ew125 hP hS => ?_)
  have S126 := st_put ew125
  have f0 : w124 h = some (.inr (5, [.ref q1, .ref q10, .ref q19, .ref q28, .ref q37, .ref q46, .ref q55, .ref q64, .ref q73, .ref q82, .ref q91, .ref q100, .ref q109, .ref q118, .null, .null, .int 0, .int 0, .int 0, .int 0, .int 0, .int 0, .int 0, .null, .null, .null, .null, .null, .null, .null, .null, .null, .null, .null, .null, .int 0])) := by rw [ew125]; exact va_up_self _ _ _
  have al : ∀ z ∈ [q118, q109, q100, q91, q82, q73, q64, q55, q46, q37, q28, q19, q10, q1, h], w124 z ≠ none := al_put al ew125
  have up : ∀ (z : Nat) (e : va_E), w z = some e → z ≠ h → w124 z = some e := fun z e a b => S126 z e (up z e a b) b
  refine lv_aload_n hx hb d_D_init_122 rfl (lv_at hl 0 rfl) ?_
  refine lv_bipush (v := (nI 7)) hx hb d_D_init_123 (by decide) ?_
  refine fw_newa (tys := tyl dA) (atype := .int) (N' := 7) (a0 := (7, .inl (fun _ => 0))) hx hb (hg _ k_106) rfl hK hP hS hA 0 rfl (fun _ => rfl) (by decide) (by decide) (by decide) (Nat.le_of_ble_eq_true rfl) (Nat.le_of_ble_eq_true rfl) d_D_init_125 (fun q127 w128 H hn130 ew129 hP hS => ?_)
  have S132 := st_new ew129 hn130
  have f131 : w128 q127 = some (.inl (dA 0, 7, .inl (fun _ => 0))) := by rw [ew129]; exact va_up_self _ _ _
  have zn_q127 : w q127 = none := no_new (h := h) up hn130 (by rw [f0]; simp)
  have nh_q127 : q127 ≠ h := fun e9 => by rw [e9, f0] at hn130; cases hn130
  have f0 : w128 h = some (.inr (5, [.ref q1, .ref q10, .ref q19, .ref q28, .ref q37, .ref q46, .ref q55, .ref q64, .ref q73, .ref q82, .ref q91, .ref q100, .ref q109, .ref q118, .null, .null, .int 0, .int 0, .int 0, .int 0, .int 0, .int 0, .int 0, .null, .null, .null, .null, .null, .null, .null, .null, .null, .null, .null, .null, .int 0])) := S132 _ _ f0
  have nd : List.Nodup [q127, q118, q109, q100, q91, q82, q73, q64, q55, q46, q37, q28, q19, q10, q1, h] := nd_new al hn130 nd
  have al : ∀ z ∈ [q127, q118, q109, q100, q91, q82, q73, q64, q55, q46, q37, q28, q19, q10, q1, h], w128 z ≠ none := al_new al ew129
  have up : ∀ (z : Nat) (e : va_E), w z = some e → z ≠ h → w128 z = some e := fun z e a b => S132 z e (up z e a b)
  refine fw_putF (D := (dC, dI)) (ci := 5) (v := .ref q127) (ty := (.array .int)) (C := R_D) (T := F_D) (N := 36) hx hb hg in_D ft_D ft_D_ok n_D hown hK hP hS f0 rfl 14 (by decide) (hg _ k_605) (fun _ h9 => h9) rfl (hin rfl) rfl (by decide +kernel) rfl rfl (Nat.le_of_ble_eq_true rfl) d_D_init_127 (fun w133 H locs ew134 hP hS => ?_)
  have S135 := st_put ew134
  have f0 : w133 h = some (.inr (5, [.ref q1, .ref q10, .ref q19, .ref q28, .ref q37, .ref q46, .ref q55, .ref q64, .ref q73, .ref q82, .ref q91, .ref q100, .ref q109, .ref q118, .ref q127, .null, .int 0, .int 0, .int 0, .int 0, .int 0, .int 0, .int 0, .null, .null, .null, .null, .null, .null, .null, .null, .null, .null, .null, .null, .int 0])) := by rw [ew134]; exact va_up_self _ _ _
  have al : ∀ z ∈ [q127, q118, q109, q100, q91, q82, q73, q64, q55, q46, q37, q28, q19, q10, q1, h], w133 z ≠ none := al_put al ew134
  have up : ∀ (z : Nat) (e : va_E), w z = some e → z ≠ h → w133 z = some e := fun z e a b => S135 z e (up z e a b) b
  refine lv_aload_n hx hb d_D_init_130 rfl (lv_at hl 0 rfl) ?_
  refine lv_bipush (v := (nI 7)) hx hb d_D_init_131 (by decide) ?_
  refine fw_newa (tys := tyl dA) (atype := .int) (N' := 7) (a0 := (7, .inl (fun _ => 0))) hx hb (hg _ k_106) rfl hK hP hS hA 0 rfl (fun _ => rfl) (by decide) (by decide) (by decide) (Nat.le_of_ble_eq_true rfl) (Nat.le_of_ble_eq_true rfl) d_D_init_133 (fun q136 w137 H hn139 ew138 hP hS => ?_)
  have S141 := st_new ew138 hn139
  have f140 : w137 q136 = some (.inl (dA 0, 7, .inl (fun _ => 0))) := by rw [ew138]; exact va_up_self _ _ _
  have zn_q136 : w q136 = none := no_new (h := h) up hn139 (by rw [f0]; simp)
  have nh_q136 : q136 ≠ h := fun e9 => by rw [e9, f0] at hn139; cases hn139
  have f0 : w137 h = some (.inr (5, [.ref q1, .ref q10, .ref q19, .ref q28, .ref q37, .ref q46, .ref q55, .ref q64, .ref q73, .ref q82, .ref q91, .ref q100, .ref q109, .ref q118, .ref q127, .null, .int 0, .int 0, .int 0, .int 0, .int 0, .int 0, .int 0, .null, .null, .null, .null, .null, .null, .null, .null, .null, .null, .null, .null, .int 0])) := S141 _ _ f0
  have nd : List.Nodup [q136, q127, q118, q109, q100, q91, q82, q73, q64, q55, q46, q37, q28, q19, q10, q1, h] := nd_new al hn139 nd
  have al : ∀ z ∈ [q136, q127, q118, q109, q100, q91, q82, q73, q64, q55, q46, q37, q28, q19, q10, q1, h], w137 z ≠ none := al_new al ew138
  have up : ∀ (z : Nat) (e : va_E), w z = some e → z ≠ h → w137 z = some e := fun z e a b => S141 z e (up z e a b)
  refine fw_putF (D := (dC, dI)) (ci := 5) (v := .ref q136) (ty := (.array .int)) (C := R_D) (T := F_D) (N := 36) hx hb hg in_D ft_D ft_D_ok n_D hown hK hP hS f0 rfl 15 (by decide) (hg _ k_606) (fun _ h9 => h9) rfl (hin rfl) rfl (by decide +kernel) rfl rfl (Nat.le_of_ble_eq_true rfl) d_D_init_135 (fun w142 H locs ew143 hP hS => ?_)
  have S144 := st_put ew143
  have f0 : w142 h = some (.inr (5, [.ref q1, .ref q10, .ref q19, .ref q28, .ref q37, .ref q46, .ref q55, .ref q64, .ref q73, .ref q82, .ref q91, .ref q100, .ref q109, .ref q118, .ref q127, .ref q136, .int 0, .int 0, .int 0, .int 0, .int 0, .int 0, .int 0, .null, .null, .null, .null, .null, .null, .null, .null, .null, .null, .null, .null, .int 0])) := by rw [ew143]; exact va_up_self _ _ _
  have al : ∀ z ∈ [q136, q127, q118, q109, q100, q91, q82, q73, q64, q55, q46, q37, q28, q19, q10, q1, h], w142 z ≠ none := al_put al ew143
  have up : ∀ (z : Nat) (e : va_E), w z = some e → z ≠ h → w142 z = some e := fun z e a b => S144 z e (up z e a b) b
  refine lv_aload_n hx hb d_D_init_138 rfl (lv_at hl 0 rfl) ?_
  refine lv_bipush (v := (nI 12)) hx hb d_D_init_139 (by decide) ?_
  refine fw_newa (tys := tyl dA) (atype := .int) (N' := 12) (a0 := (12, .inl (fun _ => 0))) hx hb (hg _ k_106) rfl hK hP hS hA 0 rfl (fun _ => rfl) (by decide) (by decide) (by decide) (Nat.le_of_ble_eq_true rfl) (Nat.le_of_ble_eq_true rfl) d_D_init_141 (fun q145 w146 H hn148 ew147 hP hS => ?_)
  have S150 := st_new ew147 hn148
  have f149 : w146 q145 = some (.inl (dA 0, 12, .inl (fun _ => 0))) := by rw [ew147]; exact va_up_self _ _ _
  have zn_q145 : w q145 = none := no_new (h := h) up hn148 (by rw [f0]; simp)
  have nh_q145 : q145 ≠ h := fun e9 => by rw [e9, f0] at hn148; cases hn148
  have f0 : w146 h = some (.inr (5, [.ref q1, .ref q10, .ref q19, .ref q28, .ref q37, .ref q46, .ref q55, .ref q64, .ref q73, .ref q82, .ref q91, .ref q100, .ref q109, .ref q118, .ref q127, .ref q136, .int 0, .int 0, .int 0, .int 0, .int 0, .int 0, .int 0, .null, .null, .null, .null, .null, .null, .null, .null, .null, .null, .null, .null, .int 0])) := S150 _ _ f0
  have nd : List.Nodup [q145, q136, q127, q118, q109, q100, q91, q82, q73, q64, q55, q46, q37, q28, q19, q10, q1, h] := nd_new al hn148 nd
  have al : ∀ z ∈ [q145, q136, q127, q118, q109, q100, q91, q82, q73, q64, q55, q46, q37, q28, q19, q10, q1, h], w146 z ≠ none := al_new al ew147
  have up : ∀ (z : Nat) (e : va_E), w z = some e → z ≠ h → w146 z = some e := fun z e a b => S150 z e (up z e a b)
  refine fw_putF (D := (dC, dI)) (ci := 5) (v := .ref q145) (ty := (.array .int)) (C := R_D) (T := F_D) (N := 36) hx hb hg in_D ft_D ft_D_ok n_D hown hK hP hS f0 rfl 23 (by decide) (hg _ k_614) (fun _ h9 => h9) rfl (hin rfl) rfl (by decide +kernel) rfl rfl (Nat.le_of_ble_eq_true rfl) d_D_init_143 (fun w151 H locs ew152 hP hS => ?_)
  have S153 := st_put ew152
  have f0 : w151 h = some (.inr (5, [.ref q1, .ref q10, .ref q19, .ref q28, .ref q37, .ref q46, .ref q55, .ref q64, .ref q73, .ref q82, .ref q91, .ref q100, .ref q109, .ref q118, .ref q127, .ref q136, .int 0, .int 0, .int 0, .int 0, .int 0, .int 0, .int 0, .ref q145, .null, .null, .null, .null, .null, .null, .null, .null, .null, .null, .null, .int 0])) := by rw [ew152]; exact va_up_self _ _ _
  have al : ∀ z ∈ [q145, q136, q127, q118, q109, q100, q91, q82, q73, q64, q55, q46, q37, q28, q19, q10, q1, h], w151 z ≠ none := al_put al ew152
  have up : ∀ (z : Nat) (e : va_E), w z = some e → z ≠ h → w151 z = some e := fun z e a b => S153 z e (up z e a b) b
  refine lv_aload_n hx hb d_D_init_146 rfl (lv_at hl 0 rfl) ?_
  refine lv_bipush (v := (nI 12)) hx hb d_D_init_147 (by decide) ?_
  refine fw_newa (tys := tyl dA) (atype := .long) (N' := 12) (a0 := (12, .inr (.inl (fun _ => 0)))) hx hb (hg _ k_107) rfl hK hP hS hA 1 rfl (fun _ => rfl) (by decide) (by decide) (by decide) (Nat.le_of_ble_eq_true rfl) (Nat.le_of_ble_eq_true rfl) d_D_init_149 (fun q154 w155 H hn157 ew156 hP hS => ?_)
  have S159 := st_new ew156 hn157
  have f158 : w155 q154 = some (.inl (dA 1, 12, .inr (.inl (fun _ => 0)))) := by rw [ew156]; exact va_up_self _ _ _
  have zn_q154 : w q154 = none := no_new (h := h) up hn157 (by rw [f0]; simp)
  have nh_q154 : q154 ≠ h := fun e9 => by rw [e9, f0] at hn157; cases hn157
  have f0 : w155 h = some (.inr (5, [.ref q1, .ref q10, .ref q19, .ref q28, .ref q37, .ref q46, .ref q55, .ref q64, .ref q73, .ref q82, .ref q91, .ref q100, .ref q109, .ref q118, .ref q127, .ref q136, .int 0, .int 0, .int 0, .int 0, .int 0, .int 0, .int 0, .ref q145, .null, .null, .null, .null, .null, .null, .null, .null, .null, .null, .null, .int 0])) := S159 _ _ f0
  have nd : List.Nodup [q154, q145, q136, q127, q118, q109, q100, q91, q82, q73, q64, q55, q46, q37, q28, q19, q10, q1, h] := nd_new al hn157 nd
  have al : ∀ z ∈ [q154, q145, q136, q127, q118, q109, q100, q91, q82, q73, q64, q55, q46, q37, q28, q19, q10, q1, h], w155 z ≠ none := al_new al ew156
  have up : ∀ (z : Nat) (e : va_E), w z = some e → z ≠ h → w155 z = some e := fun z e a b => S159 z e (up z e a b)
  refine fw_putF (D := (dC, dI)) (ci := 5) (v := .ref q154) (ty := (.array .long)) (C := R_D) (T := F_D) (N := 36) hx hb hg in_D ft_D ft_D_ok n_D hown hK hP hS f0 rfl 24 (by decide) (hg _ k_615) (fun _ h9 => h9) rfl (hin rfl) rfl (by decide +kernel) rfl rfl (Nat.le_of_ble_eq_true rfl) d_D_init_151 (fun w160 H locs ew161 hP hS => ?_)
  have S162 := st_put ew161
  have f0 : w160 h = some (.inr (5, [.ref q1, .ref q10, .ref q19, .ref q28, .ref q37, .ref q46, .ref q55, .ref q64, .ref q73, .ref q82, .ref q91, .ref q100, .ref q109, .ref q118, .ref q127, .ref q136, .int 0, .int 0, .int 0, .int 0, .int 0, .int 0, .int 0, .ref q145, .ref q154, .null, .null, .null, .null, .null, .null, .null, .null, .null, .null, .int 0])) := by rw [ew161]; exact va_up_self _ _ _
  have al : ∀ z ∈ [q154, q145, q136, q127, q118, q109, q100, q91, q82, q73, q64, q55, q46, q37, q28, q19, q10, q1, h], w160 z ≠ none := al_put al ew161
  have up : ∀ (z : Nat) (e : va_E), w z = some e → z ≠ h → w160 z = some e := fun z e a b => S162 z e (up z e a b) b
  refine lv_aload_n hx hb d_D_init_154 rfl (lv_at hl 0 rfl) ?_
  refine lv_bipush (v := (nI 13)) hx hb d_D_init_155 (by decide) ?_
  refine fw_newa (tys := tyl dA) (atype := .int) (N' := 13) (a0 := (13, .inl (fun _ => 0))) hx hb (hg _ k_106) rfl hK hP hS hA 0 rfl (fun _ => rfl) (by decide) (by decide) (by decide) (Nat.le_of_ble_eq_true rfl) (Nat.le_of_ble_eq_true rfl) d_D_init_157 (fun q163 w164 H hn166 ew165 hP hS => ?_)
  have S168 := st_new ew165 hn166
  have f167 : w164 q163 = some (.inl (dA 0, 13, .inl (fun _ => 0))) := by rw [ew165]; exact va_up_self _ _ _
  have zn_q163 : w q163 = none := no_new (h := h) up hn166 (by rw [f0]; simp)
  have nh_q163 : q163 ≠ h := fun e9 => by rw [e9, f0] at hn166; cases hn166
  have f0 : w164 h = some (.inr (5, [.ref q1, .ref q10, .ref q19, .ref q28, .ref q37, .ref q46, .ref q55, .ref q64, .ref q73, .ref q82, .ref q91, .ref q100, .ref q109, .ref q118, .ref q127, .ref q136, .int 0, .int 0, .int 0, .int 0, .int 0, .int 0, .int 0, .ref q145, .ref q154, .null, .null, .null, .null, .null, .null, .null, .null, .null, .null, .int 0])) := S168 _ _ f0
  have nd : List.Nodup [q163, q154, q145, q136, q127, q118, q109, q100, q91, q82, q73, q64, q55, q46, q37, q28, q19, q10, q1, h] := nd_new al hn166 nd
  have al : ∀ z ∈ [q163, q154, q145, q136, q127, q118, q109, q100, q91, q82, q73, q64, q55, q46, q37, q28, q19, q10, q1, h], w164 z ≠ none := al_new al ew165
  have up : ∀ (z : Nat) (e : va_E), w z = some e → z ≠ h → w164 z = some e := fun z e a b => S168 z e (up z e a b)
  refine fw_putF (D := (dC, dI)) (ci := 5) (v := .ref q163) (ty := (.array .int)) (C := R_D) (T := F_D) (N := 36) hx hb hg in_D ft_D ft_D_ok n_D hown hK hP hS f0 rfl 25 (by decide) (hg _ k_616) (fun _ h9 => h9) rfl (hin rfl) rfl (by decide +kernel) rfl rfl (Nat.le_of_ble_eq_true rfl) d_D_init_159 (fun w169 H locs ew170 hP hS => ?_)
  have S171 := st_put ew170
  have f0 : w169 h = some (.inr (5, [.ref q1, .ref q10, .ref q19, .ref q28, .ref q37, .ref q46, .ref q55, .ref q64, .ref q73, .ref q82, .ref q91, .ref q100, .ref q109, .ref q118, .ref q127, .ref q136, .int 0, .int 0, .int 0, .int 0, .int 0, .int 0, .int 0, .ref q145, .ref q154, .ref q163, .null, .null, .null, .null, .null, .null, .null, .null, .null, .int 0])) := by rw [ew170]; exact va_up_self _ _ _
  have al : ∀ z ∈ [q163, q154, q145, q136, q127, q118, q109, q100, q91, q82, q73, q64, q55, q46, q37, q28, q19, q10, q1, h], w169 z ≠ none := al_put al ew170
  have up : ∀ (z : Nat) (e : va_E), w z = some e → z ≠ h → w169 z = some e := fun z e a b => S171 z e (up z e a b) b
  refine lv_aload_n hx hb d_D_init_162 rfl (lv_at hl 0 rfl) ?_
  refine lv_bipush (v := (nI 13)) hx hb d_D_init_163 (by decide) ?_
  refine fw_newa (tys := tyl dA) (atype := .int) (N' := 13) (a0 := (13, .inl (fun _ => 0))) hx hb (hg _ k_106) rfl hK hP hS hA 0 rfl (fun _ => rfl) (by decide) (by decide) (by decide) (Nat.le_of_ble_eq_true rfl) (Nat.le_of_ble_eq_true rfl) d_D_init_165 (fun q172 w173 H hn175 ew174 hP hS => ?_)
  have S177 := st_new ew174 hn175
  have f176 : w173 q172 = some (.inl (dA 0, 13, .inl (fun _ => 0))) := by rw [ew174]; exact va_up_self _ _ _
  have zn_q172 : w q172 = none := no_new (h := h) up hn175 (by rw [f0]; simp)
  have nh_q172 : q172 ≠ h := fun e9 => by rw [e9, f0] at hn175; cases hn175
  have f0 : w173 h = some (.inr (5, [.ref q1, .ref q10, .ref q19, .ref q28, .ref q37, .ref q46, .ref q55, .ref q64, .ref q73, .ref q82, .ref q91, .ref q100, .ref q109, .ref q118, .ref q127, .ref q136, .int 0, .int 0, .int 0, .int 0, .int 0, .int 0, .int 0, .ref q145, .ref q154, .ref q163, .null, .null, .null, .null, .null, .null, .null, .null, .null, .int 0])) := S177 _ _ f0
  have nd : List.Nodup [q172, q163, q154, q145, q136, q127, q118, q109, q100, q91, q82, q73, q64, q55, q46, q37, q28, q19, q10, q1, h] := nd_new al hn175 nd
  have al : ∀ z ∈ [q172, q163, q154, q145, q136, q127, q118, q109, q100, q91, q82, q73, q64, q55, q46, q37, q28, q19, q10, q1, h], w173 z ≠ none := al_new al ew174
  have up : ∀ (z : Nat) (e : va_E), w z = some e → z ≠ h → w173 z = some e := fun z e a b => S177 z e (up z e a b)
  refine fw_putF (D := (dC, dI)) (ci := 5) (v := .ref q172) (ty := (.array .int)) (C := R_D) (T := F_D) (N := 36) hx hb hg in_D ft_D ft_D_ok n_D hown hK hP hS f0 rfl 26 (by decide) (hg _ k_617) (fun _ h9 => h9) rfl (hin rfl) rfl (by decide +kernel) rfl rfl (Nat.le_of_ble_eq_true rfl) d_D_init_167 (fun w178 H locs ew179 hP hS => ?_)
  have S180 := st_put ew179
  have f0 : w178 h = some (.inr (5, [.ref q1, .ref q10, .ref q19, .ref q28, .ref q37, .ref q46, .ref q55, .ref q64, .ref q73, .ref q82, .ref q91, .ref q100, .ref q109, .ref q118, .ref q127, .ref q136, .int 0, .int 0, .int 0, .int 0, .int 0, .int 0, .int 0, .ref q145, .ref q154, .ref q163, .ref q172, .null, .null, .null, .null, .null, .null, .null, .null, .int 0])) := by rw [ew179]; exact va_up_self _ _ _
  have al : ∀ z ∈ [q172, q163, q154, q145, q136, q127, q118, q109, q100, q91, q82, q73, q64, q55, q46, q37, q28, q19, q10, q1, h], w178 z ≠ none := al_put al ew179
  have up : ∀ (z : Nat) (e : va_E), w z = some e → z ≠ h → w178 z = some e := fun z e a b => S180 z e (up z e a b) b
  refine lv_aload_n hx hb d_D_init_170 rfl (lv_at hl 0 rfl) ?_
  refine lv_bipush (v := (nI 13)) hx hb d_D_init_171 (by decide) ?_
  refine fw_newa (tys := tyl dA) (atype := .int) (N' := 13) (a0 := (13, .inl (fun _ => 0))) hx hb (hg _ k_106) rfl hK hP hS hA 0 rfl (fun _ => rfl) (by decide) (by decide) (by decide) (Nat.le_of_ble_eq_true rfl) (Nat.le_of_ble_eq_true rfl) d_D_init_173 (fun q181 w182 H hn184 ew183 hP hS => ?_)
  have S186 := st_new ew183 hn184
  have f185 : w182 q181 = some (.inl (dA 0, 13, .inl (fun _ => 0))) := by rw [ew183]; exact va_up_self _ _ _
  have zn_q181 : w q181 = none := no_new (h := h) up hn184 (by rw [f0]; simp)
  have nh_q181 : q181 ≠ h := fun e9 => by rw [e9, f0] at hn184; cases hn184
  have f0 : w182 h = some (.inr (5, [.ref q1, .ref q10, .ref q19, .ref q28, .ref q37, .ref q46, .ref q55, .ref q64, .ref q73, .ref q82, .ref q91, .ref q100, .ref q109, .ref q118, .ref q127, .ref q136, .int 0, .int 0, .int 0, .int 0, .int 0, .int 0, .int 0, .ref q145, .ref q154, .ref q163, .ref q172, .null, .null, .null, .null, .null, .null, .null, .null, .int 0])) := S186 _ _ f0
  have nd : List.Nodup [q181, q172, q163, q154, q145, q136, q127, q118, q109, q100, q91, q82, q73, q64, q55, q46, q37, q28, q19, q10, q1, h] := nd_new al hn184 nd
  have al : ∀ z ∈ [q181, q172, q163, q154, q145, q136, q127, q118, q109, q100, q91, q82, q73, q64, q55, q46, q37, q28, q19, q10, q1, h], w182 z ≠ none := al_new al ew183
  have up : ∀ (z : Nat) (e : va_E), w z = some e → z ≠ h → w182 z = some e := fun z e a b => S186 z e (up z e a b)
  refine fw_putF (D := (dC, dI)) (ci := 5) (v := .ref q181) (ty := (.array .int)) (C := R_D) (T := F_D) (N := 36) hx hb hg in_D ft_D ft_D_ok n_D hown hK hP hS f0 rfl 27 (by decide) (hg _ k_618) (fun _ h9 => h9) rfl (hin rfl) rfl (by decide +kernel) rfl rfl (Nat.le_of_ble_eq_true rfl) d_D_init_175 (fun w187 H locs ew188 hP hS => ?_)
  have S189 := st_put ew188
  have f0 : w187 h = some (.inr (5, [.ref q1, .ref q10, .ref q19, .ref q28, .ref q37, .ref q46, .ref q55, .ref q64, .ref q73, .ref q82, .ref q91, .ref q100, .ref q109, .ref q118, .ref q127, .ref q136, .int 0, .int 0, .int 0, .int 0, .int 0, .int 0, .int 0, .ref q145, .ref q154, .ref q163, .ref q172, .ref q181, .null, .null, .null, .null, .null, .null, .null, .int 0])) := by rw [ew188]; exact va_up_self _ _ _
  have al : ∀ z ∈ [q181, q172, q163, q154, q145, q136, q127, q118, q109, q100, q91, q82, q73, q64, q55, q46, q37, q28, q19, q10, q1, h], w187 z ≠ none := al_put al ew188
  have up : ∀ (z : Nat) (e : va_E), w z = some e → z ≠ h → w187 z = some e := fun z e a b => S189 z e (up z e a b) b
  refine lv_aload_n hx hb d_D_init_178 rfl (lv_at hl 0 rfl) ?_
  refine lv_bipush (v := (nI 13)) hx hb d_D_init_179 (by decide) ?_
  refine fw_newa (tys := tyl dA) (atype := .int) (N' := 13) (a0 := (13, .inl (fun _ => 0))) hx hb (hg _ k_106) rfl hK hP hS hA 0 rfl (fun _ => rfl) (by decide) (by decide) (by decide) (Nat.le_of_ble_eq_true rfl) (Nat.le_of_ble_eq_true rfl) d_D_init_181 (fun q190 w191 H hn193 ew192 hP hS => ?_)
  have S195 := st_new ew192 hn193
  have f194 : w191 q190 = some (.inl (dA 0, 13, .inl (fun _ => 0))) := by rw [ew192]; exact va_up_self _ _ _
  have zn_q190 : w q190 = none := no_new (h := h) up hn193 (by rw [f0]; simp)
  have nh_q190 : q190 ≠ h := fun e9 => by rw [e9, f0] at hn193; cases hn193
  have f0 : w191 h = some (.inr (5, [.ref q1, .ref q10, .ref q19, .ref q28, .ref q37, .ref q46, .ref q55, .ref q64, .ref q73, .ref q82, .ref q91, .ref q100, .ref q109, .ref q118, .ref q127, .ref q136, .int 0, .int 0, .int 0, .int 0, .int 0, .int 0, .int 0, .ref q145, .ref q154, .ref q163, .ref q172, .ref q181, .null, .null, .null, .null, .null, .null, .null, .int 0])) := S195 _ _ f0
  have nd : List.Nodup [q190, q181, q172, q163, q154, q145, q136, q127, q118, q109, q100, q91, q82, q73, q64, q55, q46, q37, q28, q19, q10, q1, h] := nd_new al hn193 nd
  have al : ∀ z ∈ [q190, q181, q172, q163, q154, q145, q136, q127, q118, q109, q100, q91, q82, q73, q64, q55, q46, q37, q28, q19, q10, q1, h], w191 z ≠ none := al_new al ew192
  have up : ∀ (z : Nat) (e : va_E), w z = some e → z ≠ h → w191 z = some e := fun z e a b => S195 z e (up z e a b)
  refine fw_putF (D := (dC, dI)) (ci := 5) (v := .ref q190) (ty := (.array .int)) (C := R_D) (T := F_D) (N := 36) hx hb hg in_D ft_D ft_D_ok n_D hown hK hP hS f0 rfl 28 (by decide) (hg _ k_619) (fun _ h9 => h9) rfl (hin rfl) rfl (by decide +kernel) rfl rfl (Nat.le_of_ble_eq_true rfl) d_D_init_183 (fun w196 H locs ew197 hP hS => ?_)
  have S198 := st_put ew197
  have f0 : w196 h = some (.inr (5, [.ref q1, .ref q10, .ref q19, .ref q28, .ref q37, .ref q46, .ref q55, .ref q64, .ref q73, .ref q82, .ref q91, .ref q100, .ref q109, .ref q118, .ref q127, .ref q136, .int 0, .int 0, .int 0, .int 0, .int 0, .int 0, .int 0, .ref q145, .ref q154, .ref q163, .ref q172, .ref q181, .ref q190, .null, .null, .null, .null, .null, .null, .int 0])) := by rw [ew197]; exact va_up_self _ _ _
  have al : ∀ z ∈ [q190, q181, q172, q163, q154, q145, q136, q127, q118, q109, q100, q91, q82, q73, q64, q55, q46, q37, q28, q19, q10, q1, h], w196 z ≠ none := al_put al ew197
  have up : ∀ (z : Nat) (e : va_E), w z = some e → z ≠ h → w196 z = some e := fun z e a b => S198 z e (up z e a b) b
  refine lv_aload_n hx hb d_D_init_186 rfl (lv_at hl 0 rfl) ?_
  refine lv_sipush (v := (nI 208)) hx hb d_D_init_187 (by decide) ?_
  refine fw_newa (tys := tyl dA) (atype := .int) (N' := 208) (a0 := (208, .inl (fun _ => 0))) hx hb (hg _ k_106) rfl hK hP hS hA 0 rfl (fun _ => rfl) (by decide) (by decide) (by decide) (Nat.le_of_ble_eq_true rfl) (Nat.le_of_ble_eq_true rfl) d_D_init_190 (fun q199 w200 H hn202 ew201 hP hS => ?_)
  have S204 := st_new ew201 hn202
  have f203 : w200 q199 = some (.inl (dA 0, 208, .inl (fun _ => 0))) := by rw [ew201]; exact va_up_self _ _ _
  have zn_q199 : w q199 = none := no_new (h := h) up hn202 (by rw [f0]; simp)
  have nh_q199 : q199 ≠ h := fun e9 => by rw [e9, f0] at hn202; cases hn202
  have f0 : w200 h = some (.inr (5, [.ref q1, .ref q10, .ref q19, .ref q28, .ref q37, .ref q46, .ref q55, .ref q64, .ref q73, .ref q82, .ref q91, .ref q100, .ref q109, .ref q118, .ref q127, .ref q136, .int 0, .int 0, .int 0, .int 0, .int 0, .int 0, .int 0, .ref q145, .ref q154, .ref q163, .ref q172, .ref q181, .ref q190, .null, .null, .null, .null, .null, .null, .int 0])) := S204 _ _ f0
  have nd : List.Nodup [q199, q190, q181, q172, q163, q154, q145, q136, q127, q118, q109, q100, q91, q82, q73, q64, q55, q46, q37, q28, q19, q10, q1, h] := nd_new al hn202 nd
  have al : ∀ z ∈ [q199, q190, q181, q172, q163, q154, q145, q136, q127, q118, q109, q100, q91, q82, q73, q64, q55, q46, q37, q28, q19, q10, q1, h], w200 z ≠ none := al_new al ew201
  have up : ∀ (z : Nat) (e : va_E), w z = some e → z ≠ h → w200 z = some e := fun z e a b => S204 z e (up z e a b)
  refine fw_putF (D := (dC, dI)) (ci := 5) (v := .ref q199) (ty := (.array .int)) (C := R_D) (T := F_D) (N := 36) hx hb hg in_D ft_D ft_D_ok n_D hown hK hP hS f0 rfl 29 (by decide) (hg _ k_620) (fun _ h9 => h9) rfl (hin rfl) rfl (by decide +kernel) rfl rfl (Nat.le_of_ble_eq_true rfl) d_D_init_192 (fun w205 H locs ew206 hP hS => ?_)
  have S207 := st_put ew206
  have f0 : w205 h = some (.inr (5, [.ref q1, .ref q10, .ref q19, .ref q28, .ref q37, .ref q46, .ref q55, .ref q64, .ref q73, .ref q82, .ref q91, .ref q100, .ref q109, .ref q118, .ref q127, .ref q136, .int 0, .int 0, .int 0, .int 0, .int 0, .int 0, .int 0, .ref q145, .ref q154, .ref q163, .ref q172, .ref q181, .ref q190, .ref q199, .null, .null, .null, .null, .null, .int 0])) := by rw [ew206]; exact va_up_self _ _ _
  have al : ∀ z ∈ [q199, q190, q181, q172, q163, q154, q145, q136, q127, q118, q109, q100, q91, q82, q73, q64, q55, q46, q37, q28, q19, q10, q1, h], w205 z ≠ none := al_put al ew206
  have up : ∀ (z : Nat) (e : va_E), w z = some e → z ≠ h → w205 z = some e := fun z e a b => S207 z e (up z e a b) b
  refine lv_aload_n hx hb d_D_init_195 rfl (lv_at hl 0 rfl) ?_
  refine lv_bipush (v := (nI 13)) hx hb d_D_init_196 (by decide) ?_
  refine fw_newa (tys := tyl dA) (atype := .int) (N' := 13) (a0 := (13, .inl (fun _ => 0))) hx hb (hg _ k_106) rfl hK hP hS hA 0 rfl (fun _ => rfl) (by decide) (by decide) (by decide) (Nat.le_of_ble_eq_true rfl) (Nat.le_of_ble_eq_true rfl) d_D_init_198 (fun q208 w209 H hn211 ew210 hP hS => ?_)
  have S213 := st_new ew210 hn211
  have f212 : w209 q208 = some (.inl (dA 0, 13, .inl (fun _ => 0))) := by rw [ew210]; exact va_up_self _ _ _
  have zn_q208 : w q208 = none := no_new (h := h) up hn211 (by rw [f0]; simp)
  have nh_q208 : q208 ≠ h := fun e9 => by rw [e9, f0] at hn211; cases hn211
  have f0 : w209 h = some (.inr (5, [.ref q1, .ref q10, .ref q19, .ref q28, .ref q37, .ref q46, .ref q55, .ref q64, .ref q73, .ref q82, .ref q91, .ref q100, .ref q109, .ref q118, .ref q127, .ref q136, .int 0, .int 0, .int 0, .int 0, .int 0, .int 0, .int 0, .ref q145, .ref q154, .ref q163, .ref q172, .ref q181, .ref q190, .ref q199, .null, .null, .null, .null, .null, .int 0])) := S213 _ _ f0
  have nd : List.Nodup [q208, q199, q190, q181, q172, q163, q154, q145, q136, q127, q118, q109, q100, q91, q82, q73, q64, q55, q46, q37, q28, q19, q10, q1, h] := nd_new al hn211 nd
  have al : ∀ z ∈ [q208, q199, q190, q181, q172, q163, q154, q145, q136, q127, q118, q109, q100, q91, q82, q73, q64, q55, q46, q37, q28, q19, q10, q1, h], w209 z ≠ none := al_new al ew210
  have up : ∀ (z : Nat) (e : va_E), w z = some e → z ≠ h → w209 z = some e := fun z e a b => S213 z e (up z e a b)
  refine fw_putF (D := (dC, dI)) (ci := 5) (v := .ref q208) (ty := (.array .int)) (C := R_D) (T := F_D) (N := 36) hx hb hg in_D ft_D ft_D_ok n_D hown hK hP hS f0 rfl 30 (by decide) (hg _ k_621) (fun _ h9 => h9) rfl (hin rfl) rfl (by decide +kernel) rfl rfl (Nat.le_of_ble_eq_true rfl) d_D_init_200 (fun w214 H locs ew215 hP hS => ?_)
  have S216 := st_put ew215
  have f0 : w214 h = some (.inr (5, [.ref q1, .ref q10, .ref q19, .ref q28, .ref q37, .ref q46, .ref q55, .ref q64, .ref q73, .ref q82, .ref q91, .ref q100, .ref q109, .ref q118, .ref q127, .ref q136, .int 0, .int 0, .int 0, .int 0, .int 0, .int 0, .int 0, .ref q145, .ref q154, .ref q163, .ref q172, .ref q181, .ref q190, .ref q199, .ref q208, .null, .null, .null, .null, .int 0])) := by rw [ew215]; exact va_up_self _ _ _
  have al : ∀ z ∈ [q208, q199, q190, q181, q172, q163, q154, q145, q136, q127, q118, q109, q100, q91, q82, q73, q64, q55, q46, q37, q28, q19, q10, q1, h], w214 z ≠ none := al_put al ew215
  have up : ∀ (z : Nat) (e : va_E), w z = some e → z ≠ h → w214 z = some e := fun z e a b => S216 z e (up z e a b) b
  refine lv_aload_n hx hb d_D_init_203 rfl (lv_at hl 0 rfl) ?_
  refine lv_bipush (v := (nI 13)) hx hb d_D_init_204 (by decide) ?_
  refine fw_newa (tys := tyl dA) (atype := .int) (N' := 13) (a0 := (13, .inl (fun _ => 0))) hx hb (hg _ k_106) rfl hK hP hS hA 0 rfl (fun _ => rfl) (by decide) (by decide) (by decide) (Nat.le_of_ble_eq_true rfl) (Nat.le_of_ble_eq_true rfl) d_D_init_206 (fun q217 w218 H hn220 ew219 hP hS => ?_)
  have S222 := st_new ew219 hn220
  have f221 : w218 q217 = some (.inl (dA 0, 13, .inl (fun _ => 0))) := by rw [ew219]; exact va_up_self _ _ _
  have zn_q217 : w q217 = none := no_new (h := h) up hn220 (by rw [f0]; simp)
  have nh_q217 : q217 ≠ h := fun e9 => by rw [e9, f0] at hn220; cases hn220
  have f0 : w218 h = some (.inr (5, [.ref q1, .ref q10, .ref q19, .ref q28, .ref q37, .ref q46, .ref q55, .ref q64, .ref q73, .ref q82, .ref q91, .ref q100, .ref q109, .ref q118, .ref q127, .ref q136, .int 0, .int 0, .int 0, .int 0, .int 0, .int 0, .int 0, .ref q145, .ref q154, .ref q163, .ref q172, .ref q181, .ref q190, .ref q199, .ref q208, .null, .null, .null, .null, .int 0])) := S222 _ _ f0
  have nd : List.Nodup [q217, q208, q199, q190, q181, q172, q163, q154, q145, q136, q127, q118, q109, q100, q91, q82, q73, q64, q55, q46, q37, q28, q19, q10, q1, h] := nd_new al hn220 nd
  have al : ∀ z ∈ [q217, q208, q199, q190, q181, q172, q163, q154, q145, q136, q127, q118, q109, q100, q91, q82, q73, q64, q55, q46, q37, q28, q19, q10, q1, h], w218 z ≠ none := al_new al ew219
  have up : ∀ (z : Nat) (e : va_E), w z = some e → z ≠ h → w218 z = some e := fun z e a b => S222 z e (up z e a b)
  refine fw_putF (D := (dC, dI)) (ci := 5) (v := .ref q217) (ty := (.array .int)) (C := R_D) (T := F_D) (N := 36) hx hb hg in_D ft_D ft_D_ok n_D hown hK hP hS f0 rfl 31 (by decide) (hg _ k_622) (fun _ h9 => h9) rfl (hin rfl) rfl (by decide +kernel) rfl rfl (Nat.le_of_ble_eq_true rfl) d_D_init_208 (fun w223 H locs ew224 hP hS => ?_)
  have S225 := st_put ew224
  have f0 : w223 h = some (.inr (5, [.ref q1, .ref q10, .ref q19, .ref q28, .ref q37, .ref q46, .ref q55, .ref q64, .ref q73, .ref q82, .ref q91, .ref q100, .ref q109, .ref q118, .ref q127, .ref q136, .int 0, .int 0, .int 0, .int 0, .int 0, .int 0, .int 0, .ref q145, .ref q154, .ref q163, .ref q172, .ref q181, .ref q190, .ref q199, .ref q208, .ref q217, .null, .null, .null, .int 0])) := by rw [ew224]; exact va_up_self _ _ _
  have al : ∀ z ∈ [q217, q208, q199, q190, q181, q172, q163, q154, q145, q136, q127, q118, q109, q100, q91, q82, q73, q64, q55, q46, q37, q28, q19, q10, q1, h], w223 z ≠ none := al_put al ew224
  have up : ∀ (z : Nat) (e : va_E), w z = some e → z ≠ h → w223 z = some e := fun z e a b => S225 z e (up z e a b) b
  refine lv_aload_n hx hb d_D_init_211 rfl (lv_at hl 0 rfl) ?_
  refine lv_bipush (v := (nI 13)) hx hb d_D_init_212 (by decide) ?_
  refine fw_newa (tys := tyl dA) (atype := .int) (N' := 13) (a0 := (13, .inl (fun _ => 0))) hx hb (hg _ k_106) rfl hK hP hS hA 0 rfl (fun _ => rfl) (by decide) (by decide) (by decide) (Nat.le_of_ble_eq_true rfl) (Nat.le_of_ble_eq_true rfl) d_D_init_214 (fun q226 w227 H hn229 ew228 hP hS => ?_)
  have S231 := st_new ew228 hn229
  have f230 : w227 q226 = some (.inl (dA 0, 13, .inl (fun _ => 0))) := by rw [ew228]; exact va_up_self _ _ _
  have zn_q226 : w q226 = none := no_new (h := h) up hn229 (by rw [f0]; simp)
  have nh_q226 : q226 ≠ h := fun e9 => by rw [e9, f0] at hn229; cases hn229
  have f0 : w227 h = some (.inr (5, [.ref q1, .ref q10, .ref q19, .ref q28, .ref q37, .ref q46, .ref q55, .ref q64, .ref q73, .ref q82, .ref q91, .ref q100, .ref q109, .ref q118, .ref q127, .ref q136, .int 0, .int 0, .int 0, .int 0, .int 0, .int 0, .int 0, .ref q145, .ref q154, .ref q163, .ref q172, .ref q181, .ref q190, .ref q199, .ref q208, .ref q217, .null, .null, .null, .int 0])) := S231 _ _ f0
  have nd : List.Nodup [q226, q217, q208, q199, q190, q181, q172, q163, q154, q145, q136, q127, q118, q109, q100, q91, q82, q73, q64, q55, q46, q37, q28, q19, q10, q1, h] := nd_new al hn229 nd
  have al : ∀ z ∈ [q226, q217, q208, q199, q190, q181, q172, q163, q154, q145, q136, q127, q118, q109, q100, q91, q82, q73, q64, q55, q46, q37, q28, q19, q10, q1, h], w227 z ≠ none := al_new al ew228
  have up : ∀ (z : Nat) (e : va_E), w z = some e → z ≠ h → w227 z = some e := fun z e a b => S231 z e (up z e a b)
  refine fw_putF (D := (dC, dI)) (ci := 5) (v := .ref q226) (ty := (.array .int)) (C := R_D) (T := F_D) (N := 36) hx hb hg in_D ft_D ft_D_ok n_D hown hK hP hS f0 rfl 32 (by decide) (hg _ k_623) (fun _ h9 => h9) rfl (hin rfl) rfl (by decide +kernel) rfl rfl (Nat.le_of_ble_eq_true rfl) d_D_init_216 (fun w232 H locs ew233 hP hS => ?_)
  have S234 := st_put ew233
  have f0 : w232 h = some (.inr (5, [.ref q1, .ref q10, .ref q19, .ref q28, .ref q37, .ref q46, .ref q55, .ref q64, .ref q73, .ref q82, .ref q91, .ref q100, .ref q109, .ref q118, .ref q127, .ref q136, .int 0, .int 0, .int 0, .int 0, .int 0, .int 0, .int 0, .ref q145, .ref q154, .ref q163, .ref q172, .ref q181, .ref q190, .ref q199, .ref q208, .ref q217, .ref q226, .null, .null, .int 0])) := by rw [ew233]; exact va_up_self _ _ _
  have al : ∀ z ∈ [q226, q217, q208, q199, q190, q181, q172, q163, q154, q145, q136, q127, q118, q109, q100, q91, q82, q73, q64, q55, q46, q37, q28, q19, q10, q1, h], w232 z ≠ none := al_put al ew233
  have up : ∀ (z : Nat) (e : va_E), w z = some e → z ≠ h → w232 z = some e := fun z e a b => S234 z e (up z e a b) b
  refine lv_aload_n hx hb d_D_init_219 rfl (lv_at hl 0 rfl) ?_
  refine lv_bipush (v := (nI 13)) hx hb d_D_init_220 (by decide) ?_
  refine fw_newa (tys := tyl dA) (atype := .long) (N' := 13) (a0 := (13, .inr (.inl (fun _ => 0)))) hx hb (hg _ k_107) rfl hK hP hS hA 1 rfl (fun _ => rfl) (by decide) (by decide) (by decide) (Nat.le_of_ble_eq_true rfl) (Nat.le_of_ble_eq_true rfl) d_D_init_222 (fun q235 w236 H hn238 ew237 hP hS => ?_)
  have S240 := st_new ew237 hn238
  have f239 : w236 q235 = some (.inl (dA 1, 13, .inr (.inl (fun _ => 0)))) := by rw [ew237]; exact va_up_self _ _ _
  have zn_q235 : w q235 = none := no_new (h := h) up hn238 (by rw [f0]; simp)
  have nh_q235 : q235 ≠ h := fun e9 => by rw [e9, f0] at hn238; cases hn238
  have f0 : w236 h = some (.inr (5, [.ref q1, .ref q10, .ref q19, .ref q28, .ref q37, .ref q46, .ref q55, .ref q64, .ref q73, .ref q82, .ref q91, .ref q100, .ref q109, .ref q118, .ref q127, .ref q136, .int 0, .int 0, .int 0, .int 0, .int 0, .int 0, .int 0, .ref q145, .ref q154, .ref q163, .ref q172, .ref q181, .ref q190, .ref q199, .ref q208, .ref q217, .ref q226, .null, .null, .int 0])) := S240 _ _ f0
  have nd : List.Nodup [q235, q226, q217, q208, q199, q190, q181, q172, q163, q154, q145, q136, q127, q118, q109, q100, q91, q82, q73, q64, q55, q46, q37, q28, q19, q10, q1, h] := nd_new al hn238 nd
  have al : ∀ z ∈ [q235, q226, q217, q208, q199, q190, q181, q172, q163, q154, q145, q136, q127, q118, q109, q100, q91, q82, q73, q64, q55, q46, q37, q28, q19, q10, q1, h], w236 z ≠ none := al_new al ew237
  have up : ∀ (z : Nat) (e : va_E), w z = some e → z ≠ h → w236 z = some e := fun z e a b => S240 z e (up z e a b)
  refine fw_putF (D := (dC, dI)) (ci := 5) (v := .ref q235) (ty := (.array .long)) (C := R_D) (T := F_D) (N := 36) hx hb hg in_D ft_D ft_D_ok n_D hown hK hP hS f0 rfl 33 (by decide) (hg _ k_624) (fun _ h9 => h9) rfl (hin rfl) rfl (by decide +kernel) rfl rfl (Nat.le_of_ble_eq_true rfl) d_D_init_224 (fun w241 H locs ew242 hP hS => ?_)
  have S243 := st_put ew242
  have f0 : w241 h = some (.inr (5, [.ref q1, .ref q10, .ref q19, .ref q28, .ref q37, .ref q46, .ref q55, .ref q64, .ref q73, .ref q82, .ref q91, .ref q100, .ref q109, .ref q118, .ref q127, .ref q136, .int 0, .int 0, .int 0, .int 0, .int 0, .int 0, .int 0, .ref q145, .ref q154, .ref q163, .ref q172, .ref q181, .ref q190, .ref q199, .ref q208, .ref q217, .ref q226, .ref q235, .null, .int 0])) := by rw [ew242]; exact va_up_self _ _ _
  have al : ∀ z ∈ [q235, q226, q217, q208, q199, q190, q181, q172, q163, q154, q145, q136, q127, q118, q109, q100, q91, q82, q73, q64, q55, q46, q37, q28, q19, q10, q1, h], w241 z ≠ none := al_put al ew242
  have up : ∀ (z : Nat) (e : va_E), w z = some e → z ≠ h → w241 z = some e := fun z e a b => S243 z e (up z e a b) b
  refine lv_aload_n hx hb d_D_init_227 rfl (lv_at hl 0 rfl) ?_
  refine lv_bipush (v := (nI 13)) hx hb d_D_init_228 (by decide) ?_
  refine fw_newa (tys := tyl dA) (atype := .long) (N' := 13) (a0 := (13, .inr (.inl (fun _ => 0)))) hx hb (hg _ k_107) rfl hK hP hS hA 1 rfl (fun _ => rfl) (by decide) (by decide) (by decide) (Nat.le_of_ble_eq_true rfl) (Nat.le_of_ble_eq_true rfl) d_D_init_230 (fun q244 w245 H hn247 ew246 hP hS => ?_)
  have S249 := st_new ew246 hn247
  have f248 : w245 q244 = some (.inl (dA 1, 13, .inr (.inl (fun _ => 0)))) := by rw [ew246]; exact va_up_self _ _ _
  have zn_q244 : w q244 = none := no_new (h := h) up hn247 (by rw [f0]; simp)
  have nh_q244 : q244 ≠ h := fun e9 => by rw [e9, f0] at hn247; cases hn247
  have f0 : w245 h = some (.inr (5, [.ref q1, .ref q10, .ref q19, .ref q28, .ref q37, .ref q46, .ref q55, .ref q64, .ref q73, .ref q82, .ref q91, .ref q100, .ref q109, .ref q118, .ref q127, .ref q136, .int 0, .int 0, .int 0, .int 0, .int 0, .int 0, .int 0, .ref q145, .ref q154, .ref q163, .ref q172, .ref q181, .ref q190, .ref q199, .ref q208, .ref q217, .ref q226, .ref q235, .null, .int 0])) := S249 _ _ f0
  have nd : List.Nodup [q244, q235, q226, q217, q208, q199, q190, q181, q172, q163, q154, q145, q136, q127, q118, q109, q100, q91, q82, q73, q64, q55, q46, q37, q28, q19, q10, q1, h] := nd_new al hn247 nd
  have al : ∀ z ∈ [q244, q235, q226, q217, q208, q199, q190, q181, q172, q163, q154, q145, q136, q127, q118, q109, q100, q91, q82, q73, q64, q55, q46, q37, q28, q19, q10, q1, h], w245 z ≠ none := al_new al ew246
  have up : ∀ (z : Nat) (e : va_E), w z = some e → z ≠ h → w245 z = some e := fun z e a b => S249 z e (up z e a b)
  refine fw_putF (D := (dC, dI)) (ci := 5) (v := .ref q244) (ty := (.array .long)) (C := R_D) (T := F_D) (N := 36) hx hb hg in_D ft_D ft_D_ok n_D hown hK hP hS f0 rfl 34 (by decide) (hg _ k_625) (fun _ h9 => h9) rfl (hin rfl) rfl (by decide +kernel) rfl rfl (Nat.le_of_ble_eq_true rfl) d_D_init_232 (fun w250 H locs ew251 hP hS => ?_)
  have S252 := st_put ew251
  have f0 : w250 h = some (.inr (5, [.ref q1, .ref q10, .ref q19, .ref q28, .ref q37, .ref q46, .ref q55, .ref q64, .ref q73, .ref q82, .ref q91, .ref q100, .ref q109, .ref q118, .ref q127, .ref q136, .int 0, .int 0, .int 0, .int 0, .int 0, .int 0, .int 0, .ref q145, .ref q154, .ref q163, .ref q172, .ref q181, .ref q190, .ref q199, .ref q208, .ref q217, .ref q226, .ref q235, .ref q244, .int 0])) := by rw [ew251]; exact va_up_self _ _ _
  have al : ∀ z ∈ [q244, q235, q226, q217, q208, q199, q190, q181, q172, q163, q154, q145, q136, q127, q118, q109, q100, q91, q82, q73, q64, q55, q46, q37, q28, q19, q10, q1, h], w250 z ≠ none := al_put al ew251
  have up : ∀ (z : Nat) (e : va_E), w z = some e → z ≠ h → w250 z = some e := fun z e a b => S252 z e (up z e a b) b
  refine lv_iconst (v := (nI 0)) hx hb d_D_init_235 (by decide) ?_
  refine lv_istore_n (lv' := [(1, .int (nI 0)), (0, .ref h)]) hx hb d_D_init_236 rfl hl (by decide) rfl (fun ls hl => ?_)
  have T253 : ∀ (z : Nat) (e : va_E), w250 z = some e → z ≠ h → w250 z = some e := fun _ _ a _ => a
  have T254 := fun (z : Nat) (e : va_E) (a : _) (b : z ≠ h) => T253 z e (S252 z e a b) b
  have T255 := fun (z : Nat) (e : va_E) (a : _) (b : z ≠ h) => T254 z e (S249 z e a) b
  have T256 := fun (z : Nat) (e : va_E) (a : _) (b : z ≠ h) => T255 z e (S243 z e a b) b
  have T257 := fun (z : Nat) (e : va_E) (a : _) (b : z ≠ h) => T256 z e (S240 z e a) b
  have T258 := fun (z : Nat) (e : va_E) (a : _) (b : z ≠ h) => T257 z e (S234 z e a b) b
  have T259 := fun (z : Nat) (e : va_E) (a : _) (b : z ≠ h) => T258 z e (S231 z e a) b
  have T260 := fun (z : Nat) (e : va_E) (a : _) (b : z ≠ h) => T259 z e (S225 z e a b) b
  have T261 := fun (z : Nat) (e : va_E) (a : _) (b : z ≠ h) => T260 z e (S222 z e a) b
  have T262 := fun (z : Nat) (e : va_E) (a : _) (b : z ≠ h) => T261 z e (S216 z e a b) b
  have T263 := fun (z : Nat) (e : va_E) (a : _) (b : z ≠ h) => T262 z e (S213 z e a) b
  have T264 := fun (z : Nat) (e : va_E) (a : _) (b : z ≠ h) => T263 z e (S207 z e a b) b
  have T265 := fun (z : Nat) (e : va_E) (a : _) (b : z ≠ h) => T264 z e (S204 z e a) b
  have T266 := fun (z : Nat) (e : va_E) (a : _) (b : z ≠ h) => T265 z e (S198 z e a b) b
  have T267 := fun (z : Nat) (e : va_E) (a : _) (b : z ≠ h) => T266 z e (S195 z e a) b
  have T268 := fun (z : Nat) (e : va_E) (a : _) (b : z ≠ h) => T267 z e (S189 z e a b) b
  have T269 := fun (z : Nat) (e : va_E) (a : _) (b : z ≠ h) => T268 z e (S186 z e a) b
  have T270 := fun (z : Nat) (e : va_E) (a : _) (b : z ≠ h) => T269 z e (S180 z e a b) b
  have T271 := fun (z : Nat) (e : va_E) (a : _) (b : z ≠ h) => T270 z e (S177 z e a) b
  have T272 := fun (z : Nat) (e : va_E) (a : _) (b : z ≠ h) => T271 z e (S171 z e a b) b
  have T273 := fun (z : Nat) (e : va_E) (a : _) (b : z ≠ h) => T272 z e (S168 z e a) b
  have T274 := fun (z : Nat) (e : va_E) (a : _) (b : z ≠ h) => T273 z e (S162 z e a b) b
  have T275 := fun (z : Nat) (e : va_E) (a : _) (b : z ≠ h) => T274 z e (S159 z e a) b
  have T276 := fun (z : Nat) (e : va_E) (a : _) (b : z ≠ h) => T275 z e (S153 z e a b) b
  have T277 := fun (z : Nat) (e : va_E) (a : _) (b : z ≠ h) => T276 z e (S150 z e a) b
  have T278 := fun (z : Nat) (e : va_E) (a : _) (b : z ≠ h) => T277 z e (S144 z e a b) b
  have T279 := fun (z : Nat) (e : va_E) (a : _) (b : z ≠ h) => T278 z e (S141 z e a) b
  have T280 := fun (z : Nat) (e : va_E) (a : _) (b : z ≠ h) => T279 z e (S135 z e a b) b
  have T281 := fun (z : Nat) (e : va_E) (a : _) (b : z ≠ h) => T280 z e (S132 z e a) b
  have T282 := fun (z : Nat) (e : va_E) (a : _) (b : z ≠ h) => T281 z e (S126 z e a b) b
  have T283 := fun (z : Nat) (e : va_E) (a : _) (b : z ≠ h) => T282 z e (S123 z e a) b
  have T284 := fun (z : Nat) (e : va_E) (a : _) (b : z ≠ h) => T283 z e (S117 z e a b) b
  have T285 := fun (z : Nat) (e : va_E) (a : _) (b : z ≠ h) => T284 z e (S114 z e a) b
  have T286 := fun (z : Nat) (e : va_E) (a : _) (b : z ≠ h) => T285 z e (S108 z e a b) b
  have T287 := fun (z : Nat) (e : va_E) (a : _) (b : z ≠ h) => T286 z e (S105 z e a) b
  have T288 := fun (z : Nat) (e : va_E) (a : _) (b : z ≠ h) => T287 z e (S99 z e a b) b
  have T289 := fun (z : Nat) (e : va_E) (a : _) (b : z ≠ h) => T288 z e (S96 z e a) b
  have T290 := fun (z : Nat) (e : va_E) (a : _) (b : z ≠ h) => T289 z e (S90 z e a b) b
  have T291 := fun (z : Nat) (e : va_E) (a : _) (b : z ≠ h) => T290 z e (S87 z e a) b
  have T292 := fun (z : Nat) (e : va_E) (a : _) (b : z ≠ h) => T291 z e (S81 z e a b) b
  have T293 := fun (z : Nat) (e : va_E) (a : _) (b : z ≠ h) => T292 z e (S78 z e a) b
  have T294 := fun (z : Nat) (e : va_E) (a : _) (b : z ≠ h) => T293 z e (S72 z e a b) b
  have T295 := fun (z : Nat) (e : va_E) (a : _) (b : z ≠ h) => T294 z e (S69 z e a) b
  have T296 := fun (z : Nat) (e : va_E) (a : _) (b : z ≠ h) => T295 z e (S63 z e a b) b
  have T297 := fun (z : Nat) (e : va_E) (a : _) (b : z ≠ h) => T296 z e (S60 z e a) b
  have T298 := fun (z : Nat) (e : va_E) (a : _) (b : z ≠ h) => T297 z e (S54 z e a b) b
  have T299 := fun (z : Nat) (e : va_E) (a : _) (b : z ≠ h) => T298 z e (S51 z e a) b
  have T300 := fun (z : Nat) (e : va_E) (a : _) (b : z ≠ h) => T299 z e (S45 z e a b) b
  have T301 := fun (z : Nat) (e : va_E) (a : _) (b : z ≠ h) => T300 z e (S42 z e a) b
  have T302 := fun (z : Nat) (e : va_E) (a : _) (b : z ≠ h) => T301 z e (S36 z e a b) b
  have T303 := fun (z : Nat) (e : va_E) (a : _) (b : z ≠ h) => T302 z e (S33 z e a) b
  have T304 := fun (z : Nat) (e : va_E) (a : _) (b : z ≠ h) => T303 z e (S27 z e a b) b
  have T305 := fun (z : Nat) (e : va_E) (a : _) (b : z ≠ h) => T304 z e (S24 z e a) b
  have T306 := fun (z : Nat) (e : va_E) (a : _) (b : z ≠ h) => T305 z e (S18 z e a b) b
  have T307 := fun (z : Nat) (e : va_E) (a : _) (b : z ≠ h) => T306 z e (S15 z e a) b
  have T308 := fun (z : Nat) (e : va_E) (a : _) (b : z ≠ h) => T307 z e (S9 z e a b) b
  have T309 := fun (z : Nat) (e : va_E) (a : _) (b : z ≠ h) => T308 z e (S6 z e a) b
  obtain ⟨md, hmd⟩ : ∃ md : Nat → Nat, md = mdL [q244, q235, q226, q217, q208, q199, q190, q181, q172, q163, q154, q145, q136, q127, q118, q109, q100, q91, q82, q73, q64, q55, q46, q37, q28, q19, q10, q1, h] := ⟨_, rfl⟩
  have m0 : md 0 = q1 := by rw [hmd]; rfl
  have m1 : md 1 = q10 := by rw [hmd]; rfl
  have m2 : md 2 = q19 := by rw [hmd]; rfl
  have m3 : md 3 = q28 := by rw [hmd]; rfl
  have m4 : md 4 = q37 := by rw [hmd]; rfl
  have m5 : md 5 = q46 := by rw [hmd]; rfl
  have m6 : md 6 = q55 := by rw [hmd]; rfl
  have m7 : md 7 = q64 := by rw [hmd]; rfl
  have m8 : md 8 = q73 := by rw [hmd]; rfl
  have m9 : md 9 = q82 := by rw [hmd]; rfl
  have m10 : md 10 = q91 := by rw [hmd]; rfl
  have m11 : md 11 = q100 := by rw [hmd]; rfl
  have m12 : md 12 = q109 := by rw [hmd]; rfl
  have m13 : md 13 = q118 := by rw [hmd]; rfl
  have m14 : md 14 = q127 := by rw [hmd]; rfl
  have m15 : md 15 = q136 := by rw [hmd]; rfl
  have m23 : md 23 = q145 := by rw [hmd]; rfl
  have m24 : md 24 = q154 := by rw [hmd]; rfl
  have m25 : md 25 = q163 := by rw [hmd]; rfl
  have m26 : md 26 = q172 := by rw [hmd]; rfl
  have m27 : md 27 = q181 := by rw [hmd]; rfl
  have m28 : md 28 = q190 := by rw [hmd]; rfl
  have m29 : md 29 = q199 := by rw [hmd]; rfl
  have m30 : md 30 = q208 := by rw [hmd]; rfl
  have m31 : md 31 = q217 := by rw [hmd]; rfl
  have m32 : md 32 = q226 := by rw [hmd]; rfl
  have m33 : md 33 = q235 := by rw [hmd]; rfl
  have m34 : md 34 = q244 := by rw [hmd]; rfl
  have m36 : md 36 = h := by rw [hmd]; rfl
  have hj : Inj37 md := by rw [hmd]; exact mdL_inj rfl nd
  have hno : ∀ i, U37 i → i ≠ 36 → w (md i) = none := by
    intro i hi hi36
    rcases (show i = 0 ∨ i = 1 ∨ i = 2 ∨ i = 3 ∨ i = 4 ∨ i = 5 ∨ i = 6 ∨ i = 7 ∨ i = 8 ∨ i = 9 ∨ i = 10 ∨ i = 11 ∨ i = 12 ∨ i = 13 ∨ i = 14 ∨ i = 15 ∨ i = 23 ∨ i = 24 ∨ i = 25 ∨ i = 26 ∨ i = 27 ∨ i = 28 ∨ i = 29 ∨ i = 30 ∨ i = 31 ∨ i = 32 ∨ i = 33 ∨ i = 34 by omega) with rfl | rfl | rfl | rfl | rfl | rfl | rfl | rfl | rfl | rfl | rfl | rfl | rfl | rfl | rfl | rfl | rfl | rfl | rfl | rfl | rfl | rfl | rfl | rfl | rfl | rfl | rfl | rfl
    · rw [m0]; exact zn_q1
    · rw [m1]; exact zn_q10
    · rw [m2]; exact zn_q19
    · rw [m3]; exact zn_q28
    · rw [m4]; exact zn_q37
    · rw [m5]; exact zn_q46
    · rw [m6]; exact zn_q55
    · rw [m7]; exact zn_q64
    · rw [m8]; exact zn_q73
    · rw [m9]; exact zn_q82
    · rw [m10]; exact zn_q91
    · rw [m11]; exact zn_q100
    · rw [m12]; exact zn_q109
    · rw [m13]; exact zn_q118
    · rw [m14]; exact zn_q127
    · rw [m15]; exact zn_q136
    · rw [m23]; exact zn_q145
    · rw [m24]; exact zn_q154
    · rw [m25]; exact zn_q163
    · rw [m26]; exact zn_q172
    · rw [m27]; exact zn_q181
    · rw [m28]; exact zn_q190
    · rw [m29]; exact zn_q199
    · rw [m30]; exact zn_q208
    · rw [m31]; exact zn_q217
    · rw [m32]; exact zn_q226
    · rw [m33]; exact zn_q235
    · rw [m34]; exact zn_q244
  have hD : RD dA md w250 μ_0 := by
    unfold RD
    rw [m36, m0, m1, m2, m3, m4, m5, m6, m7, m8, m9, m10, m11, m12, m13, m14, m15, m23, m24, m25, m26, m27, m28, m29, m30, m31, m32, m33, m34]
    exact ⟨f0, (T308 _ _ f5 nh_q1), (T306 _ _ f14 nh_q10), (T304 _ _ f23 nh_q19), (T302 _ _ f32 nh_q28), (T300 _ _ f41 nh_q37), (T298 _ _ f50 nh_q46), (T296 _ _ f59 nh_q55), (T294 _ _ f68 nh_q64), (T292 _ _ f77 nh_q73), ⟨fun _ => false, (T290 _ _ f86 nh_q82)⟩, (T288 _ _ f95 nh_q91), (T286 _ _ f104 nh_q100), (T284 _ _ f113 nh_q109), (T282 _ _ f122 nh_q118), (T280 _ _ f131 nh_q127), (T278 _ _ f140 nh_q136), (T276 _ _ f149 nh_q145), (T274 _ _ f158 nh_q154), (T272 _ _ f167 nh_q163), (T270 _ _ f176 nh_q172), (T268 _ _ f185 nh_q181), (T266 _ _ f194 nh_q190), (T264 _ _ f203 nh_q199), (T262 _ _ f212 nh_q208), (T260 _ _ f221 nh_q217), (T258 _ _ f230 nh_q226), (T256 _ _ f239 nh_q235), (T254 _ _ f248 nh_q244)⟩
  clear m0 m1 m2 m3 m4 m5 m6 m7 m8 m9 m10 m11 m12 m13 m14 m15 m23 m24 m25 m26 m27 m28 m29 m30 m31 m32 m33 m34 hmd nd al f0
  subst m36
  have hl : lv_has ls 2 [(0, .ref (md 36)), (1, .int (nI 0))] := hl
  suffices lp : ∀ (n : Nat) (i : Nat) (f9 : Nat → Int32) (g9 : Nat → Int32), (i ≤ 24) → (∀ j, j < i → f9 j = -1 ∧ g9 j = -1) → (24 < i + n) → ∀ (wl : fw_W) (H : Heap) (locs : List Loc), (RD dA md wl (u_od (u_mm μ_0 (f9, m_cch μ_0, m_cached μ_0, m_cnt μ_0, m_circ μ_0)) (g9, m_occh μ_0, m_ocached μ_0, m_ocnt μ_0, m_ocirc μ_0))) → (OutD md w250 wl) → fw_P (dC, dI) cls_ (AA s0) wl H → va_S (AA s0) s.heap H locs → ∀ (ls : Array Slot), lv_has ls 2 [(0, .ref (md 36)), (1, .int (nI i))] → W p l e _ s m args below meth c H locs 28 9477 (MQ below _ args s 28 9477 (AA s0)) (F0 m 237 ls []) from lp 25 0 (m_trc μ_0) (m_otrc μ_0) (by omega) (fun j hj9 => by omega) (by omega) _ _ _  hD OutD.rf hP hS ls (lv_sub hl [0, 1] rfl)
  intro n
  induction n with
  | zero => intro i f9 g9 hi hf9 hbn; exact absurd hbn (by omega)
  | succ n ih =>
    intro i f9 g9 hi hf9 hbn wl H locs  hR9 ho9 hP hS ls hl
    obtain ⟨r36, r0, r1, r2, r3, r4, r5, r6, r7, r8, ⟨u, r9⟩, r10, r11, r12, r13, r14, r15, r23, r24, r25, r26, r27, r28, r29, r30, r31, r32, r33, r34⟩ := (id hR9)
    refine lv_iload_n hx hb d_D_init_237 rfl (lv_at hl 1 rfl) ?_
    refine lv_bipush (v := (nI 24)) hx hb d_D_init_238 (by decide) ?_
    refine nu_ge (tgt := 263) hx hb (by omega) (by omega) d_D_init_240 (by decide) (fun c1 => ?_) (fun c1 => ?_)
    · have hi9 : i = 24 := by omega
      rw [hi9] at hf9
      have hq9 : RQ β_0 (u_od (u_mm μ_0 (f9, m_cch μ_0, m_cached μ_0, m_cnt μ_0, m_circ μ_0)) (g9, m_occh μ_0, m_ocached μ_0, m_ocnt μ_0, m_ocirc μ_0)) := by
        refine ⟨fun k hk => ⟨rfl, fun h => by cases h, fun h => by cases h⟩, ⟨fun i hi => Or.inl ⟨rfl, (hf9 i hi).1⟩, (show (0 : Nat) ≤ 16 by omega), ⟨rfl, fun i T hT => by cases hT⟩⟩, ⟨fun j _ => rfl, rfl⟩, fun i hi => (hf9 i hi).2, rfl, fun f _ => (show (0 : Nat) < 320 by omega)⟩
      have hfr : ∀ (z : Nat) (e : va_E), w z = some e → z ≠ md 36 → wl z = some e := fun z e a b => (ho9 z (fun i hi e9 => by
          by_cases h36 : i = 36
          · rw [h36] at e9; exact b e9
          · rw [e9, hno i hi h36] at a; cases a)).trans (up z e a b)
      exact W.vret hx hb hr (fun tS ht hW => ⟨⟨wl, rfl, ⟨md, (u_od (u_mm μ_0 (f9, m_cch μ_0, m_cached μ_0, m_cnt μ_0, m_circ μ_0)) (g9, m_occh μ_0, m_ocached μ_0, m_ocnt μ_0, m_ocirc μ_0)), hj, rfl, hno, hR9, hq9, hfr⟩, mB_of ht hP⟩, hS.F ht⟩) hS.2.2 d_D_init_263
    · refine lv_aload_n hx hb d_D_init_243 rfl (lv_at hl 0 rfl) ?_
      have r36 : wl (md 36) = some (.inr (5, [.ref (md 0), .ref (md 1), .ref (md 2), .ref (md 3), .ref (md 4), .ref (md 5), .ref (md 6), .ref (md 7), .ref (md 8), .ref (md 9), .ref (md 10), .ref (md 11), .ref (md 12), .ref (md 13), .ref (md 14), .ref (md 15), .int (nI (m_cached μ_0)), .int (nI (m_ocached μ_0)), .int (m_circ μ_0), .int (m_ocirc μ_0), .int (nI (m_thr μ_0)), .int (nI (m_wkr μ_0)), .int (nI (m_ran μ_0).toNat), .ref (md 23), .ref (md 24), .ref (md 25), .ref (md 26), .ref (md 27), .ref (md 28), .ref (md 29), .ref (md 30), .ref (md 31), .ref (md 32), .ref (md 33), .ref (md 34), .int (nI (m_hgt μ_0))])) := r36
      refine va_get (D := (dC, dI)) (ci := 5) (v := .ref (md 10)) (C := R_D) (T := F_D) (N := 36) hx hb hg in_D hown hK (hP.one r36) 0 rfl rfl 10 (by decide) (hg _ k_601) (fun _ h9 => h9) rfl d_D_init_244 ?_
      refine lv_iload_n hx hb d_D_init_247 rfl (lv_at hl 1 rfl) ?_
      refine lv_aload_n hx hb d_D_init_248 rfl (lv_at hl 0 rfl) ?_
      refine va_get (D := (dC, dI)) (ci := 5) (v := .ref (md 11)) (C := R_D) (T := F_D) (N := 36) hx hb hg in_D hown hK (hP.one r36) 0 rfl rfl 11 (by decide) (hg _ k_602) (fun _ h9 => h9) rfl d_D_init_249 ?_
      refine lv_iload_n hx hb d_D_init_252 rfl (lv_at hl 1 rfl) ?_
      refine lv_iconst (v := (-1)) hx hb d_D_init_253 (by decide) ?_
      refine lv_dup_x2 hx hb d_D_init_254 rfl rfl rfl ?_
      have r11 : wl (md 11) = some (.inl (dA 0, 24, .inl g9)) := r11
      refine fw_iast (tys := tyl dA) hx hb hK hP hS r11 0 rfl (j := i) (x := (-1)) (by omega) (by decide) d_D_init_255 (fun w310 H locs ew311 hP hS => ?_)
      have r11 : w310 (md 11) = some (.inl (dA 0, 24, .inl (upd g9 i (-1)))) := by rw [ew311]; exact va_up_self _ _ _
      have ho312 : OutD md w250 w310 := OutD.up ho9 ew311 (by decide)
      have r10 : w310 (md 10) = some (.inl (dA 0, 24, .inl f9)) := by rw [ew311, va_up_ne _ _ (hj.ne (i := 10) (j := 11) (by decide) (by decide) (by decide))]; exact r10
      refine fw_iast (tys := tyl dA) hx hb hK hP hS r10 0 rfl (j := i) (x := (-1)) (by omega) (by decide) d_D_init_256 (fun w313 H locs ew314 hP hS => ?_)
      have r10 : w313 (md 10) = some (.inl (dA 0, 24, .inl (upd f9 i (-1)))) := by rw [ew314]; exact va_up_self _ _ _
      have ho315 : OutD md w250 w313 := OutD.up ho312 ew314 (by decide)
      refine lv_iinc (v := nI (i + 1)) (lv' := [(1, .int (nI (i + 1))), (0, .ref (md 36))]) hx hb d_D_init_257 hl (k := 1) rfl (nI_add _ 1) (by decide) rfl (fun ls hl => ?_)
      refine lv_goto (tgt := 237) hx hb d_D_init_260 (by decide) ?_
      have hk316 : ∀ i, U37 i → i ∉ [10, 11] → w313 (md i) = wl (md i) := fun i hi hn => by rw [ew314, va_up_ne _ _ (hj.ne hi (j := 10) (by decide) (fun e9 => hn (by rw [e9]; decide))), ew311, va_up_ne _ _ (hj.ne hi (j := 11) (by decide) (fun e9 => hn (by rw [e9]; decide)))]
      have hk317 : ∀ i, U37 i → i ∉ [10] → w313 (md i) = w310 (md i) := fun i hi hn => by rw [ew314, va_up_ne _ _ (hj.ne hi (j := 10) (by decide) (fun e9 => hn (by rw [e9]; decide)))]
      exact ih (i + 1) (upd f9 i (-1)) (upd g9 i (-1)) (by omega) (fun j hj9 => (Nat.lt_or_ge j i).elim (fun h9 => ⟨(pk_un (by omega)).trans (hf9 j h9).1, (pk_un (by omega)).trans (hf9 j h9).2⟩) (fun h9 => by rw [show j = i by omega, pk_us, pk_us]; exact ⟨rfl, rfl⟩)) (by omega) _ _ _  (⟨(hk316 36 (by decide) (by decide)).trans r36, (hk316 0 (by decide) (by decide)).trans r0, (hk316 1 (by decide) (by decide)).trans r1, (hk316 2 (by decide) (by decide)).trans r2, (hk316 3 (by decide) (by decide)).trans r3, (hk316 4 (by decide) (by decide)).trans r4, (hk316 5 (by decide) (by decide)).trans r5, (hk316 6 (by decide) (by decide)).trans r6, (hk316 7 (by decide) (by decide)).trans r7, (hk316 8 (by decide) (by decide)).trans r8, ⟨_, (hk316 9 (by decide) (by decide)).trans r9⟩, r10, (hk317 11 (by decide) (by decide)).trans r11, (hk316 12 (by decide) (by decide)).trans r12, (hk316 13 (by decide) (by decide)).trans r13, (hk316 14 (by decide) (by decide)).trans r14, (hk316 15 (by decide) (by decide)).trans r15, (hk316 23 (by decide) (by decide)).trans r23, (hk316 24 (by decide) (by decide)).trans r24, (hk316 25 (by decide) (by decide)).trans r25, (hk316 26 (by decide) (by decide)).trans r26, (hk316 27 (by decide) (by decide)).trans r27, (hk316 28 (by decide) (by decide)).trans r28, (hk316 29 (by decide) (by decide)).trans r29, (hk316 30 (by decide) (by decide)).trans r30, (hk316 31 (by decide) (by decide)).trans r31, (hk316 32 (by decide) (by decide)).trans r32, (hk316 33 (by decide) (by decide)).trans r33, (hk316 34 (by decide) (by decide)).trans r34⟩) ho315 hP hS ls (lv_sub hl [1, 0] rfl)
