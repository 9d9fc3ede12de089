set_option maxHeartbeats 4000000 in
set_option maxRecDepth 100000 in
theorem c_B_input {l : Launch} {s0 : State} {dC : Nat → ClassId} {dI : Nat → Nat → Nat} {dA : Nat → ClassId} (B0 : BB s0 dC dI dA) (w : fw_W) (AD : Nat → Nat) (Fz : Nat → Prop) (β : BS) (k : Nat) (v : Int64) (hinj : Inj2 AD) (hR : RBb dA AD Fz w β) (hk : k < 12) : Met l y_B_input [.code y_B_input b_B_input 4 none] ({ frames := 3, cells := 0, slots := 0, locals := 150 }) (mP s0 dC dI w [.ref (AD 27), .int (nI k), .long v]) (mQv s0 dC dI (fun w' => VB dA AD Fz w w' (bInput k v β))) 0 0 (AA s0) := by
  refine mt_ofW B0 (by decide) (Nat.le_of_ble_eq_true rfl) (fun p e s m args below meth c ls hargs X hin hl hP => ?_)
  have X9 := X
  obtain ⟨hx, hb, hr, hml, hown, hg, hK, hn, hE, hlocks, hA⟩ := X9
  have hS : va_S (AA s0) s.heap s.heap [] := va_S.rf
  have hl : lv_has ls 4 [(0, .ref (AD 27)), (1, .int (nI k)), (2, .long v)] := hl
  obtain ⟨h27, hSI, hM4, hX4, hP6, ⟨hnF, hdm⟩, hpo, hrl⟩ := (id hR)
  obtain ⟨ft, pl, hM, hft, hpl⟩ := (id hM4)
  have m1 := hM.choose_spec.1
  have p0 := hP6.1
  have s0o := hSI.choose_spec.choose_spec.choose_spec.choose_spec.choose_spec.choose_spec.choose_spec.choose_spec.1
  refine lv_iload_n hx hb d_B_input_0 rfl (lv_at hl 1 rfl) ?_
  refine va_callv (rn_S (n := 1) (As := [.int (nI k)]) (rest := []) X hP hS (c_B_refuseBadKey B0 w (nI k) (⟨k, hk, rfl⟩)) k_203 k_204 k_54 k_205 (by decide +kernel) rfl rfl ⟨Nat.le_of_ble_eq_true rfl, Nat.le_of_ble_eq_true rfl⟩ rfl hl.1 rfl (Nat.le_of_ble_eq_true rfl) d_B_input_1 ⟨Nat.le_of_ble_eq_true rfl, Nat.le_of_ble_eq_true rfl⟩) hS (fun q _ h => h) (fun q h => h) (fun w1 tS H locs ht hvm hw hB hz1 hk1 hS => ?_)
  have hP : fw_P (dC, dI) cls_ (AA s0) w1 H := by rw [← ht]; exact hB
  rw [hw] at hP
  refine lv_aload_n hx hb d_B_input_4 rfl (lv_at hl 0 rfl) ?_
  refine va_get (D := (dC, dI)) (ci := 4) (v := .ref (AD 9)) (C := R_B) (T := F_B) (N := 4) hx hb hg in_B hown hK (hP.one h27) 0 rfl rfl 0 (by decide) (hg _ k_170) (fun _ h9 => h9) rfl d_B_input_5 ?_
  refine lv_iload_n hx hb d_B_input_8 rfl (lv_at hl 1 rfl) ?_
  refine lv_lload_n hx hb d_B_input_9 rfl (lv_at hl 2 rfl) ?_
  refine va_calli (rn_VN (n := 2) (As := [.int (nI k), .long v]) (rest := []) (C := R_P) (T := F_P) (N := 5) (ci := 1) X hP hS (c_P_isInput B0 w _ _ _ _ _ _ _ _ _ _ _ _ k v hP6 hk (hpo k hk).1) u_270 k_272 k_3 k_55 k_273 (by decide +kernel) rfl rfl ⟨Nat.le_of_ble_eq_true rfl, Nat.le_of_ble_eq_true rfl⟩ p0 rfl rfl hl.1 rfl (Nat.le_of_ble_eq_true rfl) d_B_input_10 ⟨Nat.le_of_ble_eq_true rfl, Nat.le_of_ble_eq_true rfl⟩) hS (fun q _ h => h) (fun q h => h) (fun r w2 tS H locs ht hvm hw hB hz1 hk1 hS => ?_)
  have hP : fw_P (dC, dI) cls_ (AA s0) w2 H := by rw [← ht]; exact hB
  obtain ⟨e9, b1, rfl, hb1⟩ := hw
  rw [e9] at hP
  refine nu_ifeq (tgt := 17) hx hb d_B_input_13 (by decide) (fun c1 => ?_) (fun c1 => ?_)
  · refine lv_aload_n hx hb d_B_input_17 rfl (lv_at hl 0 rfl) ?_
    refine va_get (D := (dC, dI)) (ci := 4) (v := .ref (AD 9)) (C := R_B) (T := F_B) (N := 4) hx hb hg in_B hown hK (hP.one h27) 0 rfl rfl 0 (by decide) (hg _ k_170) (fun _ h9 => h9) rfl d_B_input_18 ?_
    refine lv_iload_n hx hb d_B_input_21 rfl (lv_at hl 1 rfl) ?_
    refine lv_lload_n hx hb d_B_input_22 rfl (lv_at hl 2 rfl) ?_
    refine va_callv (rn_VN (n := 2) (As := [.int (nI k), .long v]) (rest := []) (C := R_P) (T := F_P) (N := 5) (ci := 1) X hP hS (c_P_setInput B0 w _ _ _ _ _ _ _ _ _ _ _ _ k v hP6 hk) u_274 k_276 k_4 k_55 k_277 (by decide +kernel) rfl rfl ⟨Nat.le_of_ble_eq_true rfl, Nat.le_of_ble_eq_true rfl⟩ p0 rfl rfl hl.1 rfl (Nat.le_of_ble_eq_true rfl) d_B_input_23 ⟨Nat.le_of_ble_eq_true rfl, Nat.le_of_ble_eq_true rfl⟩) hS (fun q _ h => h) (fun q h => h) (fun w3 tS H locs ht hvm hw hB hz1 hk1 hS => ?_)
    have hP : fw_P (dC, dI) cls_ (AA s0) w3 H := by rw [← ht]; exact hB
    obtain ⟨hQ1, hfr1⟩ := hw
    have hR1 := RB.plan (P' := pIn (b_P β) k v) hinj hR (fun z hz => hfr1 z (hz 10 (by omega) (by omega)) (hz 11 (by omega) (by omega))) hQ1 (hpo.in k v) hrl
    obtain ⟨hR1, ho1⟩ := hR1
    obtain ⟨h271, hSI1, hM41, hX41, hP61, ⟨hnF1, hdm1⟩, hpo1, hrl1⟩ := (id hR1)
    obtain ⟨ft1, pl1, hM1, hft1, hpl1⟩ := (id hM41)
    have m11 := hM1.choose_spec.1
    have p01 := hP61.1
    have s01o := hSI1.choose_spec.choose_spec.choose_spec.choose_spec.choose_spec.choose_spec.choose_spec.choose_spec.1
    refine lv_aload_n hx hb d_B_input_26 rfl (lv_at hl 0 rfl) ?_
    refine va_get (D := (dC, dI)) (ci := 4) (v := .ref (AD 5)) (C := R_B) (T := F_B) (N := 4) hx hb hg in_B hown hK (hP.one h271) 0 rfl rfl 1 (by decide) (hg _ k_171) (fun _ h9 => h9) rfl d_B_input_27 ?_
    refine lv_iload_n hx hb d_B_input_30 rfl (lv_at hl 1 rfl) ?_
    refine va_callv (rn_VN (n := 1) (As := [.int (nI k)]) (rest := []) (C := R_M) (T := F_M) (N := 4) (ci := 0) X hP hS (c_M_dropKey B0 w3 _ _ _ _ ft1 pl1 _ (owF w3) k hM1 hpl1.o hpl1.o12 hk) u_278 k_280 k_5 k_56 k_281 (by decide +kernel) rfl rfl ⟨Nat.le_of_ble_eq_true rfl, Nat.le_of_ble_eq_true rfl⟩ m11 rfl rfl hl.1 rfl (Nat.le_of_ble_eq_true rfl) d_B_input_31 ⟨Nat.le_of_ble_eq_true rfl, Nat.le_of_ble_eq_true rfl⟩) hS (fun q _ h => h) (fun q h => h) (fun w4 tS H locs ht hvm hw hB hz1 hk1 hS => ?_)
    have hP : fw_P (dC, dI) cls_ (AA s0) w4 H := by rw [← ht]; exact hB
    obtain ⟨hM2, hfr2⟩ := hw
    have hz2 : ∀ q, Fz q → w4 q = w3 q := RB.fz hR1 (fun z hz => hfr2 z (hz 5 (by omega)) (hz 6 (by omega)) (hz 7 (by omega)))
    have hR2 := RB.mem hinj hR1 (fun z hz => hfr2 z (hz 5 (by omega) (by omega)) (hz 6 (by omega) (by omega)) (hz 7 (by omega) (by omega))) (M4.drop hft1 hpl1 hM2 hz2)
    exact W.vret hx hb hr (fun tS ht hW => ⟨⟨w4, rfl, (by unfold bInput; rw [if_neg (fun h9 => absurd (hb1.mpr h9) (by rw [c1]; simp))]; exact VB.of (β' := bDrop (pIn (b_P β) k v) k β) hR2.1 (ho1.tr hR2.2)), mB_of ht hP⟩, hS.F ht⟩) hS.2.2 d_B_input_34
  · exact W.vret hx hb hr (fun tS ht hW => ⟨⟨w, rfl, (by unfold bInput; rw [if_pos (hb1.mp c1)]; exact VB.rf hR), mB_of ht hP⟩, hS.F ht⟩) hS.2.2 d_B_input_16
set_option maxHeartbeats 4000000 in
set_option maxRecDepth 100000 in
theorem t_B_input {l : Launch} {s0 : State} {dC : Nat → ClassId} {dI : Nat → Nat → Nat} {dA : Nat → ClassId} (B0 : BB s0 dC dI dA) (X0 : XX s0) (hlt : l.stackTraces = false) (w : fw_W) (h : Nat) (a : Int32) (v : Int64) (ho : ¬ okK a) : vx_Met l y_B_input [.code y_B_input b_B_input 4 none] ({ frames := 7, cells := 1, slots := 6, locals := 130 }) (mP s0 dC dI w [.ref h, .int a, .long v]) Qno (mX s0 dC dI (fun E w' => E = E_IA ∧ w' = w)) 1 6 (AA s0) := by
  refine mt_ofX B0 (by decide) (Nat.le_of_ble_eq_true rfl) (fun p e s m args below meth c ls hargs X hnt hl hP => ?_)
  have X9 := X
  obtain ⟨hx, hb, hr, hml, hown, hg, hK, hn, hE, hlocks, hA⟩ := X9
  have hS : va_S (AA s0) s.heap s.heap [] := va_S.rf
  have hl : lv_has ls 4 [(0, .ref h), (1, .int a), (2, .long v)] := hl
  refine lv_iload_n hx hb d_B_input_0 rfl (lv_at hl 1 rfl) ?_
  exact th_pass X hnt (rx_S (n := 1) (As := [.int a]) (rest := []) X hP hS (t_B_refuseBadKey B0 X0 hlt w a ho) k_203 k_204 k_54 k_205 (by decide +kernel) rfl rfl ⟨Nat.le_of_ble_eq_true rfl, Nat.le_of_ble_eq_true rfl⟩ rfl hl.1 rfl (Nat.le_of_ble_eq_true rfl) d_B_input_1 ⟨Nat.le_of_ble_eq_true rfl, Nat.le_of_ble_eq_true rfl⟩) hS (fun _ _ h => h) (Nat.le_of_ble_eq_true rfl) (Nat.le_of_ble_eq_true rfl)
set_option maxHeartbeats 4000000 in
set_option maxRecDepth 100000 in
theorem c_B_task {l : Launch} {s0 : State} {dC : Nat → ClassId} {dI : Nat → Nat → Nat} {dA : Nat → ClassId} (B0 : BB s0 dC dI dA) (w : fw_W) (X0 : XX s0) (AD : Nat → Nat) (Fz : Nat → Prop) (β : BS) (k r9 : Nat) (a b c9 : Int32) (hinj : Inj2 AD) (hR : RBb dA AD Fz w β) (hk : k < 12) (ho : okTask r9 a b c9) : Met l y_B_task [.code y_B_task b_B_task 6 none] ({ frames := 3, cells := 0, slots := 0, locals := 180 }) (mP s0 dC dI w [.ref (AD 27), .int (nI k), .int (nI r9), .int a, .int b, .int c9]) (mQv s0 dC dI (fun w' => VB dA AD Fz w w' (bTask k r9 a b c9 β))) 0 0 (AA s0) := by
  refine mt_ofW B0 (by decide) (Nat.le_of_ble_eq_true rfl) (fun p e s m args below meth c ls hargs X hin hl hP => ?_)
  have X9 := X
  obtain ⟨hx, hb, hr, hml, hown, hg, hK, hn, hE, hlocks, hA⟩ := X9
  have hS : va_S (AA s0) s.heap s.heap [] := va_S.rf
  have hl : lv_has ls 6 [(0, .ref (AD 27)), (1, .int (nI k)), (2, .int (nI r9)), (3, .int a), (4, .int b), (5, .int c9)] := hl
  obtain ⟨h27, hSI, hM4, hX4, hP6, ⟨hnF, hdm⟩, hpo, hrl⟩ := (id hR)
  obtain ⟨ft, pl, hM, hft, hpl⟩ := (id hM4)
  have m1 := hM.choose_spec.1
  have p0 := hP6.1
  have s0o := hSI.choose_spec.choose_spec.choose_spec.choose_spec.choose_spec.choose_spec.choose_spec.choose_spec.1
  refine lv_iload_n hx hb d_B_task_0 rfl (lv_at hl 1 rfl) ?_
  refine va_callv (rn_S (n := 1) (As := [.int (nI k)]) (rest := []) X hP hS (c_B_refuseBadKey B0 w (nI k) (⟨k, hk, rfl⟩)) k_203 k_204 k_54 k_205 (by decide +kernel) rfl rfl ⟨Nat.le_of_ble_eq_true rfl, Nat.le_of_ble_eq_true rfl⟩ rfl hl.1 rfl (Nat.le_of_ble_eq_true rfl) d_B_task_1 ⟨Nat.le_of_ble_eq_true rfl, Nat.le_of_ble_eq_true rfl⟩) hS (fun q _ h => h) (fun q h => h) (fun w5 tS H locs ht hvm hw hB hz1 hk1 hS => ?_)
  have hP : fw_P (dC, dI) cls_ (AA s0) w5 H := by rw [← ht]; exact hB
  rw [hw] at hP
  refine lv_iload_n hx hb d_B_task_4 rfl (lv_at hl 2 rfl) ?_
  refine lv_iload_n hx hb d_B_task_5 rfl (lv_at hl 3 rfl) ?_
  refine lv_iload hx hb d_B_task_6 (lv_at hl 4 rfl) ?_
  refine lv_iload hx hb d_B_task_8 (lv_at hl 5 rfl) ?_
  refine va_callv (rn_S (n := 4) (As := [.int (nI r9), .int a, .int b, .int c9]) (rest := []) X hP hS (c_B_refuseBadTask B0 w X0 r9 a b c9 ho) k_297 k_298 k_54 k_299 (by decide +kernel) rfl rfl ⟨Nat.le_of_ble_eq_true rfl, Nat.le_of_ble_eq_true rfl⟩ rfl hl.1 rfl (Nat.le_of_ble_eq_true rfl) d_B_task_10 ⟨Nat.le_of_ble_eq_true rfl, Nat.le_of_ble_eq_true rfl⟩) hS (fun q _ h => h) (fun q h => h) (fun w6 tS H locs ht hvm hw hB hz1 hk1 hS => ?_)
  have hP : fw_P (dC, dI) cls_ (AA s0) w6 H := by rw [← ht]; exact hB
  rw [hw] at hP
  refine lv_aload_n hx hb d_B_task_13 rfl (lv_at hl 0 rfl) ?_
  refine va_get (D := (dC, dI)) (ci := 4) (v := .ref (AD 9)) (C := R_B) (T := F_B) (N := 4) hx hb hg in_B hown hK (hP.one h27) 0 rfl rfl 0 (by decide) (hg _ k_170) (fun _ h9 => h9) rfl d_B_task_14 ?_
  refine lv_iload_n hx hb d_B_task_17 rfl (lv_at hl 1 rfl) ?_
  refine lv_iload_n hx hb d_B_task_18 rfl (lv_at hl 2 rfl) ?_
  refine lv_iload_n hx hb d_B_task_19 rfl (lv_at hl 3 rfl) ?_
  refine lv_iload hx hb d_B_task_20 (lv_at hl 4 rfl) ?_
  refine lv_iload hx hb d_B_task_22 (lv_at hl 5 rfl) ?_
  refine va_calli (rn_VN (n := 5) (As := [.int (nI k), .int (nI r9), .int a, .int b, .int c9]) (rest := []) (C := R_P) (T := F_P) (N := 5) (ci := 1) X hP hS (c_P_isTask B0 w _ _ _ _ _ _ _ _ _ _ _ _ k r9 a b c9 hP6 hk ho.1 (hpo k hk).1 (hrl k)) u_308 k_310 k_8 k_55 k_311 (by decide +kernel) rfl rfl ⟨Nat.le_of_ble_eq_true rfl, Nat.le_of_ble_eq_true rfl⟩ p0 rfl rfl hl.1 rfl (Nat.le_of_ble_eq_true rfl) d_B_task_24 ⟨Nat.le_of_ble_eq_true rfl, Nat.le_of_ble_eq_true rfl⟩) hS (fun q _ h => h) (fun q h => h) (fun r w7 tS H locs ht hvm hw hB hz1 hk1 hS => ?_)
  have hP : fw_P (dC, dI) cls_ (AA s0) w7 H := by rw [← ht]; exact hB
  obtain ⟨e9, b1, rfl, hb1⟩ := hw
  rw [e9] at hP
  refine nu_ifeq (tgt := 31) hx hb d_B_task_27 (by decide) (fun c1 => ?_) (fun c1 => ?_)
  · refine lv_aload_n hx hb d_B_task_31 rfl (lv_at hl 0 rfl) ?_
    refine va_get (D := (dC, dI)) (ci := 4) (v := .ref (AD 9)) (C := R_B) (T := F_B) (N := 4) hx hb hg in_B hown hK (hP.one h27) 0 rfl rfl 0 (by decide) (hg _ k_170) (fun _ h9 => h9) rfl d_B_task_32 ?_
    refine lv_iload_n hx hb d_B_task_35 rfl (lv_at hl 1 rfl) ?_
    refine lv_iload_n hx hb d_B_task_36 rfl (lv_at hl 2 rfl) ?_
    refine lv_iload_n hx hb d_B_task_37 rfl (lv_at hl 3 rfl) ?_
    refine lv_iload hx hb d_B_task_38 (lv_at hl 4 rfl) ?_
    refine lv_iload hx hb d_B_task_40 (lv_at hl 5 rfl) ?_
    refine va_callv (rn_VN (n := 5) (As := [.int (nI k), .int (nI r9), .int a, .int b, .int c9]) (rest := []) (C := R_P) (T := F_P) (N := 5) (ci := 1) X hP hS (c_P_setTask B0 w _ _ _ _ _ _ _ _ _ _ _ _ k r9 a b c9 hP6 hk) u_312 k_314 k_9 k_55 k_315 (by decide +kernel) rfl rfl ⟨Nat.le_of_ble_eq_true rfl, Nat.le_of_ble_eq_true rfl⟩ p0 rfl rfl hl.1 rfl (Nat.le_of_ble_eq_true rfl) d_B_task_42 ⟨Nat.le_of_ble_eq_true rfl, Nat.le_of_ble_eq_true rfl⟩) hS (fun q _ h => h) (fun q h => h) (fun w8 tS H locs ht hvm hw hB hz1 hk1 hS => ?_)
    have hP : fw_P (dC, dI) cls_ (AA s0) w8 H := by rw [← ht]; exact hB
    obtain ⟨hQ1, hfr1⟩ := hw
    have hR1 := RB.plan (P' := pTask (b_P β) k r9 a b c9) hinj hR (fun z hz => hfr1 z (hz 10 (by omega) (by omega)) (hz 12 (by omega) (by omega)) (hz (15 + k) (by omega) (by omega)) (hz 14 (by omega) (by omega))) hQ1 (hpo.task ho) (fun j => by show va_up (p_rl (b_P β)) k r9 j < 10; unfold va_up; split; exact ho.1; exact hrl j)
    obtain ⟨hR1, ho1⟩ := hR1
    obtain ⟨h271, hSI1, hM41, hX41, hP61, ⟨hnF1, hdm1⟩, hpo1, hrl1⟩ := (id hR1)
    obtain ⟨ft1, pl1, hM1, hft1, hpl1⟩ := (id hM41)
    have m11 := hM1.choose_spec.1
    have p01 := hP61.1
    have s01o := hSI1.choose_spec.choose_spec.choose_spec.choose_spec.choose_spec.choose_spec.choose_spec.choose_spec.1
    refine lv_aload_n hx hb d_B_task_45 rfl (lv_at hl 0 rfl) ?_
    refine va_get (D := (dC, dI)) (ci := 4) (v := .ref (AD 5)) (C := R_B) (T := F_B) (N := 4) hx hb hg in_B hown hK (hP.one h271) 0 rfl rfl 1 (by decide) (hg _ k_171) (fun _ h9 => h9) rfl d_B_task_46 ?_
    refine lv_iload_n hx hb d_B_task_49 rfl (lv_at hl 1 rfl) ?_
    refine va_callv (rn_VN (n := 1) (As := [.int (nI k)]) (rest := []) (C := R_M) (T := F_M) (N := 4) (ci := 0) X hP hS (c_M_dropKey B0 w8 _ _ _ _ ft1 pl1 _ (owF w8) k hM1 hpl1.o hpl1.o12 hk) u_278 k_280 k_5 k_56 k_281 (by decide +kernel) rfl rfl ⟨Nat.le_of_ble_eq_true rfl, Nat.le_of_ble_eq_true rfl⟩ m11 rfl rfl hl.1 rfl (Nat.le_of_ble_eq_true rfl) d_B_task_50 ⟨Nat.le_of_ble_eq_true rfl, Nat.le_of_ble_eq_true rfl⟩) hS (fun q _ h => h) (fun q h => h) (fun w9 tS H locs ht hvm hw hB hz1 hk1 hS => ?_)
    have hP : fw_P (dC, dI) cls_ (AA s0) w9 H := by rw [← ht]; exact hB
    obtain ⟨hM2, hfr2⟩ := hw
    have hz2 : ∀ q, Fz q → w9 q = w8 q := RB.fz hR1 (fun z hz => hfr2 z (hz 5 (by omega)) (hz 6 (by omega)) (hz 7 (by omega)))
    have hR2 := RB.mem hinj hR1 (fun z hz => hfr2 z (hz 5 (by omega) (by omega)) (hz 6 (by omega) (by omega)) (hz 7 (by omega) (by omega))) (M4.drop hft1 hpl1 hM2 hz2)
    exact W.vret hx hb hr (fun tS ht hW => ⟨⟨w9, rfl, (by unfold bTask; rw [if_neg (fun h9 => absurd (hb1.mpr h9) (by rw [c1]; simp))]; exact VB.of (β' := bDrop (pTask (b_P β) k r9 a b c9) k β) hR2.1 (ho1.tr hR2.2)), mB_of ht hP⟩, hS.F ht⟩) hS.2.2 d_B_task_53
  · exact W.vret hx hb hr (fun tS ht hW => ⟨⟨w, rfl, (by unfold bTask; rw [if_pos (hb1.mp c1)]; exact VB.rf hR), mB_of ht hP⟩, hS.F ht⟩) hS.2.2 d_B_task_30
set_option maxHeartbeats 4000000 in
set_option maxRecDepth 100000 in
theorem t_B_task {l : Launch} {s0 : State} {dC : Nat → ClassId} {dI : Nat → Nat → Nat} {dA : Nat → ClassId} (B0 : BB s0 dC dI dA) (X0 : XX s0) (hlt : l.stackTraces = false) (w : fw_W) (h : Nat) (x1 x2 a b c9 : Int32) (ho : ¬ (okK x1 ∧ ∃ r9, x2 = nI r9 ∧ okTask r9 a b c9)) : vx_Met l y_B_task [.code y_B_task b_B_task 6 none] ({ frames := 7, cells := 1, slots := 6, locals := 160 }) (mP s0 dC dI w [.ref h, .int x1, .int x2, .int a, .int b, .int c9]) Qno (mX s0 dC dI (fun E w' => E = E_IA ∧ w' = w)) 1 6 (AA s0) := by
  refine mt_ofX B0 (by decide) (Nat.le_of_ble_eq_true rfl) (fun p e s m args below meth c ls hargs X hnt hl hP => ?_)
  have X9 := X
  obtain ⟨hx, hb, hr, hml, hown, hg, hK, hn, hE, hlocks, hA⟩ := X9
  have hS : va_S (AA s0) s.heap s.heap [] := va_S.rf
  have hl : lv_has ls 6 [(0, .ref h), (1, .int x1), (2, .int x2), (3, .int a), (4, .int b), (5, .int c9)] := hl
  refine lv_iload_n hx hb d_B_task_0 rfl (lv_at hl 1 rfl) ?_
  rcases Classical.em (okK x1) with hk | hk
  · refine va_callv (rn_S (n := 1) (As := [.int x1]) (rest := []) X hP hS (c_B_refuseBadKey B0 w x1 hk) k_203 k_204 k_54 k_205 (by decide +kernel) rfl rfl ⟨Nat.le_of_ble_eq_true rfl, Nat.le_of_ble_eq_true rfl⟩ rfl hl.1 rfl (Nat.le_of_ble_eq_true rfl) d_B_task_1 ⟨Nat.le_of_ble_eq_true rfl, Nat.le_of_ble_eq_true rfl⟩) hS (fun q _ h => h) (fun q h => h) (fun w10 tS H locs ht hvm hw hB hz1 hk1 hS => ?_)
    have hP : fw_P (dC, dI) cls_ (AA s0) w10 H := by rw [← ht]; exact hB
    rw [hw] at hP
    refine lv_iload_n hx hb d_B_task_4 rfl (lv_at hl 2 rfl) ?_
    refine lv_iload_n hx hb d_B_task_5 rfl (lv_at hl 3 rfl) ?_
    refine lv_iload hx hb d_B_task_6 (lv_at hl 4 rfl) ?_
    refine lv_iload hx hb d_B_task_8 (lv_at hl 5 rfl) ?_
    exact th_pass X hnt (rx_S (n := 4) (As := [.int x2, .int a, .int b, .int c9]) (rest := []) X hP hS (t_B_refuseBadTask B0 X0 hlt w x2 a b c9 (fun h9 => ho ⟨hk, h9⟩)) k_297 k_298 k_54 k_299 (by decide +kernel) rfl rfl ⟨Nat.le_of_ble_eq_true rfl, Nat.le_of_ble_eq_true rfl⟩ rfl hl.1 rfl (Nat.le_of_ble_eq_true rfl) d_B_task_10 ⟨Nat.le_of_ble_eq_true rfl, Nat.le_of_ble_eq_true rfl⟩) hS (fun _ _ h => h) (Nat.le_of_ble_eq_true rfl) (Nat.le_of_ble_eq_true rfl)
  · exact th_pass X hnt (rx_S (n := 1) (As := [.int x1]) (rest := []) X hP hS (t_B_refuseBadKey B0 X0 hlt w x1 hk) k_203 k_204 k_54 k_205 (by decide +kernel) rfl rfl ⟨Nat.le_of_ble_eq_true rfl, Nat.le_of_ble_eq_true rfl⟩ rfl hl.1 rfl (Nat.le_of_ble_eq_true rfl) d_B_task_1 ⟨Nat.le_of_ble_eq_true rfl, Nat.le_of_ble_eq_true rfl⟩) hS (fun _ _ h => h) (Nat.le_of_ble_eq_true rfl) (Nat.le_of_ble_eq_true rfl)
set_option maxHeartbeats 4000000 in
set_option maxRecDepth 100000 in
theorem c_B_remove {l : Launch} {s0 : State} {dC : Nat → ClassId} {dI : Nat → Nat → Nat} {dA : Nat → ClassId} (B0 : BB s0 dC dI dA) (w : fw_W) (AD : Nat → Nat) (Fz : Nat → Prop) (β : BS) (k : Nat) (hinj : Inj2 AD) (hR : RBb dA AD Fz w β) (hk : k < 12) (hkd : p_kd (b_P β) k ≠ 0) : Met l y_B_remove [.code y_B_remove b_B_remove 2 none] ({ frames := 3, cells := 0, slots := 0, locals := 150 }) (mP s0 dC dI w [.ref (AD 27), .int (nI k)]) (mQv s0 dC dI (fun w' => VB dA AD Fz w w' (bRemove k β))) 0 0 (AA s0) := by
  refine mt_ofW B0 (by decide) (Nat.le_of_ble_eq_true rfl) (fun p e s m args below meth c ls hargs X hin hl hP => ?_)
  have X9 := X
  obtain ⟨hx, hb, hr, hml, hown, hg, hK, hn, hE, hlocks, hA⟩ := X9
  have hS : va_S (AA s0) s.heap s.heap [] := va_S.rf
  have hl : lv_has ls 2 [(0, .ref (AD 27)), (1, .int (nI k))] := hl
  obtain ⟨h27, hSI, hM4, hX4, hP6, ⟨hnF, hdm⟩, hpo, hrl⟩ := (id hR)
  obtain ⟨ft, pl, hM, hft, hpl⟩ := (id hM4)
  have m1 := hM.choose_spec.1
  have p0 := hP6.1
  have s0o := hSI.choose_spec.choose_spec.choose_spec.choose_spec.choose_spec.choose_spec.choose_spec.choose_spec.1
  refine lv_iload_n hx hb d_B_remove_0 rfl (lv_at hl 1 rfl) ?_
  refine va_callv (rn_S (n := 1) (As := [.int (nI k)]) (rest := []) X hP hS (c_B_refuseBadKey B0 w (nI k) (⟨k, hk, rfl⟩)) k_203 k_204 k_54 k_205 (by decide +kernel) rfl rfl ⟨Nat.le_of_ble_eq_true rfl, Nat.le_of_ble_eq_true rfl⟩ rfl hl.1 rfl (Nat.le_of_ble_eq_true rfl) d_B_remove_1 ⟨Nat.le_of_ble_eq_true rfl, Nat.le_of_ble_eq_true rfl⟩) hS (fun q _ h => h) (fun q h => h) (fun w11 tS H locs ht hvm hw hB hz1 hk1 hS => ?_)
  have hP : fw_P (dC, dI) cls_ (AA s0) w11 H := by rw [← ht]; exact hB
  rw [hw] at hP
  have p1 := hP6.2.1
  refine lv_aload_n hx hb d_B_remove_4 rfl (lv_at hl 0 rfl) ?_
  refine va_get (D := (dC, dI)) (ci := 4) (v := .ref (AD 9)) (C := R_B) (T := F_B) (N := 4) hx hb hg in_B hown hK (hP.one h27) 0 rfl rfl 0 (by decide) (hg _ k_170) (fun _ h9 => h9) rfl d_B_remove_5 ?_
  refine va_getN (D := (dC, dI)) (ci := 1) (v := .ref (AD 10)) (C := R_P) (T := F_P) (N := 5) hx hb hg in_P hown hK (hP.one p0) 0 rfl rfl 0 (by decide) (hn _ u_85) (fun _ h9 => h9) rfl d_B_remove_8 ?_
  refine lv_iload_n hx hb d_B_remove_11 rfl (lv_at hl 1 rfl) ?_
  refine fw_iald (tys := tyl dA) hx hb hK hP p1 0 rfl (j := k) hk (by decide) d_B_remove_12 ?_
  have hkk := (hpo k hk).1
  refine lv_if_ne (tgt := 24) hx hb d_B_remove_13 (by decide) (fun c1 => ?_) (fun c1 => ?_)
  · refine lv_aload_n hx hb d_B_remove_24 rfl (lv_at hl 0 rfl) ?_
    refine va_get (D := (dC, dI)) (ci := 4) (v := .ref (AD 9)) (C := R_B) (T := F_B) (N := 4) hx hb hg in_B hown hK (hP.one h27) 0 rfl rfl 0 (by decide) (hg _ k_170) (fun _ h9 => h9) rfl d_B_remove_25 ?_
    refine va_getN (D := (dC, dI)) (ci := 1) (v := .ref (AD 10)) (C := R_P) (T := F_P) (N := 5) hx hb hg in_P hown hK (hP.one p0) 0 rfl rfl 0 (by decide) (hn _ u_85) (fun _ h9 => h9) rfl d_B_remove_28 ?_
    refine lv_iload_n hx hb d_B_remove_31 rfl (lv_at hl 1 rfl) ?_
    refine lv_iconst (v := (nI 0)) hx hb d_B_remove_32 (by decide) ?_
    refine fw_iast (tys := tyl dA) hx hb hK hP hS p1 0 rfl (j := k) (x := (nI 0)) hk (by decide) d_B_remove_33 (fun w12 H locs ew13 hP hS => ?_)
    rw [nf_up] at ew13
    have h27 : w12 (AD 27) = some (.inr (4, [.ref (AD 9), .ref (AD 5), .ref (AD 28), .ref (AD 0)])) := by rw [ew13, va_up_ne _ _ (hinj.ne (i := 27) (j := 10) (by omega) (by omega) (by omega))]; exact h27
    have m1 : w12 (AD 5) = some (.inr (0, [.ref (AD 6), .ref (AD 7), .int (nI pl.length), .ref (AD 8)])) := by rw [ew13, va_up_ne _ _ (hinj.ne (i := 5) (j := 10) (by omega) (by omega) (by omega))]; exact m1
    have p0 : w12 (AD 9) = some (.inr (1, [.ref (AD 10), .ref (AD 11), .ref (AD 12), .ref (AD 13), .ref (AD 14)])) := by rw [ew13, va_up_ne _ _ (hinj.ne (i := 9) (j := 10) (by omega) (by omega) (by omega))]; exact p0
    have p1 : w12 (AD 10) = some (.inl (dA 0, 12, .inl (nf (va_up (p_kd (b_P β)) k 0)))) := by rw [ew13]; exact va_up_self _ _ _
    have hR1 := RB.plan (P' := pNo (b_P β) k) hinj hR (fun z hz => by rw [ew13, va_up_ne _ _ (hz 10 (by omega) (by omega))]) (hP6.no hinj ew13) (hpo.no k) hrl
    obtain ⟨hR1, ho1⟩ := hR1
    obtain ⟨h271, hSI1, hM41, hX41, hP61, ⟨hnF1, hdm1⟩, hpo1, hrl1⟩ := (id hR1)
    obtain ⟨ft1, pl1, hM1, hft1, hpl1⟩ := (id hM41)
    have m11 := hM1.choose_spec.1
    have p01 := hP61.1
    have s01o := hSI1.choose_spec.choose_spec.choose_spec.choose_spec.choose_spec.choose_spec.choose_spec.choose_spec.1
    refine lv_aload_n hx hb d_B_remove_34 rfl (lv_at hl 0 rfl) ?_
    refine va_get (D := (dC, dI)) (ci := 4) (v := .ref (AD 5)) (C := R_B) (T := F_B) (N := 4) hx hb hg in_B hown hK (hP.one h271) 0 rfl rfl 1 (by decide) (hg _ k_171) (fun _ h9 => h9) rfl d_B_remove_35 ?_
    refine lv_iload_n hx hb d_B_remove_38 rfl (lv_at hl 1 rfl) ?_
    refine va_callv (rn_VN (n := 1) (As := [.int (nI k)]) (rest := []) (C := R_M) (T := F_M) (N := 4) (ci := 0) X hP hS (c_M_dropKey B0 w12 _ _ _ _ ft1 pl1 _ (owF w12) k hM1 hpl1.o hpl1.o12 hk) u_278 k_280 k_5 k_56 k_281 (by decide +kernel) rfl rfl ⟨Nat.le_of_ble_eq_true rfl, Nat.le_of_ble_eq_true rfl⟩ m11 rfl rfl hl.1 rfl (Nat.le_of_ble_eq_true rfl) d_B_remove_39 ⟨Nat.le_of_ble_eq_true rfl, Nat.le_of_ble_eq_true rfl⟩) hS (fun q _ h => h) (fun q h => h) (fun w14 tS H locs ht hvm hw hB hz1 hk1 hS => ?_)
    have hP : fw_P (dC, dI) cls_ (AA s0) w14 H := by rw [← ht]; exact hB
    obtain ⟨hM2, hfr2⟩ := hw
    have hz2 : ∀ q, Fz q → w14 q = w12 q := RB.fz hR1 (fun z hz => hfr2 z (hz 5 (by omega)) (hz 6 (by omega)) (hz 7 (by omega)))
    have hR2 := RB.mem hinj hR1 (fun z hz => hfr2 z (hz 5 (by omega) (by omega)) (hz 6 (by omega) (by omega)) (hz 7 (by omega) (by omega))) (M4.drop hft1 hpl1 hM2 hz2)
    exact W.vret hx hb hr (fun tS ht hW => ⟨⟨w14, rfl, (by unfold bRemove; exact VB.of (β' := bDrop (pNo (b_P β) k) k β) hR2.1 (ho1.tr hR2.2)), mB_of ht hP⟩, hS.F ht⟩) hS.2.2 d_B_remove_42
  · exact absurd (show p_kd (b_P β) k = 0 from (nI_eq (by omega) (by omega)).mp c1) hkd
set_option maxHeartbeats 4000000 in
set_option maxRecDepth 100000 in
theorem t_B_remove {l : Launch} {s0 : State} {dC : Nat → ClassId} {dI : Nat → Nat → Nat} {dA : Nat → ClassId} (B0 : BB s0 dC dI dA) (X0 : XX s0) (hlt : l.stackTraces = false) (w : fw_W) (h : Nat) (a : Int32) (ho : ¬ okK a) : vx_Met l y_B_remove [.code y_B_remove b_B_remove 2 none] ({ frames := 7, cells := 1, slots := 6, locals := 130 }) (mP s0 dC dI w [.ref h, .int a]) Qno (mX s0 dC dI (fun E w' => E = E_IA ∧ w' = w)) 1 6 (AA s0) := by
  refine mt_ofX B0 (by decide) (Nat.le_of_ble_eq_true rfl) (fun p e s m args below meth c ls hargs X hnt hl hP => ?_)
  have X9 := X
  obtain ⟨hx, hb, hr, hml, hown, hg, hK, hn, hE, hlocks, hA⟩ := X9
  have hS : va_S (AA s0) s.heap s.heap [] := va_S.rf
  have hl : lv_has ls 2 [(0, .ref h), (1, .int a)] := hl
  refine lv_iload_n hx hb d_B_remove_0 rfl (lv_at hl 1 rfl) ?_
  exact th_pass X hnt (rx_S (n := 1) (As := [.int a]) (rest := []) X hP hS (t_B_refuseBadKey B0 X0 hlt w a ho) k_203 k_204 k_54 k_205 (by decide +kernel) rfl rfl ⟨Nat.le_of_ble_eq_true rfl, Nat.le_of_ble_eq_true rfl⟩ rfl hl.1 rfl (Nat.le_of_ble_eq_true rfl) d_B_remove_1 ⟨Nat.le_of_ble_eq_true rfl, Nat.le_of_ble_eq_true rfl⟩) hS (fun _ _ h => h) (Nat.le_of_ble_eq_true rfl) (Nat.le_of_ble_eq_true rfl)
set_option maxHeartbeats 4000000 in
set_option maxRecDepth 100000 in
theorem t_B_remove0 {l : Launch} {s0 : State} {dC : Nat → ClassId} {dI : Nat → Nat → Nat} {dA : Nat → ClassId} (B0 : BB s0 dC dI dA) (X0 : XX s0) (hlt : l.stackTraces = false) (w : fw_W) (AD : Nat → Nat) (Fz : Nat → Prop) (β : BS) (k : Nat) (hinj : Inj2 AD) (hR : RBb dA AD Fz w β) (hk : k < 12) (hkd : p_kd (b_P β) k = 0) : vx_Met l y_B_remove [.code y_B_remove b_B_remove 2 none] ({ frames := 7, cells := 1, slots := 6, locals := 130 }) (mP s0 dC dI w [.ref (AD 27), .int (nI k)]) Qno (mX s0 dC dI (fun E w' => E = E_NE ∧ w' = w)) 1 6 (AA s0) := by
  refine mt_ofX B0 (by decide) (Nat.le_of_ble_eq_true rfl) (fun p e s m args below meth c ls hargs X hnt hl hP => ?_)
  have X9 := X
  obtain ⟨hx, hb, hr, hml, hown, hg, hK, hn, hE, hlocks, hA⟩ := X9
  have hS : va_S (AA s0) s.heap s.heap [] := va_S.rf
  have hl : lv_has ls 2 [(0, .ref (AD 27)), (1, .int (nI k))] := hl
  obtain ⟨h27, hSI, hM4, hX4, hP6, ⟨hnF, hdm⟩, hpo, hrl⟩ := (id hR)
  obtain ⟨ft, pl, hM, hft, hpl⟩ := (id hM4)
  have m1 := hM.choose_spec.1
  have p0 := hP6.1
  have s0o := hSI.choose_spec.choose_spec.choose_spec.choose_spec.choose_spec.choose_spec.choose_spec.choose_spec.1
  refine lv_iload_n hx hb d_B_remove_0 rfl (lv_at hl 1 rfl) ?_
  refine va_callv (rn_S (n := 1) (As := [.int (nI k)]) (rest := []) X hP hS (c_B_refuseBadKey B0 w (nI k) (⟨k, hk, rfl⟩)) k_203 k_204 k_54 k_205 (by decide +kernel) rfl rfl ⟨Nat.le_of_ble_eq_true rfl, Nat.le_of_ble_eq_true rfl⟩ rfl hl.1 rfl (Nat.le_of_ble_eq_true rfl) d_B_remove_1 ⟨Nat.le_of_ble_eq_true rfl, Nat.le_of_ble_eq_true rfl⟩) hS (fun q _ h => h) (fun q h => h) (fun w15 tS H locs ht hvm hw hB hz1 hk1 hS => ?_)
  have hP : fw_P (dC, dI) cls_ (AA s0) w15 H := by rw [← ht]; exact hB
  rw [hw] at hP
  have p1 := hP6.2.1
  refine lv_aload_n hx hb d_B_remove_4 rfl (lv_at hl 0 rfl) ?_
  refine va_get (D := (dC, dI)) (ci := 4) (v := .ref (AD 9)) (C := R_B) (T := F_B) (N := 4) hx hb hg in_B hown hK (hP.one h27) 0 rfl rfl 0 (by decide) (hg _ k_170) (fun _ h9 => h9) rfl d_B_remove_5 ?_
  refine va_getN (D := (dC, dI)) (ci := 1) (v := .ref (AD 10)) (C := R_P) (T := F_P) (N := 5) hx hb hg in_P hown hK (hP.one p0) 0 rfl rfl 0 (by decide) (hn _ u_85) (fun _ h9 => h9) rfl d_B_remove_8 ?_
  refine lv_iload_n hx hb d_B_remove_11 rfl (lv_at hl 1 rfl) ?_
  refine fw_iald (tys := tyl dA) hx hb hK hP p1 0 rfl (j := k) hk (by decide) d_B_remove_12 ?_
  refine lv_if_ne (tgt := 24) hx hb d_B_remove_13 (by decide) (fun c1 => ?_) (fun c1 => ?_)
  · exact absurd (congrArg nI hkd) c1
  · exact th_0 B0 X0 hlt X hnt hP hS ex_NE ⟨rfl, rfl⟩ hl.1 d_B_remove_16 d_B_remove_19 d_B_remove_20 d_B_remove_23 (Nat.le_of_ble_eq_true rfl) (Nat.le_of_ble_eq_true rfl) (Nat.le_of_ble_eq_true rfl) (Nat.le_of_ble_eq_true rfl) (Nat.le_of_ble_eq_true rfl) (Nat.le_of_ble_eq_true rfl)
