set_option maxHeartbeats 4000000 in
set_option maxRecDepth 100000 in
theorem h_inputX {l : Launch} {s0 : State} {dC : Nat → ClassId} {dI : Nat → Nat → Nat} {dA : Nat → ClassId} (B0 : BB s0 dC dI dA) (X0 : XX s0) (hlt : l.stackTraces = false) (w : fw_W) (AD : Nat → Nat) (Fz : Nat → Prop) (β : BS) (a : Int32) (v : Int64) (hinj : Inj2 AD) (hR : RBb dA AD Fz w β) (ho : ¬ okK a) : Met l y_L_input [.codeWith y_L_input b_L_input 5 (some .int) [(0, 6, 9, 13)]] ({ frames := 9, cells := 1, slots := 6, locals := 260 }) (mP s0 dC dI w [.ref (AD 27), .int a, .long v]) (mQi s0 dC dI (fun r w' => r = nI 1 ∧ VB dA AD Fz w w' β)) 1 6 (AA s0) := by
  have f27 := hR.1
  refine mt_ofH B0 (by decide) (Nat.le_of_ble_eq_true rfl) (fun p e s m args below meth c ls hargs X htab hl hP => ?_)
  have X9 := X
  obtain ⟨hx, hb, hr, hml, hown, hg, hK, hn, hE, hlocks, hA⟩ := X9
  have hS : va_S (AA s0) s.heap s.heap [] := va_S.rf
  have hl : lv_has ls 5 [(0, .ref (AD 27)), (1, .int a), (2, .long v)] := hl
  refine lv_aload_n hx hb d_L_input_0 rfl (lv_at hl 0 rfl) ?_
  refine lv_iload_n hx hb d_L_input_1 rfl (lv_at hl 1 rfl) ?_
  refine lv_lload_n hx hb d_L_input_2 rfl (lv_at hl 2 rfl) ?_
  refine ct_run B0 X0 X htab (rx_V (n := 2) (As := [.int a, .long v]) (rest := []) (C := R_B) (T := F_B) (N := 4) (ci := 4) X hP hS (t_B_input B0 X0 hlt w (AD 27) a v ho) k_199 k_200 k_201 k_54 k_202 (by decide +kernel) rfl rfl ⟨Nat.le_of_ble_eq_true rfl, Nat.le_of_ble_eq_true rfl⟩ f27 rfl rfl hl.1 rfl (Nat.le_of_ble_eq_true rfl) d_L_input_3 ⟨Nat.le_of_ble_eq_true rfl, Nat.le_of_ble_eq_true rfl⟩) hS E_IA (fun _ _ h9 => h9.1) [] (⟨0, 6, 9, 13⟩ : ExceptionTableEntry) [] rfl (fun z hz => absurd hz List.not_mem_nil) rfl (by decide) k_198 cs_IA (fun w9 q9 H locs h9 hP hS => ?_)
  obtain ⟨-, e9⟩ := h9
  rw [e9] at hP
  refine lv_astore (lv' := [(4, .ref q9), (0, .ref (AD 27)), (1, .int a), (2, .long v)]) hx hb d_L_input_9 hl (by decide) rfl (fun ls hl => ?_)
  refine lv_iconst (v := (nI 1)) hx hb d_L_input_11 (by decide) ?_
  exact W.iret (v := (nI 1)) hx hb hr (fun tS ht hW => ⟨⟨(nI 1), w, rfl, ⟨rfl, VB.rf hR⟩, mB_of ht hP⟩, hS.F ht⟩) hS.2.2 d_L_input_12
set_option maxHeartbeats 4000000 in
set_option maxRecDepth 100000 in
theorem h_input {l : Launch} {s0 : State} {dC : Nat → ClassId} {dI : Nat → Nat → Nat} {dA : Nat → ClassId} (B0 : BB s0 dC dI dA) (X0 : XX s0) (hlt : l.stackTraces = false) (w : fw_W) (AD : Nat → Nat) (Fz : Nat → Prop) (β : BS) (k : Nat) (v : Int64) (hinj : Inj2 AD) (hR : RBb dA AD Fz w β) (hk : k < 12) : Met l y_L_input [.codeWith y_L_input b_L_input 5 (some .int) [(0, 6, 9, 13)]] ({ frames := 9, cells := 0, slots := 0, locals := 260 }) (mP s0 dC dI w [.ref (AD 27), .int (nI k), .long v]) (mQi s0 dC dI (fun r w' => r = nI 0 ∧ VB dA AD Fz w w' (bInput k v β))) 0 0 (AA s0) := by
  have f27 := hR.1
  refine mt_ofH B0 (by decide) (Nat.le_of_ble_eq_true rfl) (fun p e s m args below meth c ls hargs X htab hl hP => ?_)
  have X9 := X
  obtain ⟨hx, hb, hr, hml, hown, hg, hK, hn, hE, hlocks, hA⟩ := X9
  have hS : va_S (AA s0) s.heap s.heap [] := va_S.rf
  have hl : lv_has ls 5 [(0, .ref (AD 27)), (1, .int (nI k)), (2, .long v)] := hl
  refine lv_aload_n hx hb d_L_input_0 rfl (lv_at hl 0 rfl) ?_
  refine lv_iload_n hx hb d_L_input_1 rfl (lv_at hl 1 rfl) ?_
  refine lv_lload_n hx hb d_L_input_2 rfl (lv_at hl 2 rfl) ?_
  refine va_callv (rn_V (n := 2) (As := [.int (nI k), .long v]) (rest := []) (C := R_B) (T := F_B) (N := 4) (ci := 4) X hP hS (c_B_input B0 w AD Fz β k v hinj hR hk) k_199 k_200 k_201 k_54 k_202 (by decide +kernel) rfl rfl ⟨Nat.le_of_ble_eq_true rfl, Nat.le_of_ble_eq_true rfl⟩ f27 rfl rfl hl.1 rfl (Nat.le_of_ble_eq_true rfl) d_L_input_3 ⟨Nat.le_of_ble_eq_true rfl, Nat.le_of_ble_eq_true rfl⟩) hS (fun q _ h => h) (fun q h => h) (fun w1 tS H locs ht hvm hw hB hz1 hk1 hS => ?_)
  have hP : fw_P (dC, dI) cls_ (AA s0) w1 H := by rw [← ht]; exact hB
  have hv9 := hw
  refine lv_goto (tgt := 13) hx hb d_L_input_6 (by decide) ?_
  refine lv_iconst (v := (nI 0)) hx hb d_L_input_13 (by decide) ?_
  exact W.iret (v := (nI 0)) hx hb hr (fun tS ht hW => ⟨⟨(nI 0), w1, rfl, ⟨rfl, hv9⟩, mB_of ht hP⟩, hS.F ht⟩) hS.2.2 d_L_input_14
set_option maxHeartbeats 4000000 in
set_option maxRecDepth 100000 in
theorem h_taskX {l : Launch} {s0 : State} {dC : Nat → ClassId} {dI : Nat → Nat → Nat} {dA : Nat → ClassId} (B0 : BB s0 dC dI dA) (X0 : XX s0) (hlt : l.stackTraces = false) (w : fw_W) (AD : Nat → Nat) (Fz : Nat → Prop) (β : BS) (x1 x2 a b c9 : Int32) (hinj : Inj2 AD) (hR : RBb dA AD Fz w β) (ho : ¬ (okK x1 ∧ ∃ r9, x2 = nI r9 ∧ okTask r9 a b c9)) : Met l y_L_task [.codeWith y_L_task b_L_task 7 (some .int) [(0, 11, 14, 13)]] ({ frames := 9, cells := 1, slots := 6, locals := 260 }) (mP s0 dC dI w [.ref (AD 27), .int x1, .int x2, .int a, .int b, .int c9]) (mQi s0 dC dI (fun r w' => r = nI 1 ∧ VB dA AD Fz w w' β)) 1 6 (AA s0) := by
  have f27 := hR.1
  refine mt_ofH B0 (by decide) (Nat.le_of_ble_eq_true rfl) (fun p e s m args below meth c ls hargs X htab hl hP => ?_)
  have X9 := X
  obtain ⟨hx, hb, hr, hml, hown, hg, hK, hn, hE, hlocks, hA⟩ := X9
  have hS : va_S (AA s0) s.heap s.heap [] := va_S.rf
  have hl : lv_has ls 7 [(0, .ref (AD 27)), (1, .int x1), (2, .int x2), (3, .int a), (4, .int b), (5, .int c9)] := hl
  refine lv_aload_n hx hb d_L_task_0 rfl (lv_at hl 0 rfl) ?_
  refine lv_iload_n hx hb d_L_task_1 rfl (lv_at hl 1 rfl) ?_
  refine lv_iload_n hx hb d_L_task_2 rfl (lv_at hl 2 rfl) ?_
  refine lv_iload_n hx hb d_L_task_3 rfl (lv_at hl 3 rfl) ?_
  refine lv_iload hx hb d_L_task_4 (lv_at hl 4 rfl) ?_
  refine lv_iload hx hb d_L_task_6 (lv_at hl 5 rfl) ?_
  refine ct_run B0 X0 X htab (rx_V (n := 5) (As := [.int x1, .int x2, .int a, .int b, .int c9]) (rest := []) (C := R_B) (T := F_B) (N := 4) (ci := 4) X hP hS (t_B_task B0 X0 hlt w (AD 27) x1 x2 a b c9 ho) k_293 k_294 k_295 k_54 k_296 (by decide +kernel) rfl rfl ⟨Nat.le_of_ble_eq_true rfl, Nat.le_of_ble_eq_true rfl⟩ f27 rfl rfl hl.1 rfl (Nat.le_of_ble_eq_true rfl) d_L_task_8 ⟨Nat.le_of_ble_eq_true rfl, Nat.le_of_ble_eq_true rfl⟩) hS E_IA (fun _ _ h9 => h9.1) [] (⟨0, 11, 14, 13⟩ : ExceptionTableEntry) [] rfl (fun z hz => absurd hz List.not_mem_nil) rfl (by decide) k_198 cs_IA (fun w9 q9 H locs h9 hP hS => ?_)
  obtain ⟨-, e9⟩ := h9
  rw [e9] at hP
  refine lv_astore (lv' := [(6, .ref q9), (0, .ref (AD 27)), (1, .int x1), (2, .int x2), (3, .int a), (4, .int b), (5, .int c9)]) hx hb d_L_task_14 hl (by decide) rfl (fun ls hl => ?_)
  refine lv_iconst (v := (nI 1)) hx hb d_L_task_16 (by decide) ?_
  exact W.iret (v := (nI 1)) hx hb hr (fun tS ht hW => ⟨⟨(nI 1), w, rfl, ⟨rfl, VB.rf hR⟩, mB_of ht hP⟩, hS.F ht⟩) hS.2.2 d_L_task_17
set_option maxHeartbeats 4000000 in
set_option maxRecDepth 100000 in
theorem h_task {l : Launch} {s0 : State} {dC : Nat → ClassId} {dI : Nat → Nat → Nat} {dA : Nat → ClassId} (B0 : BB s0 dC dI dA) (X0 : XX s0) (hlt : l.stackTraces = false) (w : fw_W) (AD : Nat → Nat) (Fz : Nat → Prop) (β : BS) (k r9 : Nat) (a b c9 : Int32) (hinj : Inj2 AD) (hR : RBb dA AD Fz w β) (hk : k < 12) (ho : okTask r9 a b c9) : Met l y_L_task [.codeWith y_L_task b_L_task 7 (some .int) [(0, 11, 14, 13)]] ({ frames := 9, cells := 0, slots := 0, locals := 260 }) (mP s0 dC dI w [.ref (AD 27), .int (nI k), .int (nI r9), .int a, .int b, .int c9]) (mQi s0 dC dI (fun r w' => r = nI 0 ∧ VB dA AD Fz w w' (bTask k r9 a b c9 β))) 0 0 (AA s0) := by
  have f27 := hR.1
  refine mt_ofH B0 (by decide) (Nat.le_of_ble_eq_true rfl) (fun p e s m args below meth c ls hargs X htab hl hP => ?_)
  have X9 := X
  obtain ⟨hx, hb, hr, hml, hown, hg, hK, hn, hE, hlocks, hA⟩ := X9
  have hS : va_S (AA s0) s.heap s.heap [] := va_S.rf
  have hl : lv_has ls 7 [(0, .ref (AD 27)), (1, .int (nI k)), (2, .int (nI r9)), (3, .int a), (4, .int b), (5, .int c9)] := hl
  refine lv_aload_n hx hb d_L_task_0 rfl (lv_at hl 0 rfl) ?_
  refine lv_iload_n hx hb d_L_task_1 rfl (lv_at hl 1 rfl) ?_
  refine lv_iload_n hx hb d_L_task_2 rfl (lv_at hl 2 rfl) ?_
  refine lv_iload_n hx hb d_L_task_3 rfl (lv_at hl 3 rfl) ?_
  refine lv_iload hx hb d_L_task_4 (lv_at hl 4 rfl) ?_
  refine lv_iload hx hb d_L_task_6 (lv_at hl 5 rfl) ?_
  refine va_callv (rn_V (n := 5) (As := [.int (nI k), .int (nI r9), .int a, .int b, .int c9]) (rest := []) (C := R_B) (T := F_B) (N := 4) (ci := 4) X hP hS (c_B_task B0 w X0 AD Fz β k r9 a b c9 hinj hR hk ho) k_293 k_294 k_295 k_54 k_296 (by decide +kernel) rfl rfl ⟨Nat.le_of_ble_eq_true rfl, Nat.le_of_ble_eq_true rfl⟩ f27 rfl rfl hl.1 rfl (Nat.le_of_ble_eq_true rfl) d_L_task_8 ⟨Nat.le_of_ble_eq_true rfl, Nat.le_of_ble_eq_true rfl⟩) hS (fun q _ h => h) (fun q h => h) (fun w2 tS H locs ht hvm hw hB hz1 hk1 hS => ?_)
  have hP : fw_P (dC, dI) cls_ (AA s0) w2 H := by rw [← ht]; exact hB
  have hv9 := hw
  refine lv_goto (tgt := 18) hx hb d_L_task_11 (by decide) ?_
  refine lv_iconst (v := (nI 0)) hx hb d_L_task_18 (by decide) ?_
  exact W.iret (v := (nI 0)) hx hb hr (fun tS ht hW => ⟨⟨(nI 0), w2, rfl, ⟨rfl, hv9⟩, mB_of ht hP⟩, hS.F ht⟩) hS.2.2 d_L_task_19
set_option maxHeartbeats 4000000 in
set_option maxRecDepth 100000 in
theorem h_removeX {l : Launch} {s0 : State} {dC : Nat → ClassId} {dI : Nat → Nat → Nat} {dA : Nat → ClassId} (B0 : BB s0 dC dI dA) (X0 : XX s0) (hlt : l.stackTraces = false) (w : fw_W) (AD : Nat → Nat) (Fz : Nat → Prop) (β : BS) (a : Int32) (hinj : Inj2 AD) (hR : RBb dA AD Fz w β) (ho : ¬ okK a) : Met l y_L_remove [.codeWith y_L_remove b_L_remove 3 (some .int) [(0, 5, 8, 13), (0, 5, 11, 23)]] ({ frames := 9, cells := 1, slots := 6, locals := 260 }) (mP s0 dC dI w [.ref (AD 27), .int a]) (mQi s0 dC dI (fun r w' => r = nI 1 ∧ VB dA AD Fz w w' β)) 1 6 (AA s0) := by
  have f27 := hR.1
  refine mt_ofH B0 (by decide) (Nat.le_of_ble_eq_true rfl) (fun p e s m args below meth c ls hargs X htab hl hP => ?_)
  have X9 := X
  obtain ⟨hx, hb, hr, hml, hown, hg, hK, hn, hE, hlocks, hA⟩ := X9
  have hS : va_S (AA s0) s.heap s.heap [] := va_S.rf
  have hl : lv_has ls 3 [(0, .ref (AD 27)), (1, .int a)] := hl
  refine lv_aload_n hx hb d_L_remove_0 rfl (lv_at hl 0 rfl) ?_
  refine lv_iload_n hx hb d_L_remove_1 rfl (lv_at hl 1 rfl) ?_
  refine ct_run B0 X0 X htab (rx_V (n := 1) (As := [.int a]) (rest := []) (C := R_B) (T := F_B) (N := 4) (ci := 4) X hP hS (t_B_remove B0 X0 hlt w (AD 27) a ho) k_321 k_322 k_323 k_54 k_324 (by decide +kernel) rfl rfl ⟨Nat.le_of_ble_eq_true rfl, Nat.le_of_ble_eq_true rfl⟩ f27 rfl rfl hl.1 rfl (Nat.le_of_ble_eq_true rfl) d_L_remove_2 ⟨Nat.le_of_ble_eq_true rfl, Nat.le_of_ble_eq_true rfl⟩) hS E_IA (fun _ _ h9 => h9.1) [] (⟨0, 5, 8, 13⟩ : ExceptionTableEntry) [(⟨0, 5, 11, 23⟩ : ExceptionTableEntry)] rfl (fun z hz => absurd hz List.not_mem_nil) rfl (by decide) k_198 cs_IA (fun w9 q9 H locs h9 hP hS => ?_)
  obtain ⟨-, e9⟩ := h9
  rw [e9] at hP
  refine lv_astore_n (lv' := [(2, .ref q9), (0, .ref (AD 27)), (1, .int a)]) hx hb d_L_remove_8 rfl hl (by decide) rfl (fun ls hl => ?_)
  refine lv_iconst (v := (nI 1)) hx hb d_L_remove_9 (by decide) ?_
  exact W.iret (v := (nI 1)) hx hb hr (fun tS ht hW => ⟨⟨(nI 1), w, rfl, ⟨rfl, VB.rf hR⟩, mB_of ht hP⟩, hS.F ht⟩) hS.2.2 d_L_remove_10
set_option maxHeartbeats 4000000 in
set_option maxRecDepth 100000 in
theorem h_remove0 {l : Launch} {s0 : State} {dC : Nat → ClassId} {dI : Nat → Nat → Nat} {dA : Nat → ClassId} (B0 : BB s0 dC dI dA) (X0 : XX s0) (hlt : l.stackTraces = false) (w : fw_W) (AD : Nat → Nat) (Fz : Nat → Prop) (β : BS) (k : Nat) (hinj : Inj2 AD) (hR : RBb dA AD Fz w β) (hk : k < 12) (hkd : p_kd (b_P β) k = 0) : Met l y_L_remove [.codeWith y_L_remove b_L_remove 3 (some .int) [(0, 5, 8, 13), (0, 5, 11, 23)]] ({ frames := 9, cells := 1, slots := 6, locals := 260 }) (mP s0 dC dI w [.ref (AD 27), .int (nI k)]) (mQi s0 dC dI (fun r w' => r = nI 2 ∧ VB dA AD Fz w w' β)) 1 6 (AA s0) := by
  have f27 := hR.1
  refine mt_ofH B0 (by decide) (Nat.le_of_ble_eq_true rfl) (fun p e s m args below meth c ls hargs X htab hl hP => ?_)
  have X9 := X
  obtain ⟨hx, hb, hr, hml, hown, hg, hK, hn, hE, hlocks, hA⟩ := X9
  have hS : va_S (AA s0) s.heap s.heap [] := va_S.rf
  have hl : lv_has ls 3 [(0, .ref (AD 27)), (1, .int (nI k))] := hl
  refine lv_aload_n hx hb d_L_remove_0 rfl (lv_at hl 0 rfl) ?_
  refine lv_iload_n hx hb d_L_remove_1 rfl (lv_at hl 1 rfl) ?_
  refine ct_run B0 X0 X htab (rx_V (n := 1) (As := [.int (nI k)]) (rest := []) (C := R_B) (T := F_B) (N := 4) (ci := 4) X hP hS (t_B_remove0 B0 X0 hlt w AD Fz β k hinj hR hk hkd) k_321 k_322 k_323 k_54 k_324 (by decide +kernel) rfl rfl ⟨Nat.le_of_ble_eq_true rfl, Nat.le_of_ble_eq_true rfl⟩ f27 rfl rfl hl.1 rfl (Nat.le_of_ble_eq_true rfl) d_L_remove_2 ⟨Nat.le_of_ble_eq_true rfl, Nat.le_of_ble_eq_true rfl⟩) hS E_NE (fun _ _ h9 => h9.1) [(⟨0, 5, 8, 13⟩ : ExceptionTableEntry)] (⟨0, 5, 11, 23⟩ : ExceptionTableEntry) [] rfl (fun z hz => by
      simp only [List.mem_cons, List.not_mem_nil, or_false] at hz
      rcases hz with rfl
      · exact ⟨by decide, _, k_198, by decide +kernel⟩) rfl (by decide) k_320 cs_NE (fun w9 q9 H locs h9 hP hS => ?_)
  obtain ⟨-, e9⟩ := h9
  rw [e9] at hP
  refine lv_astore_n (lv' := [(2, .ref q9), (0, .ref (AD 27)), (1, .int (nI k))]) hx hb d_L_remove_11 rfl hl (by decide) rfl (fun ls hl => ?_)
  refine lv_iconst (v := (nI 2)) hx hb d_L_remove_12 (by decide) ?_
  exact W.iret (v := (nI 2)) hx hb hr (fun tS ht hW => ⟨⟨(nI 2), w, rfl, ⟨rfl, VB.rf hR⟩, mB_of ht hP⟩, hS.F ht⟩) hS.2.2 d_L_remove_13
set_option maxHeartbeats 4000000 in
set_option maxRecDepth 100000 in
theorem h_remove {l : Launch} {s0 : State} {dC : Nat → ClassId} {dI : Nat → Nat → Nat} {dA : Nat → ClassId} (B0 : BB s0 dC dI dA) (X0 : XX s0) (hlt : l.stackTraces = false) (w : fw_W) (AD : Nat → Nat) (Fz : Nat → Prop) (β : BS) (k : Nat) (hinj : Inj2 AD) (hR : RBb dA AD Fz w β) (hk : k < 12) (hkd : p_kd (b_P β) k ≠ 0) : Met l y_L_remove [.codeWith y_L_remove b_L_remove 3 (some .int) [(0, 5, 8, 13), (0, 5, 11, 23)]] ({ frames := 9, cells := 0, slots := 0, locals := 260 }) (mP s0 dC dI w [.ref (AD 27), .int (nI k)]) (mQi s0 dC dI (fun r w' => r = nI 0 ∧ VB dA AD Fz w w' (bRemove k β))) 0 0 (AA s0) := by
  have f27 := hR.1
  refine mt_ofH B0 (by decide) (Nat.le_of_ble_eq_true rfl) (fun p e s m args below meth c ls hargs X htab hl hP => ?_)
  have X9 := X
  obtain ⟨hx, hb, hr, hml, hown, hg, hK, hn, hE, hlocks, hA⟩ := X9
  have hS : va_S (AA s0) s.heap s.heap [] := va_S.rf
  have hl : lv_has ls 3 [(0, .ref (AD 27)), (1, .int (nI k))] := hl
  refine lv_aload_n hx hb d_L_remove_0 rfl (lv_at hl 0 rfl) ?_
  refine lv_iload_n hx hb d_L_remove_1 rfl (lv_at hl 1 rfl) ?_
  refine va_callv (rn_V (n := 1) (As := [.int (nI k)]) (rest := []) (C := R_B) (T := F_B) (N := 4) (ci := 4) X hP hS (c_B_remove B0 w AD Fz β k hinj hR hk hkd) k_321 k_322 k_323 k_54 k_324 (by decide +kernel) rfl rfl ⟨Nat.le_of_ble_eq_true rfl, Nat.le_of_ble_eq_true rfl⟩ f27 rfl rfl hl.1 rfl (Nat.le_of_ble_eq_true rfl) d_L_remove_2 ⟨Nat.le_of_ble_eq_true rfl, Nat.le_of_ble_eq_true rfl⟩) hS (fun q _ h => h) (fun q h => h) (fun w3 tS H locs ht hvm hw hB hz1 hk1 hS => ?_)
  have hP : fw_P (dC, dI) cls_ (AA s0) w3 H := by rw [← ht]; exact hB
  have hv9 := hw
  refine lv_goto (tgt := 14) hx hb d_L_remove_5 (by decide) ?_
  refine lv_iconst (v := (nI 0)) hx hb d_L_remove_14 (by decide) ?_
  exact W.iret (v := (nI 0)) hx hb hr (fun tS ht hW => ⟨⟨(nI 0), w3, rfl, ⟨rfl, hv9⟩, mB_of ht hP⟩, hS.F ht⟩) hS.2.2 d_L_remove_15
set_option maxHeartbeats 4000000 in
set_option maxRecDepth 100000 in
theorem h_buildX {l : Launch} {s0 : State} {dC : Nat → ClassId} {dI : Nat → Nat → Nat} {dA : Nat → ClassId} (B0 : BB s0 dC dI dA) (X0 : XX s0) (hlt : l.stackTraces = false) (w : fw_W) (AD : Nat → Nat) (Fz : Nat → Prop) (β : BS) (ou : Nat) (fo : Nat → Int64) (x1 x2 : Int32) (hinj : Inj2 AD) (hR : RBb dA AD Fz w β) (ho1 : w ou = some (oc dA fo)) (ho2 : ∀ i, i < 32 → ou ≠ AD i) (ho3 : ¬ Fz ou) (ho : ¬ (okW x1 ∧ okK x2)) : Met l y_L_build [.codeWith y_L_build b_L_build 5 (some .int) [(0, 9, 12, 13), (0, 9, 16, 23), (0, 9, 20, 29), (0, 9, 24, 31)]] ({ frames := 9, cells := 1, slots := 6, locals := 260 }) (mP s0 dC dI w [.ref (AD 27), .int x1, .int x2, .ref ou]) (mQi s0 dC dI (fun r w' => r = nI 1 ∧ VL dA AD ou Fz w w' β fo)) 1 6 (AA s0) := by
  have f27 := hR.1
  refine mt_ofH B0 (by decide) (Nat.le_of_ble_eq_true rfl) (fun p e s m args below meth c ls hargs X htab hl hP => ?_)
  have X9 := X
  obtain ⟨hx, hb, hr, hml, hown, hg, hK, hn, hE, hlocks, hA⟩ := X9
  have hS : va_S (AA s0) s.heap s.heap [] := va_S.rf
  have hl : lv_has ls 5 [(0, .ref (AD 27)), (1, .int x1), (2, .int x2), (3, .ref ou)] := hl
  refine lv_aload_n hx hb d_L_build_0 rfl (lv_at hl 3 rfl) ?_
  refine lv_iconst (v := (nI 0)) hx hb d_L_build_1 (by decide) ?_
  refine lv_aload_n hx hb d_L_build_2 rfl (lv_at hl 0 rfl) ?_
  refine lv_iload_n hx hb d_L_build_3 rfl (lv_at hl 1 rfl) ?_
  refine lv_iload_n hx hb d_L_build_4 rfl (lv_at hl 2 rfl) ?_
  refine ct_run B0 X0 X htab (rx_V (n := 2) (As := [.int x1, .int x2]) (rest := [.int (nI 0), .ref ou]) (C := R_B) (T := F_B) (N := 4) (ci := 4) X hP hS (t_B_build B0 X0 hlt w (AD 27) x1 x2 ho) k_345 k_346 k_347 k_54 k_348 (by decide +kernel) rfl rfl ⟨Nat.le_of_ble_eq_true rfl, Nat.le_of_ble_eq_true rfl⟩ f27 rfl rfl hl.1 rfl (Nat.le_of_ble_eq_true rfl) d_L_build_5 ⟨Nat.le_of_ble_eq_true rfl, Nat.le_of_ble_eq_true rfl⟩) hS E_IA (fun _ _ h9 => h9.1) [] (⟨0, 9, 12, 13⟩ : ExceptionTableEntry) [(⟨0, 9, 16, 23⟩ : ExceptionTableEntry), (⟨0, 9, 20, 29⟩ : ExceptionTableEntry), (⟨0, 9, 24, 31⟩ : ExceptionTableEntry)] rfl (fun z hz => absurd hz List.not_mem_nil) rfl (by decide) k_198 cs_IA (fun w9 q9 H locs h9 hP hS => ?_)
  obtain ⟨-, e9⟩ := h9
  rw [e9] at hP
  refine lv_astore (lv' := [(4, .ref q9), (0, .ref (AD 27)), (1, .int x1), (2, .int x2), (3, .ref ou)]) hx hb d_L_build_12 hl (by decide) rfl (fun ls hl => ?_)
  refine lv_iconst (v := (nI 1)) hx hb d_L_build_14 (by decide) ?_
  exact W.iret (v := (nI 1)) hx hb hr (fun tS ht hW => ⟨⟨(nI 1), w, rfl, ⟨rfl, (VB.rf hR).keepO ho1 ho2⟩, mB_of ht hP⟩, hS.F ht⟩) hS.2.2 d_L_build_15
set_option maxHeartbeats 4000000 in
set_option maxRecDepth 100000 in
theorem h_build {l : Launch} {s0 : State} {dC : Nat → ClassId} {dI : Nat → Nat → Nat} {dA : Nat → ClassId} (B0 : BB s0 dC dI dA) (X0 : XX s0) (hlt : l.stackTraces = false) (w : fw_W) (AD : Nat → Nat) (Fz : Nat → Prop) (β : BS) (ou : Nat) (fo : Nat → Int64) (wk k : Nat) (hinj : Inj2 AD) (hR : RBb dA AD Fz w β) (ho1 : w ou = some (oc dA fo)) (ho2 : ∀ i, i < 32 → ou ≠ AD i) (ho3 : ¬ Fz ou) (hwk : wk < 2) (hk : k < 12) (hfl : bFl wk k β = 0) : Met l y_L_build [.codeWith y_L_build b_L_build 5 (some .int) [(0, 9, 12, 13), (0, 9, 16, 23), (0, 9, 20, 29), (0, 9, 24, 31)]] ({ frames := 132, cells := 36, slots := 132, locals := 3300 }) (mP s0 dC dI w [.ref (AD 27), .int (nI wk), .int (nI k), .ref ou]) (mQi s0 dC dI (fun r w' => r = nI 0 ∧ VL dA AD ou Fz w w' (bBuild wk k β) (vp_updL fo 0 ((bSess wk k β).1)))) 36 132 (AA s0) := by
  have f27 := hR.1
  refine mt_ofH B0 (by decide) (Nat.le_of_ble_eq_true rfl) (fun p e s m args below meth c ls hargs X htab hl hP => ?_)
  have X9 := X
  obtain ⟨hx, hb, hr, hml, hown, hg, hK, hn, hE, hlocks, hA⟩ := X9
  have hS : va_S (AA s0) s.heap s.heap [] := va_S.rf
  have hl : lv_has ls 5 [(0, .ref (AD 27)), (1, .int (nI wk)), (2, .int (nI k)), (3, .ref ou)] := hl
  refine lv_aload_n hx hb d_L_build_0 rfl (lv_at hl 3 rfl) ?_
  refine lv_iconst (v := (nI 0)) hx hb d_L_build_1 (by decide) ?_
  refine lv_aload_n hx hb d_L_build_2 rfl (lv_at hl 0 rfl) ?_
  refine lv_iload_n hx hb d_L_build_3 rfl (lv_at hl 1 rfl) ?_
  refine lv_iload_n hx hb d_L_build_4 rfl (lv_at hl 2 rfl) ?_
  refine va_calll (rn_V (n := 2) (As := [.int (nI wk), .int (nI k)]) (rest := [.int (nI 0), .ref ou]) (C := R_B) (T := F_B) (N := 4) (ci := 4) X hP hS (c_B_build B0 w AD Fz β wk k hinj hR hwk hk hfl) k_345 k_346 k_347 k_54 k_348 (by decide +kernel) rfl rfl ⟨Nat.le_of_ble_eq_true rfl, Nat.le_of_ble_eq_true rfl⟩ f27 rfl rfl hl.1 rfl (Nat.le_of_ble_eq_true rfl) d_L_build_5 ⟨Nat.le_of_ble_eq_true rfl, Nat.le_of_ble_eq_true rfl⟩) hS (fun q _ h => h) (fun q h => h) (fun r w4 tS H locs ht hvm hw hB hz1 hk1 hS => ?_)
  have hP : fw_P (dC, dI) cls_ (AA s0) w4 H := by rw [← ht]; exact hB
  obtain ⟨hans, hv9⟩ := hw
  have f9 : w4 ou = some (oc dA fo) := by obtain ⟨Fz9, -, -, hO9⟩ := hv9; exact hO9 ou _ ho1 ho2
  subst hans
  refine fw_last (tys := tyl dA) hx hb hK hP hS f9 1 rfl (j := 0) (by omega) (by decide) d_L_build_8 (fun w5 H locs ew6 hP hS => ?_)
  have f9 : w5 ou = some (.inl (dA 1, 1, .inr (.inl (vp_updL fo 0 ((bSess wk k β).1))))) := by rw [ew6]; exact va_up_self _ _ _
  refine lv_goto (tgt := 28) hx hb d_L_build_9 (by decide) ?_
  refine lv_iconst (v := (nI 0)) hx hb d_L_build_28 (by decide) ?_
  exact W.iret (v := (nI 0)) hx hb hr (fun tS ht hW => ⟨⟨(nI 0), w5, rfl, ⟨rfl, VB.put hv9 ho1 ho2 ho3 ew6⟩, mB_of ht hP⟩, hS.F ht⟩) hS.2.2 d_L_build_29
set_option maxHeartbeats 4000000 in
set_option maxRecDepth 100000 in
theorem h_buildN {l : Launch} {s0 : State} {dC : Nat → ClassId} {dI : Nat → Nat → Nat} {dA : Nat → ClassId} (B0 : BB s0 dC dI dA) (X0 : XX s0) (hlt : l.stackTraces = false) (w : fw_W) (AD : Nat → Nat) (Fz : Nat → Prop) (β : BS) (ou : Nat) (fo : Nat → Int64) (wk k : Nat) (hinj : Inj2 AD) (hR : RBb dA AD Fz w β) (ho1 : w ou = some (oc dA fo)) (ho2 : ∀ i, i < 32 → ou ≠ AD i) (ho3 : ¬ Fz ou) (hwk : wk < 2) (hk : k < 12) (hfl : bFl wk k β ≠ 0) : Met l y_L_build [.codeWith y_L_build b_L_build 5 (some .int) [(0, 9, 12, 13), (0, 9, 16, 23), (0, 9, 20, 29), (0, 9, 24, 31)]] ({ frames := 132, cells := 37, slots := 138, locals := 3300 }) (mP s0 dC dI w [.ref (AD 27), .int (nI wk), .int (nI k), .ref ou]) (mQi s0 dC dI (fun r w' => r = nI (bFl wk k β + 1) ∧ VL dA AD ou Fz w w' (bBuild wk k β) fo)) 37 138 (AA s0) := by
  have h4 := bFl4 wk k β
  have f27 := hR.1
  refine mt_ofH B0 (by decide) (Nat.le_of_ble_eq_true rfl) (fun p e s m args below meth c ls hargs X htab hl hP => ?_)
  have X9 := X
  obtain ⟨hx, hb, hr, hml, hown, hg, hK, hn, hE, hlocks, hA⟩ := X9
  have hS : va_S (AA s0) s.heap s.heap [] := va_S.rf
  have hl : lv_has ls 5 [(0, .ref (AD 27)), (1, .int (nI wk)), (2, .int (nI k)), (3, .ref ou)] := hl
  refine lv_aload_n hx hb d_L_build_0 rfl (lv_at hl 3 rfl) ?_
  refine lv_iconst (v := (nI 0)) hx hb d_L_build_1 (by decide) ?_
  refine lv_aload_n hx hb d_L_build_2 rfl (lv_at hl 0 rfl) ?_
  refine lv_iload_n hx hb d_L_build_3 rfl (lv_at hl 1 rfl) ?_
  refine lv_iload_n hx hb d_L_build_4 rfl (lv_at hl 2 rfl) ?_
  rcases (show bFl wk k β = 1 ∨ bFl wk k β = 2 ∨ bFl wk k β = 3 by omega) with h3 | h3 | h3
  · have hx9 : exN (bFl wk k β) = E_NE := by rw [h3]; rfl
    refine ct_run B0 X0 X htab (rx_V (n := 2) (As := [.int (nI wk), .int (nI k)]) (rest := [.int (nI 0), .ref ou]) (C := R_B) (T := F_B) (N := 4) (ci := 4) X hP hS (t_B_buildN B0 X0 hlt w AD Fz β wk k hinj hR hwk hk hfl) k_345 k_346 k_347 k_54 k_348 (by decide +kernel) rfl rfl ⟨Nat.le_of_ble_eq_true rfl, Nat.le_of_ble_eq_true rfl⟩ f27 rfl rfl hl.1 rfl (Nat.le_of_ble_eq_true rfl) d_L_build_5 ⟨Nat.le_of_ble_eq_true rfl, Nat.le_of_ble_eq_true rfl⟩) hS E_NE (fun _ _ h9 => h9.1.trans hx9) [(⟨0, 9, 12, 13⟩ : ExceptionTableEntry)] (⟨0, 9, 16, 23⟩ : ExceptionTableEntry) [(⟨0, 9, 20, 29⟩ : ExceptionTableEntry), (⟨0, 9, 24, 31⟩ : ExceptionTableEntry)] rfl (fun z hz => by
        simp only [List.mem_cons, List.not_mem_nil, or_false] at hz
        rcases hz with rfl
        · exact ⟨by decide, _, k_198, by decide +kernel⟩) rfl (by decide) k_320 cs_NE (fun w9 q9 H locs h9 hP hS => ?_)
    have hv9 := h9.2
    refine lv_astore (lv' := [(4, .ref q9), (0, .ref (AD 27)), (1, .int (nI wk)), (2, .int (nI k)), (3, .ref ou)]) hx hb d_L_build_16 hl (by decide) rfl (fun ls hl => ?_)
    refine lv_iconst (v := (nI 2)) hx hb d_L_build_18 (by decide) ?_
    exact W.iret (v := (nI 2)) hx hb hr (fun tS ht hW => ⟨⟨(nI 2), w9, rfl, ⟨by rw [h3], hv9.keepO ho1 ho2⟩, mB_of ht hP⟩, hS.F ht⟩) hS.2.2 d_L_build_19
  · have hx9 : exN (bFl wk k β) = E_AR := by rw [h3]; rfl
    refine ct_run B0 X0 X htab (rx_V (n := 2) (As := [.int (nI wk), .int (nI k)]) (rest := [.int (nI 0), .ref ou]) (C := R_B) (T := F_B) (N := 4) (ci := 4) X hP hS (t_B_buildN B0 X0 hlt w AD Fz β wk k hinj hR hwk hk hfl) k_345 k_346 k_347 k_54 k_348 (by decide +kernel) rfl rfl ⟨Nat.le_of_ble_eq_true rfl, Nat.le_of_ble_eq_true rfl⟩ f27 rfl rfl hl.1 rfl (Nat.le_of_ble_eq_true rfl) d_L_build_5 ⟨Nat.le_of_ble_eq_true rfl, Nat.le_of_ble_eq_true rfl⟩) hS E_AR (fun _ _ h9 => h9.1.trans hx9) [(⟨0, 9, 12, 13⟩ : ExceptionTableEntry), (⟨0, 9, 16, 23⟩ : ExceptionTableEntry)] (⟨0, 9, 20, 29⟩ : ExceptionTableEntry) [(⟨0, 9, 24, 31⟩ : ExceptionTableEntry)] rfl (fun z hz => by
        simp only [List.mem_cons, List.not_mem_nil, or_false] at hz
        rcases hz with rfl | rfl
        · exact ⟨by decide, _, k_198, by decide +kernel⟩
        · exact ⟨by decide, _, k_320, by decide +kernel⟩) rfl (by decide) k_343 cs_AR (fun w9 q9 H locs h9 hP hS => ?_)
    have hv9 := h9.2
    refine lv_astore (lv' := [(4, .ref q9), (0, .ref (AD 27)), (1, .int (nI wk)), (2, .int (nI k)), (3, .ref ou)]) hx hb d_L_build_20 hl (by decide) rfl (fun ls hl => ?_)
    refine lv_iconst (v := (nI 3)) hx hb d_L_build_22 (by decide) ?_
    exact W.iret (v := (nI 3)) hx hb hr (fun tS ht hW => ⟨⟨(nI 3), w9, rfl, ⟨by rw [h3], hv9.keepO ho1 ho2⟩, mB_of ht hP⟩, hS.F ht⟩) hS.2.2 d_L_build_23
  · have hx9 : exN (bFl wk k β) = E_IS := by rw [h3]; rfl
    refine ct_run B0 X0 X htab (rx_V (n := 2) (As := [.int (nI wk), .int (nI k)]) (rest := [.int (nI 0), .ref ou]) (C := R_B) (T := F_B) (N := 4) (ci := 4) X hP hS (t_B_buildN B0 X0 hlt w AD Fz β wk k hinj hR hwk hk hfl) k_345 k_346 k_347 k_54 k_348 (by decide +kernel) rfl rfl ⟨Nat.le_of_ble_eq_true rfl, Nat.le_of_ble_eq_true rfl⟩ f27 rfl rfl hl.1 rfl (Nat.le_of_ble_eq_true rfl) d_L_build_5 ⟨Nat.le_of_ble_eq_true rfl, Nat.le_of_ble_eq_true rfl⟩) hS E_IS (fun _ _ h9 => h9.1.trans hx9) [(⟨0, 9, 12, 13⟩ : ExceptionTableEntry), (⟨0, 9, 16, 23⟩ : ExceptionTableEntry), (⟨0, 9, 20, 29⟩ : ExceptionTableEntry)] (⟨0, 9, 24, 31⟩ : ExceptionTableEntry) [] rfl (fun z hz => by
        simp only [List.mem_cons, List.not_mem_nil, or_false] at hz
        rcases hz with rfl | rfl | rfl
        · exact ⟨by decide, _, k_198, by decide +kernel⟩
        · exact ⟨by decide, _, k_320, by decide +kernel⟩
        · exact ⟨by decide, _, k_343, by decide +kernel⟩) rfl (by decide) k_344 cs_IS (fun w9 q9 H locs h9 hP hS => ?_)
    have hv9 := h9.2
    refine lv_astore (lv' := [(4, .ref q9), (0, .ref (AD 27)), (1, .int (nI wk)), (2, .int (nI k)), (3, .ref ou)]) hx hb d_L_build_24 hl (by decide) rfl (fun ls hl => ?_)
    refine lv_iconst (v := (nI 4)) hx hb d_L_build_26 (by decide) ?_
    exact W.iret (v := (nI 4)) hx hb hr (fun tS ht hW => ⟨⟨(nI 4), w9, rfl, ⟨by rw [h3], hv9.keepO ho1 ho2⟩, mB_of ht hP⟩, hS.F ht⟩) hS.2.2 d_L_build_27
set_option maxHeartbeats 4000000 in
set_option maxRecDepth 100000 in
theorem h_staleX {l : Launch} {s0 : State} {dC : Nat → ClassId} {dI : Nat → Nat → Nat} {dA : Nat → ClassId} (B0 : BB s0 dC dI dA) (X0 : XX s0) (hlt : l.stackTraces = false) (w : fw_W) (AD : Nat → Nat) (Fz : Nat → Prop) (β : BS) (ou : Nat) (fo : Nat → Int64) (x1 x2 : Int32) (hinj : Inj2 AD) (hR : RBb dA AD Fz w β) (ho1 : w ou = some (oc dA fo)) (ho2 : ∀ i, i < 32 → ou ≠ AD i) (ho3 : ¬ Fz ou) (ho : ¬ (okW x1 ∧ okK x2)) : Met l y_L_stale [.codeWith y_L_stale b_L_stale 5 (some .int) [(0, 17, 20, 13), (0, 17, 24, 23), (0, 17, 28, 29), (0, 17, 32, 31)]] ({ frames := 9, cells := 1, slots := 6, locals := 260 }) (mP s0 dC dI w [.ref (AD 27), .int x1, .int x2, .ref ou]) (mQi s0 dC dI (fun r w' => r = nI 1 ∧ VL dA AD ou Fz w w' β fo)) 1 6 (AA s0) := by
  have f27 := hR.1
  refine mt_ofH B0 (by decide) (Nat.le_of_ble_eq_true rfl) (fun p e s m args below meth c ls hargs X htab hl hP => ?_)
  have X9 := X
  obtain ⟨hx, hb, hr, hml, hown, hg, hK, hn, hE, hlocks, hA⟩ := X9
  have hS : va_S (AA s0) s.heap s.heap [] := va_S.rf
  have hl : lv_has ls 5 [(0, .ref (AD 27)), (1, .int x1), (2, .int x2), (3, .ref ou)] := hl
  refine lv_aload_n hx hb d_L_stale_0 rfl (lv_at hl 3 rfl) ?_
  refine lv_iconst (v := (nI 0)) hx hb d_L_stale_1 (by decide) ?_
  refine lv_aload_n hx hb d_L_stale_2 rfl (lv_at hl 0 rfl) ?_
  refine lv_iload_n hx hb d_L_stale_3 rfl (lv_at hl 1 rfl) ?_
  refine lv_iload_n hx hb d_L_stale_4 rfl (lv_at hl 2 rfl) ?_
  refine ct_run B0 X0 X htab (rx_V (n := 2) (As := [.int x1, .int x2]) (rest := [.int (nI 0), .ref ou]) (C := R_B) (T := F_B) (N := 4) (ci := 4) X hP hS (t_B_stale B0 X0 hlt w (AD 27) x1 x2 ho) k_569 k_570 k_571 k_54 k_572 (by decide +kernel) rfl rfl ⟨Nat.le_of_ble_eq_true rfl, Nat.le_of_ble_eq_true rfl⟩ f27 rfl rfl hl.1 rfl (Nat.le_of_ble_eq_true rfl) d_L_stale_5 ⟨Nat.le_of_ble_eq_true rfl, Nat.le_of_ble_eq_true rfl⟩) hS E_IA (fun _ _ h9 => h9.1) [] (⟨0, 17, 20, 13⟩ : ExceptionTableEntry) [(⟨0, 17, 24, 23⟩ : ExceptionTableEntry), (⟨0, 17, 28, 29⟩ : ExceptionTableEntry), (⟨0, 17, 32, 31⟩ : ExceptionTableEntry)] rfl (fun z hz => absurd hz List.not_mem_nil) rfl (by decide) k_198 cs_IA (fun w9 q9 H locs h9 hP hS => ?_)
  obtain ⟨-, e9⟩ := h9
  rw [e9] at hP
  refine lv_astore (lv' := [(4, .ref q9), (0, .ref (AD 27)), (1, .int x1), (2, .int x2), (3, .ref ou)]) hx hb d_L_stale_20 hl (by decide) rfl (fun ls hl => ?_)
  refine lv_iconst (v := (nI 1)) hx hb d_L_stale_22 (by decide) ?_
  exact W.iret (v := (nI 1)) hx hb hr (fun tS ht hW => ⟨⟨(nI 1), w, rfl, ⟨rfl, (VB.rf hR).keepO ho1 ho2⟩, mB_of ht hP⟩, hS.F ht⟩) hS.2.2 d_L_stale_23
set_option maxHeartbeats 4000000 in
set_option maxRecDepth 100000 in
theorem h_stale {l : Launch} {s0 : State} {dC : Nat → ClassId} {dI : Nat → Nat → Nat} {dA : Nat → ClassId} (B0 : BB s0 dC dI dA) (X0 : XX s0) (hlt : l.stackTraces = false) (w : fw_W) (AD : Nat → Nat) (Fz : Nat → Prop) (β : BS) (ou : Nat) (fo : Nat → Int64) (wk k : Nat) (hinj : Inj2 AD) (hR : RBb dA AD Fz w β) (ho1 : w ou = some (oc dA fo)) (ho2 : ∀ i, i < 32 → ou ≠ AD i) (ho3 : ¬ Fz ou) (hwk : wk < 2) (hk : k < 12) (hfl : bFl wk k β = 0) : Met l y_L_stale [.codeWith y_L_stale b_L_stale 5 (some .int) [(0, 17, 20, 13), (0, 17, 24, 23), (0, 17, 28, 29), (0, 17, 32, 31)]] ({ frames := 132, cells := 36, slots := 132, locals := 3300 }) (mP s0 dC dI w [.ref (AD 27), .int (nI wk), .int (nI k), .ref ou]) (mQi s0 dC dI (fun r w' => r = nI 0 ∧ VL dA AD ou Fz w w' β (vp_updL fo 0 (if s_ran (bSess wk k β).2 = true then (1 : Int64) else 0)))) 36 132 (AA s0) := by
  have f27 := hR.1
  refine mt_ofH B0 (by decide) (Nat.le_of_ble_eq_true rfl) (fun p e s m args below meth c ls hargs X htab hl hP => ?_)
  have X9 := X
  obtain ⟨hx, hb, hr, hml, hown, hg, hK, hn, hE, hlocks, hA⟩ := X9
  have hS : va_S (AA s0) s.heap s.heap [] := va_S.rf
  have hl : lv_has ls 5 [(0, .ref (AD 27)), (1, .int (nI wk)), (2, .int (nI k)), (3, .ref ou)] := hl
  refine lv_aload_n hx hb d_L_stale_0 rfl (lv_at hl 3 rfl) ?_
  refine lv_iconst (v := (nI 0)) hx hb d_L_stale_1 (by decide) ?_
  refine lv_aload_n hx hb d_L_stale_2 rfl (lv_at hl 0 rfl) ?_
  refine lv_iload_n hx hb d_L_stale_3 rfl (lv_at hl 1 rfl) ?_
  refine lv_iload_n hx hb d_L_stale_4 rfl (lv_at hl 2 rfl) ?_
  refine va_calli (rn_V (n := 2) (As := [.int (nI wk), .int (nI k)]) (rest := [.int (nI 0), .ref ou]) (C := R_B) (T := F_B) (N := 4) (ci := 4) X hP hS (c_B_stale B0 w AD Fz β wk k hinj hR hwk hk hfl) k_569 k_570 k_571 k_54 k_572 (by decide +kernel) rfl rfl ⟨Nat.le_of_ble_eq_true rfl, Nat.le_of_ble_eq_true rfl⟩ f27 rfl rfl hl.1 rfl (Nat.le_of_ble_eq_true rfl) d_L_stale_5 ⟨Nat.le_of_ble_eq_true rfl, Nat.le_of_ble_eq_true rfl⟩) hS (fun q _ h => h) (fun q h => h) (fun r w7 tS H locs ht hvm hw hB hz1 hk1 hS => ?_)
  have hP : fw_P (dC, dI) cls_ (AA s0) w7 H := by rw [← ht]; exact hB
  obtain ⟨hans, hv9⟩ := hw
  have f9 : w7 ou = some (oc dA fo) := by obtain ⟨Fz9, -, -, hO9⟩ := hv9; exact hO9 ou _ ho1 ho2
  subst hans
  refine nu_ifeq (tgt := 15) hx hb d_L_stale_8 (by decide) (fun c1 => ?_) (fun c1 => ?_)
  · refine lv_lconst (v := 0) hx hb d_L_stale_15 (by decide) ?_
    refine fw_last (tys := tyl dA) hx hb hK hP hS f9 1 rfl (j := 0) (by omega) (by decide) d_L_stale_16 (fun w8 H locs ew9 hP hS => ?_)
    have f9 : w8 ou = some (.inl (dA 1, 1, .inr (.inl (vp_updL fo 0 0)))) := by rw [ew9]; exact va_up_self _ _ _
    refine lv_goto (tgt := 36) hx hb d_L_stale_17 (by decide) ?_
    refine lv_iconst (v := (nI 0)) hx hb d_L_stale_36 (by decide) ?_
    exact W.iret (v := (nI 0)) hx hb hr (fun tS ht hW => ⟨⟨(nI 0), w8, rfl, ⟨rfl, (by rw [show (if s_ran (bSess wk k β).2 = true then (1 : Int64) else 0) = 0 from if_neg (by rw [c1]; simp)]; exact VB.put hv9 ho1 ho2 ho3 ew9)⟩, mB_of ht hP⟩, hS.F ht⟩) hS.2.2 d_L_stale_37
  · refine lv_lconst (v := 1) hx hb d_L_stale_11 (by decide) ?_
    refine lv_goto (tgt := 16) hx hb d_L_stale_12 (by decide) ?_
    refine fw_last (tys := tyl dA) hx hb hK hP hS f9 1 rfl (j := 0) (by omega) (by decide) d_L_stale_16 (fun w10 H locs ew11 hP hS => ?_)
    have f9 : w10 ou = some (.inl (dA 1, 1, .inr (.inl (vp_updL fo 0 1)))) := by rw [ew11]; exact va_up_self _ _ _
    refine lv_goto (tgt := 36) hx hb d_L_stale_17 (by decide) ?_
    refine lv_iconst (v := (nI 0)) hx hb d_L_stale_36 (by decide) ?_
    exact W.iret (v := (nI 0)) hx hb hr (fun tS ht hW => ⟨⟨(nI 0), w10, rfl, ⟨rfl, (by rw [show (if s_ran (bSess wk k β).2 = true then (1 : Int64) else 0) = 1 from if_pos c1]; exact VB.put hv9 ho1 ho2 ho3 ew11)⟩, mB_of ht hP⟩, hS.F ht⟩) hS.2.2 d_L_stale_37
set_option maxHeartbeats 4000000 in
set_option maxRecDepth 100000 in
theorem h_staleN {l : Launch} {s0 : State} {dC : Nat → ClassId} {dI : Nat → Nat → Nat} {dA : Nat → ClassId} (B0 : BB s0 dC dI dA) (X0 : XX s0) (hlt : l.stackTraces = false) (w : fw_W) (AD : Nat → Nat) (Fz : Nat → Prop) (β : BS) (ou : Nat) (fo : Nat → Int64) (wk k : Nat) (hinj : Inj2 AD) (hR : RBb dA AD Fz w β) (ho1 : w ou = some (oc dA fo)) (ho2 : ∀ i, i < 32 → ou ≠ AD i) (ho3 : ¬ Fz ou) (hwk : wk < 2) (hk : k < 12) (hfl : bFl wk k β ≠ 0) : Met l y_L_stale [.codeWith y_L_stale b_L_stale 5 (some .int) [(0, 17, 20, 13), (0, 17, 24, 23), (0, 17, 28, 29), (0, 17, 32, 31)]] ({ frames := 132, cells := 37, slots := 138, locals := 3300 }) (mP s0 dC dI w [.ref (AD 27), .int (nI wk), .int (nI k), .ref ou]) (mQi s0 dC dI (fun r w' => r = nI (bFl wk k β + 1) ∧ VL dA AD ou Fz w w' β fo)) 37 138 (AA s0) := by
  have h4 := bFl4 wk k β
  have f27 := hR.1
  refine mt_ofH B0 (by decide) (Nat.le_of_ble_eq_true rfl) (fun p e s m args below meth c ls hargs X htab hl hP => ?_)
  have X9 := X
  obtain ⟨hx, hb, hr, hml, hown, hg, hK, hn, hE, hlocks, hA⟩ := X9
  have hS : va_S (AA s0) s.heap s.heap [] := va_S.rf
  have hl : lv_has ls 5 [(0, .ref (AD 27)), (1, .int (nI wk)), (2, .int (nI k)), (3, .ref ou)] := hl
  refine lv_aload_n hx hb d_L_stale_0 rfl (lv_at hl 3 rfl) ?_
  refine lv_iconst (v := (nI 0)) hx hb d_L_stale_1 (by decide) ?_
  refine lv_aload_n hx hb d_L_stale_2 rfl (lv_at hl 0 rfl) ?_
  refine lv_iload_n hx hb d_L_stale_3 rfl (lv_at hl 1 rfl) ?_
  refine lv_iload_n hx hb d_L_stale_4 rfl (lv_at hl 2 rfl) ?_
  rcases (show bFl wk k β = 1 ∨ bFl wk k β = 2 ∨ bFl wk k β = 3 by omega) with h3 | h3 | h3
  · have hx9 : exN (bFl wk k β) = E_NE := by rw [h3]; rfl
    refine ct_run B0 X0 X htab (rx_V (n := 2) (As := [.int (nI wk), .int (nI k)]) (rest := [.int (nI 0), .ref ou]) (C := R_B) (T := F_B) (N := 4) (ci := 4) X hP hS (t_B_staleN B0 X0 hlt w AD Fz β wk k hinj hR hwk hk hfl) k_569 k_570 k_571 k_54 k_572 (by decide +kernel) rfl rfl ⟨Nat.le_of_ble_eq_true rfl, Nat.le_of_ble_eq_true rfl⟩ f27 rfl rfl hl.1 rfl (Nat.le_of_ble_eq_true rfl) d_L_stale_5 ⟨Nat.le_of_ble_eq_true rfl, Nat.le_of_ble_eq_true rfl⟩) hS E_NE (fun _ _ h9 => h9.1.trans hx9) [(⟨0, 17, 20, 13⟩ : ExceptionTableEntry)] (⟨0, 17, 24, 23⟩ : ExceptionTableEntry) [(⟨0, 17, 28, 29⟩ : ExceptionTableEntry), (⟨0, 17, 32, 31⟩ : ExceptionTableEntry)] rfl (fun z hz => by
        simp only [List.mem_cons, List.not_mem_nil, or_false] at hz
        rcases hz with rfl
        · exact ⟨by decide, _, k_198, by decide +kernel⟩) rfl (by decide) k_320 cs_NE (fun w9 q9 H locs h9 hP hS => ?_)
    have hv9 := h9.2
    refine lv_astore (lv' := [(4, .ref q9), (0, .ref (AD 27)), (1, .int (nI wk)), (2, .int (nI k)), (3, .ref ou)]) hx hb d_L_stale_24 hl (by decide) rfl (fun ls hl => ?_)
    refine lv_iconst (v := (nI 2)) hx hb d_L_stale_26 (by decide) ?_
    exact W.iret (v := (nI 2)) hx hb hr (fun tS ht hW => ⟨⟨(nI 2), w9, rfl, ⟨by rw [h3], hv9.keepO ho1 ho2⟩, mB_of ht hP⟩, hS.F ht⟩) hS.2.2 d_L_stale_27
  · have hx9 : exN (bFl wk k β) = E_AR := by rw [h3]; rfl
    refine ct_run B0 X0 X htab (rx_V (n := 2) (As := [.int (nI wk), .int (nI k)]) (rest := [.int (nI 0), .ref ou]) (C := R_B) (T := F_B) (N := 4) (ci := 4) X hP hS (t_B_staleN B0 X0 hlt w AD Fz β wk k hinj hR hwk hk hfl) k_569 k_570 k_571 k_54 k_572 (by decide +kernel) rfl rfl ⟨Nat.le_of_ble_eq_true rfl, Nat.le_of_ble_eq_true rfl⟩ f27 rfl rfl hl.1 rfl (Nat.le_of_ble_eq_true rfl) d_L_stale_5 ⟨Nat.le_of_ble_eq_true rfl, Nat.le_of_ble_eq_true rfl⟩) hS E_AR (fun _ _ h9 => h9.1.trans hx9) [(⟨0, 17, 20, 13⟩ : ExceptionTableEntry), (⟨0, 17, 24, 23⟩ : ExceptionTableEntry)] (⟨0, 17, 28, 29⟩ : ExceptionTableEntry) [(⟨0, 17, 32, 31⟩ : ExceptionTableEntry)] rfl (fun z hz => by
        simp only [List.mem_cons, List.not_mem_nil, or_false] at hz
        rcases hz with rfl | rfl
        · exact ⟨by decide, _, k_198, by decide +kernel⟩
        · exact ⟨by decide, _, k_320, by decide +kernel⟩) rfl (by decide) k_343 cs_AR (fun w9 q9 H locs h9 hP hS => ?_)
    have hv9 := h9.2
    refine lv_astore (lv' := [(4, .ref q9), (0, .ref (AD 27)), (1, .int (nI wk)), (2, .int (nI k)), (3, .ref ou)]) hx hb d_L_stale_28 hl (by decide) rfl (fun ls hl => ?_)
    refine lv_iconst (v := (nI 3)) hx hb d_L_stale_30 (by decide) ?_
    exact W.iret (v := (nI 3)) hx hb hr (fun tS ht hW => ⟨⟨(nI 3), w9, rfl, ⟨by rw [h3], hv9.keepO ho1 ho2⟩, mB_of ht hP⟩, hS.F ht⟩) hS.2.2 d_L_stale_31
  · have hx9 : exN (bFl wk k β) = E_IS := by rw [h3]; rfl
    refine ct_run B0 X0 X htab (rx_V (n := 2) (As := [.int (nI wk), .int (nI k)]) (rest := [.int (nI 0), .ref ou]) (C := R_B) (T := F_B) (N := 4) (ci := 4) X hP hS (t_B_staleN B0 X0 hlt w AD Fz β wk k hinj hR hwk hk hfl) k_569 k_570 k_571 k_54 k_572 (by decide +kernel) rfl rfl ⟨Nat.le_of_ble_eq_true rfl, Nat.le_of_ble_eq_true rfl⟩ f27 rfl rfl hl.1 rfl (Nat.le_of_ble_eq_true rfl) d_L_stale_5 ⟨Nat.le_of_ble_eq_true rfl, Nat.le_of_ble_eq_true rfl⟩) hS E_IS (fun _ _ h9 => h9.1.trans hx9) [(⟨0, 17, 20, 13⟩ : ExceptionTableEntry), (⟨0, 17, 24, 23⟩ : ExceptionTableEntry), (⟨0, 17, 28, 29⟩ : ExceptionTableEntry)] (⟨0, 17, 32, 31⟩ : ExceptionTableEntry) [] rfl (fun z hz => by
        simp only [List.mem_cons, List.not_mem_nil, or_false] at hz
        rcases hz with rfl | rfl | rfl
        · exact ⟨by decide, _, k_198, by decide +kernel⟩
        · exact ⟨by decide, _, k_320, by decide +kernel⟩
        · exact ⟨by decide, _, k_343, by decide +kernel⟩) rfl (by decide) k_344 cs_IS (fun w9 q9 H locs h9 hP hS => ?_)
    have hv9 := h9.2
    refine lv_astore (lv' := [(4, .ref q9), (0, .ref (AD 27)), (1, .int (nI wk)), (2, .int (nI k)), (3, .ref ou)]) hx hb d_L_stale_32 hl (by decide) rfl (fun ls hl => ?_)
    refine lv_iconst (v := (nI 4)) hx hb d_L_stale_34 (by decide) ?_
    exact W.iret (v := (nI 4)) hx hb hr (fun tS ht hW => ⟨⟨(nI 4), w9, rfl, ⟨by rw [h3], hv9.keepO ho1 ho2⟩, mB_of ht hP⟩, hS.F ht⟩) hS.2.2 d_L_stale_35
set_option maxHeartbeats 4000000 in
set_option maxRecDepth 100000 in
theorem h_forgetX {l : Launch} {s0 : State} {dC : Nat → ClassId} {dI : Nat → Nat → Nat} {dA : Nat → ClassId} (B0 : BB s0 dC dI dA) (X0 : XX s0) (hlt : l.stackTraces = false) (w : fw_W) (AD : Nat → Nat) (Fz : Nat → Prop) (β : BS) (ou : Nat) (fo : Nat → Int64) (a : Int32) (hinj : Inj2 AD) (hR : RBb dA AD Fz w β) (ho1 : w ou = some (oc dA fo)) (ho2 : ∀ i, i < 32 → ou ≠ AD i) (ho3 : ¬ Fz ou) (ho : ¬ okW a) : Met l y_L_forget [.codeWith y_L_forget b_L_forget 4 (some .int) [(0, 9, 12, 13)]] ({ frames := 9, cells := 1, slots := 6, locals := 260 }) (mP s0 dC dI w [.ref (AD 27), .int a, .ref ou]) (mQi s0 dC dI (fun r w' => r = nI 1 ∧ VL dA AD ou Fz w w' β fo)) 1 6 (AA s0) := by
  have f27 := hR.1
  refine mt_ofH B0 (by decide) (Nat.le_of_ble_eq_true rfl) (fun p e s m args below meth c ls hargs X htab hl hP => ?_)
  have X9 := X
  obtain ⟨hx, hb, hr, hml, hown, hg, hK, hn, hE, hlocks, hA⟩ := X9
  have hS : va_S (AA s0) s.heap s.heap [] := va_S.rf
  have hl : lv_has ls 4 [(0, .ref (AD 27)), (1, .int a), (2, .ref ou)] := hl
  refine lv_aload_n hx hb d_L_forget_0 rfl (lv_at hl 2 rfl) ?_
  refine lv_iconst (v := (nI 0)) hx hb d_L_forget_1 (by decide) ?_
  refine lv_aload_n hx hb d_L_forget_2 rfl (lv_at hl 0 rfl) ?_
  refine lv_iload_n hx hb d_L_forget_3 rfl (lv_at hl 1 rfl) ?_
  refine ct_run B0 X0 X htab (rx_V (n := 1) (As := [.int a]) (rest := [.int (nI 0), .ref ou]) (C := R_B) (T := F_B) (N := 4) (ci := 4) X hP hS (t_B_forget B0 X0 hlt w (AD 27) a ho) k_530 k_531 k_532 k_54 k_533 (by decide +kernel) rfl rfl ⟨Nat.le_of_ble_eq_true rfl, Nat.le_of_ble_eq_true rfl⟩ f27 rfl rfl hl.1 rfl (Nat.le_of_ble_eq_true rfl) d_L_forget_4 ⟨Nat.le_of_ble_eq_true rfl, Nat.le_of_ble_eq_true rfl⟩) hS E_IA (fun _ _ h9 => h9.1) [] (⟨0, 9, 12, 13⟩ : ExceptionTableEntry) [] rfl (fun z hz => absurd hz List.not_mem_nil) rfl (by decide) k_198 cs_IA (fun w9 q9 H locs h9 hP hS => ?_)
  obtain ⟨-, e9⟩ := h9
  rw [e9] at hP
  refine lv_astore_n (lv' := [(3, .ref q9), (0, .ref (AD 27)), (1, .int a), (2, .ref ou)]) hx hb d_L_forget_12 rfl hl (by decide) rfl (fun ls hl => ?_)
  refine lv_iconst (v := (nI 1)) hx hb d_L_forget_13 (by decide) ?_
  exact W.iret (v := (nI 1)) hx hb hr (fun tS ht hW => ⟨⟨(nI 1), w, rfl, ⟨rfl, (VB.rf hR).keepO ho1 ho2⟩, mB_of ht hP⟩, hS.F ht⟩) hS.2.2 d_L_forget_14
set_option maxHeartbeats 4000000 in
set_option maxRecDepth 100000 in
theorem h_forget {l : Launch} {s0 : State} {dC : Nat → ClassId} {dI : Nat → Nat → Nat} {dA : Nat → ClassId} (B0 : BB s0 dC dI dA) (X0 : XX s0) (hlt : l.stackTraces = false) (w : fw_W) (AD : Nat → Nat) (Fz : Nat → Prop) (β : BS) (ou : Nat) (fo : Nat → Int64) (wk : Nat) (hinj : Inj2 AD) (hR : RBb dA AD Fz w β) (ho1 : w ou = some (oc dA fo)) (ho2 : ∀ i, i < 32 → ou ≠ AD i) (ho3 : ¬ Fz ou) (hwk : wk < 2) : Met l y_L_forget [.codeWith y_L_forget b_L_forget 4 (some .int) [(0, 9, 12, 13)]] ({ frames := 9, cells := 0, slots := 0, locals := 260 }) (mP s0 dC dI w [.ref (AD 27), .int (nI wk), .ref ou]) (mQi s0 dC dI (fun r w' => r = nI 0 ∧ VL dA AD ou Fz w w' (bForget wk β) (vp_updL fo 0 ((nI (cntT (b_tr β) wk 12)).toInt64)))) 0 0 (AA s0) := by
  have f27 := hR.1
  refine mt_ofH B0 (by decide) (Nat.le_of_ble_eq_true rfl) (fun p e s m args below meth c ls hargs X htab hl hP => ?_)
  have X9 := X
  obtain ⟨hx, hb, hr, hml, hown, hg, hK, hn, hE, hlocks, hA⟩ := X9
  have hS : va_S (AA s0) s.heap s.heap [] := va_S.rf
  have hl : lv_has ls 4 [(0, .ref (AD 27)), (1, .int (nI wk)), (2, .ref ou)] := hl
  refine lv_aload_n hx hb d_L_forget_0 rfl (lv_at hl 2 rfl) ?_
  refine lv_iconst (v := (nI 0)) hx hb d_L_forget_1 (by decide) ?_
  refine lv_aload_n hx hb d_L_forget_2 rfl (lv_at hl 0 rfl) ?_
  refine lv_iload_n hx hb d_L_forget_3 rfl (lv_at hl 1 rfl) ?_
  refine va_calli (rn_V (n := 1) (As := [.int (nI wk)]) (rest := [.int (nI 0), .ref ou]) (C := R_B) (T := F_B) (N := 4) (ci := 4) X hP hS (c_B_forget B0 w AD Fz β wk hinj hR hwk) k_530 k_531 k_532 k_54 k_533 (by decide +kernel) rfl rfl ⟨Nat.le_of_ble_eq_true rfl, Nat.le_of_ble_eq_true rfl⟩ f27 rfl rfl hl.1 rfl (Nat.le_of_ble_eq_true rfl) d_L_forget_4 ⟨Nat.le_of_ble_eq_true rfl, Nat.le_of_ble_eq_true rfl⟩) hS (fun q _ h => h) (fun q h => h) (fun r w12 tS H locs ht hvm hw hB hz1 hk1 hS => ?_)
  have hP : fw_P (dC, dI) cls_ (AA s0) w12 H := by rw [← ht]; exact hB
  obtain ⟨hans, hv9⟩ := hw
  have f9 : w12 ou = some (oc dA fo) := by obtain ⟨Fz9, -, -, hO9⟩ := hv9; exact hO9 ou _ ho1 ho2
  subst hans
  refine lv_i2l (v := ((nI (cntT (b_tr β) wk 12))).toInt64) hx hb d_L_forget_7 rfl ?_
  refine fw_last (tys := tyl dA) hx hb hK hP hS f9 1 rfl (j := 0) (by omega) (by decide) d_L_forget_8 (fun w13 H locs ew14 hP hS => ?_)
  have f9 : w13 ou = some (.inl (dA 1, 1, .inr (.inl (vp_updL fo 0 (((nI (cntT (b_tr β) wk 12))).toInt64))))) := by rw [ew14]; exact va_up_self _ _ _
  refine lv_goto (tgt := 15) hx hb d_L_forget_9 (by decide) ?_
  refine lv_iconst (v := (nI 0)) hx hb d_L_forget_15 (by decide) ?_
  exact W.iret (v := (nI 0)) hx hb hr (fun tS ht hW => ⟨⟨(nI 0), w13, rfl, ⟨rfl, VB.put hv9 ho1 ho2 ho3 ew14⟩, mB_of ht hP⟩, hS.F ht⟩) hS.2.2 d_L_forget_16
set_option maxHeartbeats 4000000 in
set_option maxRecDepth 100000 in
theorem h_shrinkX {l : Launch} {s0 : State} {dC : Nat → ClassId} {dI : Nat → Nat → Nat} {dA : Nat → ClassId} (B0 : BB s0 dC dI dA) (X0 : XX s0) (hlt : l.stackTraces = false) (w : fw_W) (AD : Nat → Nat) (Fz : Nat → Prop) (β : BS) (ou : Nat) (fo : Nat → Int64) (a : Int32) (hinj : Inj2 AD) (hR : RBb dA AD Fz w β) (ho1 : w ou = some (oc dA fo)) (ho2 : ∀ i, i < 32 → ou ≠ AD i) (ho3 : ¬ Fz ou) (ho : ¬ ∃ j, j ≤ 16 ∧ a = nI j) : Met l y_L_shrink [.codeWith y_L_shrink b_L_shrink 4 (some .int) [(0, 9, 12, 13)]] ({ frames := 9, cells := 1, slots := 6, locals := 260 }) (mP s0 dC dI w [.ref (AD 27), .int a, .ref ou]) (mQi s0 dC dI (fun r w' => r = nI 1 ∧ VL dA AD ou Fz w w' β fo)) 1 6 (AA s0) := by
  have f27 := hR.1
  refine mt_ofH B0 (by decide) (Nat.le_of_ble_eq_true rfl) (fun p e s m args below meth c ls hargs X htab hl hP => ?_)
  have X9 := X
  obtain ⟨hx, hb, hr, hml, hown, hg, hK, hn, hE, hlocks, hA⟩ := X9
  have hS : va_S (AA s0) s.heap s.heap [] := va_S.rf
  have hl : lv_has ls 4 [(0, .ref (AD 27)), (1, .int a), (2, .ref ou)] := hl
  refine lv_aload_n hx hb d_L_shrink_0 rfl (lv_at hl 2 rfl) ?_
  refine lv_iconst (v := (nI 0)) hx hb d_L_shrink_1 (by decide) ?_
  refine lv_aload_n hx hb d_L_shrink_2 rfl (lv_at hl 0 rfl) ?_
  refine lv_iload_n hx hb d_L_shrink_3 rfl (lv_at hl 1 rfl) ?_
  refine ct_run B0 X0 X htab (rx_V (n := 1) (As := [.int a]) (rest := [.int (nI 0), .ref ou]) (C := R_B) (T := F_B) (N := 4) (ci := 4) X hP hS (t_B_shrink B0 X0 hlt w (AD 27) a ho) k_542 k_543 k_544 k_54 k_545 (by decide +kernel) rfl rfl ⟨Nat.le_of_ble_eq_true rfl, Nat.le_of_ble_eq_true rfl⟩ f27 rfl rfl hl.1 rfl (Nat.le_of_ble_eq_true rfl) d_L_shrink_4 ⟨Nat.le_of_ble_eq_true rfl, Nat.le_of_ble_eq_true rfl⟩) hS E_IA (fun _ _ h9 => h9.1) [] (⟨0, 9, 12, 13⟩ : ExceptionTableEntry) [] rfl (fun z hz => absurd hz List.not_mem_nil) rfl (by decide) k_198 cs_IA (fun w9 q9 H locs h9 hP hS => ?_)
  obtain ⟨-, e9⟩ := h9
  rw [e9] at hP
  refine lv_astore_n (lv' := [(3, .ref q9), (0, .ref (AD 27)), (1, .int a), (2, .ref ou)]) hx hb d_L_shrink_12 rfl hl (by decide) rfl (fun ls hl => ?_)
  refine lv_iconst (v := (nI 1)) hx hb d_L_shrink_13 (by decide) ?_
  exact W.iret (v := (nI 1)) hx hb hr (fun tS ht hW => ⟨⟨(nI 1), w, rfl, ⟨rfl, (VB.rf hR).keepO ho1 ho2⟩, mB_of ht hP⟩, hS.F ht⟩) hS.2.2 d_L_shrink_14
set_option maxHeartbeats 4000000 in
set_option maxRecDepth 100000 in
theorem h_shrink {l : Launch} {s0 : State} {dC : Nat → ClassId} {dI : Nat → Nat → Nat} {dA : Nat → ClassId} (B0 : BB s0 dC dI dA) (X0 : XX s0) (hlt : l.stackTraces = false) (w : fw_W) (AD : Nat → Nat) (Fz : Nat → Prop) (β : BS) (ou : Nat) (fo : Nat → Int64) (n0 : Nat) (hinj : Inj2 AD) (hR : RBb dA AD Fz w β) (ho1 : w ou = some (oc dA fo)) (ho2 : ∀ i, i < 32 → ou ≠ AD i) (ho3 : ¬ Fz ou) (hn0 : n0 ≤ 16) : Met l y_L_shrink [.codeWith y_L_shrink b_L_shrink 4 (some .int) [(0, 9, 12, 13)]] ({ frames := 9, cells := 0, slots := 0, locals := 260 }) (mP s0 dC dI w [.ref (AD 27), .int (nI n0), .ref ou]) (mQi s0 dC dI (fun r w' => r = nI 0 ∧ VL dA AD ou Fz w w' (bShrink n0 β) (vp_updL fo 0 ((nI ((b_cl β).length - n0)).toInt64)))) 0 0 (AA s0) := by
  have f27 := hR.1
  refine mt_ofH B0 (by decide) (Nat.le_of_ble_eq_true rfl) (fun p e s m args below meth c ls hargs X htab hl hP => ?_)
  have X9 := X
  obtain ⟨hx, hb, hr, hml, hown, hg, hK, hn, hE, hlocks, hA⟩ := X9
  have hS : va_S (AA s0) s.heap s.heap [] := va_S.rf
  have hl : lv_has ls 4 [(0, .ref (AD 27)), (1, .int (nI n0)), (2, .ref ou)] := hl
  refine lv_aload_n hx hb d_L_shrink_0 rfl (lv_at hl 2 rfl) ?_
  refine lv_iconst (v := (nI 0)) hx hb d_L_shrink_1 (by decide) ?_
  refine lv_aload_n hx hb d_L_shrink_2 rfl (lv_at hl 0 rfl) ?_
  refine lv_iload_n hx hb d_L_shrink_3 rfl (lv_at hl 1 rfl) ?_
  refine va_calli (rn_V (n := 1) (As := [.int (nI n0)]) (rest := [.int (nI 0), .ref ou]) (C := R_B) (T := F_B) (N := 4) (ci := 4) X hP hS (c_B_shrink B0 w AD Fz β n0 hinj hR hn0) k_542 k_543 k_544 k_54 k_545 (by decide +kernel) rfl rfl ⟨Nat.le_of_ble_eq_true rfl, Nat.le_of_ble_eq_true rfl⟩ f27 rfl rfl hl.1 rfl (Nat.le_of_ble_eq_true rfl) d_L_shrink_4 ⟨Nat.le_of_ble_eq_true rfl, Nat.le_of_ble_eq_true rfl⟩) hS (fun q _ h => h) (fun q h => h) (fun r w15 tS H locs ht hvm hw hB hz1 hk1 hS => ?_)
  have hP : fw_P (dC, dI) cls_ (AA s0) w15 H := by rw [← ht]; exact hB
  obtain ⟨hans, hv9⟩ := hw
  have f9 : w15 ou = some (oc dA fo) := by obtain ⟨Fz9, -, -, hO9⟩ := hv9; exact hO9 ou _ ho1 ho2
  subst hans
  refine lv_i2l (v := ((nI ((b_cl β).length - n0))).toInt64) hx hb d_L_shrink_7 rfl ?_
  refine fw_last (tys := tyl dA) hx hb hK hP hS f9 1 rfl (j := 0) (by omega) (by decide) d_L_shrink_8 (fun w16 H locs ew17 hP hS => ?_)
  have f9 : w16 ou = some (.inl (dA 1, 1, .inr (.inl (vp_updL fo 0 (((nI ((b_cl β).length - n0))).toInt64))))) := by rw [ew17]; exact va_up_self _ _ _
  refine lv_goto (tgt := 15) hx hb d_L_shrink_9 (by decide) ?_
  refine lv_iconst (v := (nI 0)) hx hb d_L_shrink_15 (by decide) ?_
  exact W.iret (v := (nI 0)) hx hb hr (fun tS ht hW => ⟨⟨(nI 0), w16, rfl, ⟨rfl, VB.put hv9 ho1 ho2 ho3 ew17⟩, mB_of ht hP⟩, hS.F ht⟩) hS.2.2 d_L_shrink_16
set_option maxHeartbeats 4000000 in
set_option maxRecDepth 100000 in
theorem h_traceX {l : Launch} {s0 : State} {dC : Nat → ClassId} {dI : Nat → Nat → Nat} {dA : Nat → ClassId} (B0 : BB s0 dC dI dA) (X0 : XX s0) (hlt : l.stackTraces = false) (w : fw_W) (AD : Nat → Nat) (Fz : Nat → Prop) (β : BS) (ou : Nat) (fo : Nat → Int64) (x1 x2 a : Int32) (hinj : Inj2 AD) (hR : RBb dA AD Fz w β) (ho1 : w ou = some (oc dA fo)) (ho2 : ∀ i, i < 32 → ou ≠ AD i) (ho3 : ¬ Fz ou) (ho : ¬ (okW x1 ∧ okK x2)) : Met l y_L_trace [.codeWith y_L_trace b_L_trace 6 (some .int) [(0, 12, 15, 13), (0, 12, 19, 23)]] ({ frames := 10, cells := 1, slots := 6, locals := 300 }) (mP s0 dC dI w [.ref (AD 27), .int x1, .int x2, .int a, .ref ou]) (mQi s0 dC dI (fun r w' => r = nI 1 ∧ VL dA AD ou Fz w w' β fo)) 1 6 (AA s0) := by
  have f27 := hR.1
  refine mt_ofH B0 (by decide) (Nat.le_of_ble_eq_true rfl) (fun p e s m args below meth c ls hargs X htab hl hP => ?_)
  have X9 := X
  obtain ⟨hx, hb, hr, hml, hown, hg, hK, hn, hE, hlocks, hA⟩ := X9
  have hS : va_S (AA s0) s.heap s.heap [] := va_S.rf
  have hl : lv_has ls 6 [(0, .ref (AD 27)), (1, .int x1), (2, .int x2), (3, .int a), (4, .ref ou)] := hl
  refine lv_aload hx hb d_L_trace_0 (lv_at hl 4 rfl) ?_
  refine lv_iconst (v := (nI 0)) hx hb d_L_trace_2 (by decide) ?_
  refine lv_aload_n hx hb d_L_trace_3 rfl (lv_at hl 0 rfl) ?_
  refine lv_iload_n hx hb d_L_trace_4 rfl (lv_at hl 1 rfl) ?_
  refine lv_iload_n hx hb d_L_trace_5 rfl (lv_at hl 2 rfl) ?_
  refine lv_iload_n hx hb d_L_trace_6 rfl (lv_at hl 3 rfl) ?_
  refine ct_run B0 X0 X htab (rx_V (n := 3) (As := [.int x1, .int x2, .int a]) (rest := [.int (nI 0), .ref ou]) (C := R_B) (T := F_B) (N := 4) (ci := 4) X hP hS (t_B_trace B0 X0 hlt w (AD 27) x1 x2 a _ f27 ho) k_550 k_551 k_552 k_54 k_553 (by decide +kernel) rfl rfl ⟨Nat.le_of_ble_eq_true rfl, Nat.le_of_ble_eq_true rfl⟩ f27 rfl rfl hl.1 rfl (Nat.le_of_ble_eq_true rfl) d_L_trace_7 ⟨Nat.le_of_ble_eq_true rfl, Nat.le_of_ble_eq_true rfl⟩) hS E_IA (fun _ _ h9 => h9.1) [] (⟨0, 12, 15, 13⟩ : ExceptionTableEntry) [(⟨0, 12, 19, 23⟩ : ExceptionTableEntry)] rfl (fun z hz => absurd hz List.not_mem_nil) rfl (by decide) k_198 cs_IA (fun w9 q9 H locs h9 hP hS => ?_)
  obtain ⟨-, e9⟩ := h9
  rw [e9] at hP
  refine lv_astore (lv' := [(5, .ref q9), (0, .ref (AD 27)), (1, .int x1), (2, .int x2), (3, .int a), (4, .ref ou)]) hx hb d_L_trace_15 hl (by decide) rfl (fun ls hl => ?_)
  refine lv_iconst (v := (nI 1)) hx hb d_L_trace_17 (by decide) ?_
  exact W.iret (v := (nI 1)) hx hb hr (fun tS ht hW => ⟨⟨(nI 1), w, rfl, ⟨rfl, (VB.rf hR).keepO ho1 ho2⟩, mB_of ht hP⟩, hS.F ht⟩) hS.2.2 d_L_trace_18
set_option maxHeartbeats 4000000 in
set_option maxRecDepth 100000 in
theorem h_traceN {l : Launch} {s0 : State} {dC : Nat → ClassId} {dI : Nat → Nat → Nat} {dA : Nat → ClassId} (B0 : BB s0 dC dI dA) (X0 : XX s0) (hlt : l.stackTraces = false) (w : fw_W) (AD : Nat → Nat) (Fz : Nat → Prop) (β : BS) (ou : Nat) (fo : Nat → Int64) (wk k : Nat) (a : Int32) (hinj : Inj2 AD) (hR : RBb dA AD Fz w β) (ho1 : w ou = some (oc dA fo)) (ho2 : ∀ i, i < 32 → ou ≠ AD i) (ho3 : ¬ Fz ou) (hwk : wk < 2) (hk : k < 12) (hT : ∀ T, b_tr β (wk * 12 + k) = some T → ¬ okI T.2.1.length a) : Met l y_L_trace [.codeWith y_L_trace b_L_trace 6 (some .int) [(0, 12, 15, 13), (0, 12, 19, 23)]] ({ frames := 10, cells := 1, slots := 6, locals := 300 }) (mP s0 dC dI w [.ref (AD 27), .int (nI wk), .int (nI k), .int a, .ref ou]) (mQi s0 dC dI (fun r w' => r = nI 2 ∧ VL dA AD ou Fz w w' β fo)) 1 6 (AA s0) := by
  have f27 := hR.1
  refine mt_ofH B0 (by decide) (Nat.le_of_ble_eq_true rfl) (fun p e s m args below meth c ls hargs X htab hl hP => ?_)
  have X9 := X
  obtain ⟨hx, hb, hr, hml, hown, hg, hK, hn, hE, hlocks, hA⟩ := X9
  have hS : va_S (AA s0) s.heap s.heap [] := va_S.rf
  have hl : lv_has ls 6 [(0, .ref (AD 27)), (1, .int (nI wk)), (2, .int (nI k)), (3, .int a), (4, .ref ou)] := hl
  refine lv_aload hx hb d_L_trace_0 (lv_at hl 4 rfl) ?_
  refine lv_iconst (v := (nI 0)) hx hb d_L_trace_2 (by decide) ?_
  refine lv_aload_n hx hb d_L_trace_3 rfl (lv_at hl 0 rfl) ?_
  refine lv_iload_n hx hb d_L_trace_4 rfl (lv_at hl 1 rfl) ?_
  refine lv_iload_n hx hb d_L_trace_5 rfl (lv_at hl 2 rfl) ?_
  refine lv_iload_n hx hb d_L_trace_6 rfl (lv_at hl 3 rfl) ?_
  refine ct_run B0 X0 X htab (rx_V (n := 3) (As := [.int (nI wk), .int (nI k), .int a]) (rest := [.int (nI 0), .ref ou]) (C := R_B) (T := F_B) (N := 4) (ci := 4) X hP hS (t_B_traceN B0 X0 hlt w AD Fz β wk k a hinj hR hwk hk hT) k_550 k_551 k_552 k_54 k_553 (by decide +kernel) rfl rfl ⟨Nat.le_of_ble_eq_true rfl, Nat.le_of_ble_eq_true rfl⟩ f27 rfl rfl hl.1 rfl (Nat.le_of_ble_eq_true rfl) d_L_trace_7 ⟨Nat.le_of_ble_eq_true rfl, Nat.le_of_ble_eq_true rfl⟩) hS E_NE (fun _ _ h9 => h9.1) [(⟨0, 12, 15, 13⟩ : ExceptionTableEntry)] (⟨0, 12, 19, 23⟩ : ExceptionTableEntry) [] rfl (fun z hz => by
      simp only [List.mem_cons, List.not_mem_nil, or_false] at hz
      rcases hz with rfl
      · exact ⟨by decide, _, k_198, by decide +kernel⟩) rfl (by decide) k_320 cs_NE (fun w9 q9 H locs h9 hP hS => ?_)
  obtain ⟨-, e9⟩ := h9
  rw [e9] at hP
  refine lv_astore (lv' := [(5, .ref q9), (0, .ref (AD 27)), (1, .int (nI wk)), (2, .int (nI k)), (3, .int a), (4, .ref ou)]) hx hb d_L_trace_19 hl (by decide) rfl (fun ls hl => ?_)
  refine lv_iconst (v := (nI 2)) hx hb d_L_trace_21 (by decide) ?_
  exact W.iret (v := (nI 2)) hx hb hr (fun tS ht hW => ⟨⟨(nI 2), w, rfl, ⟨rfl, (VB.rf hR).keepO ho1 ho2⟩, mB_of ht hP⟩, hS.F ht⟩) hS.2.2 d_L_trace_22
set_option maxHeartbeats 4000000 in
set_option maxRecDepth 100000 in
theorem h_trace {l : Launch} {s0 : State} {dC : Nat → ClassId} {dI : Nat → Nat → Nat} {dA : Nat → ClassId} (B0 : BB s0 dC dI dA) (X0 : XX s0) (hlt : l.stackTraces = false) (w : fw_W) (AD : Nat → Nat) (Fz : Nat → Prop) (β : BS) (ou : Nat) (fo : Nat → Int64) (wk k : Nat) (a : Int32) (T : tv) (hinj : Inj2 AD) (hR : RBb dA AD Fz w β) (ho1 : w ou = some (oc dA fo)) (ho2 : ∀ i, i < 32 → ou ≠ AD i) (ho3 : ¬ Fz ou) (hwk : wk < 2) (hk : k < 12) (hT : b_tr β (wk * 12 + k) = some T) (hi : okI T.2.1.length a) : Met l y_L_trace [.codeWith y_L_trace b_L_trace 6 (some .int) [(0, 12, 15, 13), (0, 12, 19, 23)]] ({ frames := 9, cells := 0, slots := 0, locals := 260 }) (mP s0 dC dI w [.ref (AD 27), .int (nI wk), .int (nI k), .int a, .ref ou]) (mQi s0 dC dI (fun r w' => r = nI 0 ∧ VL dA AD ou Fz w w' β (vp_updL fo 0 ((trI T a).toInt64)))) 0 0 (AA s0) := by
  have f27 := hR.1
  refine mt_ofH B0 (by decide) (Nat.le_of_ble_eq_true rfl) (fun p e s m args below meth c ls hargs X htab hl hP => ?_)
  have X9 := X
  obtain ⟨hx, hb, hr, hml, hown, hg, hK, hn, hE, hlocks, hA⟩ := X9
  have hS : va_S (AA s0) s.heap s.heap [] := va_S.rf
  have hl : lv_has ls 6 [(0, .ref (AD 27)), (1, .int (nI wk)), (2, .int (nI k)), (3, .int a), (4, .ref ou)] := hl
  refine lv_aload hx hb d_L_trace_0 (lv_at hl 4 rfl) ?_
  refine lv_iconst (v := (nI 0)) hx hb d_L_trace_2 (by decide) ?_
  refine lv_aload_n hx hb d_L_trace_3 rfl (lv_at hl 0 rfl) ?_
  refine lv_iload_n hx hb d_L_trace_4 rfl (lv_at hl 1 rfl) ?_
  refine lv_iload_n hx hb d_L_trace_5 rfl (lv_at hl 2 rfl) ?_
  refine lv_iload_n hx hb d_L_trace_6 rfl (lv_at hl 3 rfl) ?_
  refine va_calli (rn_V (n := 3) (As := [.int (nI wk), .int (nI k), .int a]) (rest := [.int (nI 0), .ref ou]) (C := R_B) (T := F_B) (N := 4) (ci := 4) X hP hS (c_B_trace B0 w AD Fz β wk k a T hinj hR hwk hk hT hi) k_550 k_551 k_552 k_54 k_553 (by decide +kernel) rfl rfl ⟨Nat.le_of_ble_eq_true rfl, Nat.le_of_ble_eq_true rfl⟩ f27 rfl rfl hl.1 rfl (Nat.le_of_ble_eq_true rfl) d_L_trace_7 ⟨Nat.le_of_ble_eq_true rfl, Nat.le_of_ble_eq_true rfl⟩) hS (fun q _ h => h) (fun q h => h) (fun r w18 tS H locs ht hvm hw hB hz1 hk1 hS => ?_)
  have hP : fw_P (dC, dI) cls_ (AA s0) w18 H := by rw [← ht]; exact hB
  obtain ⟨e9, hans⟩ := hw
  have hv9 : VB dA AD Fz w w18 β := by rw [e9]; exact VB.rf hR
  have f9 : w18 ou = some (oc dA fo) := by obtain ⟨Fz9, -, -, hO9⟩ := hv9; exact hO9 ou _ ho1 ho2
  subst hans
  refine lv_i2l (v := ((trI T a)).toInt64) hx hb d_L_trace_10 rfl ?_
  refine fw_last (tys := tyl dA) hx hb hK hP hS f9 1 rfl (j := 0) (by omega) (by decide) d_L_trace_11 (fun w19 H locs ew20 hP hS => ?_)
  have f9 : w19 ou = some (.inl (dA 1, 1, .inr (.inl (vp_updL fo 0 (((trI T a)).toInt64))))) := by rw [ew20]; exact va_up_self _ _ _
  refine lv_goto (tgt := 23) hx hb d_L_trace_12 (by decide) ?_
  refine lv_iconst (v := (nI 0)) hx hb d_L_trace_23 (by decide) ?_
  exact W.iret (v := (nI 0)) hx hb hr (fun tS ht hW => ⟨⟨(nI 0), w19, rfl, ⟨rfl, VB.put hv9 ho1 ho2 ho3 ew20⟩, mB_of ht hP⟩, hS.F ht⟩) hS.2.2 d_L_trace_24
set_option maxHeartbeats 4000000 in
set_option maxRecDepth 100000 in
theorem h_tracedX {l : Launch} {s0 : State} {dC : Nat → ClassId} {dI : Nat → Nat → Nat} {dA : Nat → ClassId} (B0 : BB s0 dC dI dA) (X0 : XX s0) (hlt : l.stackTraces = false) (w : fw_W) (AD : Nat → Nat) (Fz : Nat → Prop) (β : BS) (ou : Nat) (fo : Nat → Int64) (x1 x2 a : Int32) (hinj : Inj2 AD) (hR : RBb dA AD Fz w β) (ho1 : w ou = some (oc dA fo)) (ho2 : ∀ i, i < 32 → ou ≠ AD i) (ho3 : ¬ Fz ou) (ho : ¬ (okW x1 ∧ okK x2)) : Met l y_L_traced [.codeWith y_L_traced b_L_traced 6 (some .int) [(0, 11, 14, 13), (0, 11, 18, 23)]] ({ frames := 10, cells := 1, slots := 6, locals := 300 }) (mP s0 dC dI w [.ref (AD 27), .int x1, .int x2, .int a, .ref ou]) (mQi s0 dC dI (fun r w' => r = nI 1 ∧ VL dA AD ou Fz w w' β fo)) 1 6 (AA s0) := by
  have f27 := hR.1
  refine mt_ofH B0 (by decide) (Nat.le_of_ble_eq_true rfl) (fun p e s m args below meth c ls hargs X htab hl hP => ?_)
  have X9 := X
  obtain ⟨hx, hb, hr, hml, hown, hg, hK, hn, hE, hlocks, hA⟩ := X9
  have hS : va_S (AA s0) s.heap s.heap [] := va_S.rf
  have hl : lv_has ls 6 [(0, .ref (AD 27)), (1, .int x1), (2, .int x2), (3, .int a), (4, .ref ou)] := hl
  refine lv_aload hx hb d_L_traced_0 (lv_at hl 4 rfl) ?_
  refine lv_iconst (v := (nI 0)) hx hb d_L_traced_2 (by decide) ?_
  refine lv_aload_n hx hb d_L_traced_3 rfl (lv_at hl 0 rfl) ?_
  refine lv_iload_n hx hb d_L_traced_4 rfl (lv_at hl 1 rfl) ?_
  refine lv_iload_n hx hb d_L_traced_5 rfl (lv_at hl 2 rfl) ?_
  refine lv_iload_n hx hb d_L_traced_6 rfl (lv_at hl 3 rfl) ?_
  refine ct_run B0 X0 X htab (rx_V (n := 3) (As := [.int x1, .int x2, .int a]) (rest := [.int (nI 0), .ref ou]) (C := R_B) (T := F_B) (N := 4) (ci := 4) X hP hS (t_B_traced B0 X0 hlt w (AD 27) x1 x2 a _ f27 ho) k_562 k_563 k_564 k_54 k_565 (by decide +kernel) rfl rfl ⟨Nat.le_of_ble_eq_true rfl, Nat.le_of_ble_eq_true rfl⟩ f27 rfl rfl hl.1 rfl (Nat.le_of_ble_eq_true rfl) d_L_traced_7 ⟨Nat.le_of_ble_eq_true rfl, Nat.le_of_ble_eq_true rfl⟩) hS E_IA (fun _ _ h9 => h9.1) [] (⟨0, 11, 14, 13⟩ : ExceptionTableEntry) [(⟨0, 11, 18, 23⟩ : ExceptionTableEntry)] rfl (fun z hz => absurd hz List.not_mem_nil) rfl (by decide) k_198 cs_IA (fun w9 q9 H locs h9 hP hS => ?_)
  obtain ⟨-, e9⟩ := h9
  rw [e9] at hP
  refine lv_astore (lv' := [(5, .ref q9), (0, .ref (AD 27)), (1, .int x1), (2, .int x2), (3, .int a), (4, .ref ou)]) hx hb d_L_traced_14 hl (by decide) rfl (fun ls hl => ?_)
  refine lv_iconst (v := (nI 1)) hx hb d_L_traced_16 (by decide) ?_
  exact W.iret (v := (nI 1)) hx hb hr (fun tS ht hW => ⟨⟨(nI 1), w, rfl, ⟨rfl, (VB.rf hR).keepO ho1 ho2⟩, mB_of ht hP⟩, hS.F ht⟩) hS.2.2 d_L_traced_17
set_option maxHeartbeats 4000000 in
set_option maxRecDepth 100000 in
theorem h_tracedN {l : Launch} {s0 : State} {dC : Nat → ClassId} {dI : Nat → Nat → Nat} {dA : Nat → ClassId} (B0 : BB s0 dC dI dA) (X0 : XX s0) (hlt : l.stackTraces = false) (w : fw_W) (AD : Nat → Nat) (Fz : Nat → Prop) (β : BS) (ou : Nat) (fo : Nat → Int64) (wk k : Nat) (a : Int32) (hinj : Inj2 AD) (hR : RBb dA AD Fz w β) (ho1 : w ou = some (oc dA fo)) (ho2 : ∀ i, i < 32 → ou ≠ AD i) (ho3 : ¬ Fz ou) (hwk : wk < 2) (hk : k < 12) (hT : ∀ T, b_tr β (wk * 12 + k) = some T → ¬ okI T.2.1.length a) : Met l y_L_traced [.codeWith y_L_traced b_L_traced 6 (some .int) [(0, 11, 14, 13), (0, 11, 18, 23)]] ({ frames := 10, cells := 1, slots := 6, locals := 300 }) (mP s0 dC dI w [.ref (AD 27), .int (nI wk), .int (nI k), .int a, .ref ou]) (mQi s0 dC dI (fun r w' => r = nI 2 ∧ VL dA AD ou Fz w w' β fo)) 1 6 (AA s0) := by
  have f27 := hR.1
  refine mt_ofH B0 (by decide) (Nat.le_of_ble_eq_true rfl) (fun p e s m args below meth c ls hargs X htab hl hP => ?_)
  have X9 := X
  obtain ⟨hx, hb, hr, hml, hown, hg, hK, hn, hE, hlocks, hA⟩ := X9
  have hS : va_S (AA s0) s.heap s.heap [] := va_S.rf
  have hl : lv_has ls 6 [(0, .ref (AD 27)), (1, .int (nI wk)), (2, .int (nI k)), (3, .int a), (4, .ref ou)] := hl
  refine lv_aload hx hb d_L_traced_0 (lv_at hl 4 rfl) ?_
  refine lv_iconst (v := (nI 0)) hx hb d_L_traced_2 (by decide) ?_
  refine lv_aload_n hx hb d_L_traced_3 rfl (lv_at hl 0 rfl) ?_
  refine lv_iload_n hx hb d_L_traced_4 rfl (lv_at hl 1 rfl) ?_
  refine lv_iload_n hx hb d_L_traced_5 rfl (lv_at hl 2 rfl) ?_
  refine lv_iload_n hx hb d_L_traced_6 rfl (lv_at hl 3 rfl) ?_
  refine ct_run B0 X0 X htab (rx_V (n := 3) (As := [.int (nI wk), .int (nI k), .int a]) (rest := [.int (nI 0), .ref ou]) (C := R_B) (T := F_B) (N := 4) (ci := 4) X hP hS (t_B_tracedN B0 X0 hlt w AD Fz β wk k a hinj hR hwk hk hT) k_562 k_563 k_564 k_54 k_565 (by decide +kernel) rfl rfl ⟨Nat.le_of_ble_eq_true rfl, Nat.le_of_ble_eq_true rfl⟩ f27 rfl rfl hl.1 rfl (Nat.le_of_ble_eq_true rfl) d_L_traced_7 ⟨Nat.le_of_ble_eq_true rfl, Nat.le_of_ble_eq_true rfl⟩) hS E_NE (fun _ _ h9 => h9.1) [(⟨0, 11, 14, 13⟩ : ExceptionTableEntry)] (⟨0, 11, 18, 23⟩ : ExceptionTableEntry) [] rfl (fun z hz => by
      simp only [List.mem_cons, List.not_mem_nil, or_false] at hz
      rcases hz with rfl
      · exact ⟨by decide, _, k_198, by decide +kernel⟩) rfl (by decide) k_320 cs_NE (fun w9 q9 H locs h9 hP hS => ?_)
  obtain ⟨-, e9⟩ := h9
  rw [e9] at hP
  refine lv_astore (lv' := [(5, .ref q9), (0, .ref (AD 27)), (1, .int (nI wk)), (2, .int (nI k)), (3, .int a), (4, .ref ou)]) hx hb d_L_traced_18 hl (by decide) rfl (fun ls hl => ?_)
  refine lv_iconst (v := (nI 2)) hx hb d_L_traced_20 (by decide) ?_
  exact W.iret (v := (nI 2)) hx hb hr (fun tS ht hW => ⟨⟨(nI 2), w, rfl, ⟨rfl, (VB.rf hR).keepO ho1 ho2⟩, mB_of ht hP⟩, hS.F ht⟩) hS.2.2 d_L_traced_21
set_option maxHeartbeats 4000000 in
set_option maxRecDepth 100000 in
theorem h_traced {l : Launch} {s0 : State} {dC : Nat → ClassId} {dI : Nat → Nat → Nat} {dA : Nat → ClassId} (B0 : BB s0 dC dI dA) (X0 : XX s0) (hlt : l.stackTraces = false) (w : fw_W) (AD : Nat → Nat) (Fz : Nat → Prop) (β : BS) (ou : Nat) (fo : Nat → Int64) (wk k : Nat) (a : Int32) (T : tv) (hinj : Inj2 AD) (hR : RBb dA AD Fz w β) (ho1 : w ou = some (oc dA fo)) (ho2 : ∀ i, i < 32 → ou ≠ AD i) (ho3 : ¬ Fz ou) (hwk : wk < 2) (hk : k < 12) (hT : b_tr β (wk * 12 + k) = some T) (hi : okI T.2.1.length a) : Met l y_L_traced [.codeWith y_L_traced b_L_traced 6 (some .int) [(0, 11, 14, 13), (0, 11, 18, 23)]] ({ frames := 9, cells := 0, slots := 0, locals := 260 }) (mP s0 dC dI w [.ref (AD 27), .int (nI wk), .int (nI k), .int a, .ref ou]) (mQi s0 dC dI (fun r w' => r = nI 0 ∧ VL dA AD ou Fz w w' β (vp_updL fo 0 (trL T a)))) 0 0 (AA s0) := by
  have f27 := hR.1
  refine mt_ofH B0 (by decide) (Nat.le_of_ble_eq_true rfl) (fun p e s m args below meth c ls hargs X htab hl hP => ?_)
  have X9 := X
  obtain ⟨hx, hb, hr, hml, hown, hg, hK, hn, hE, hlocks, hA⟩ := X9
  have hS : va_S (AA s0) s.heap s.heap [] := va_S.rf
  have hl : lv_has ls 6 [(0, .ref (AD 27)), (1, .int (nI wk)), (2, .int (nI k)), (3, .int a), (4, .ref ou)] := hl
  refine lv_aload hx hb d_L_traced_0 (lv_at hl 4 rfl) ?_
  refine lv_iconst (v := (nI 0)) hx hb d_L_traced_2 (by decide) ?_
  refine lv_aload_n hx hb d_L_traced_3 rfl (lv_at hl 0 rfl) ?_
  refine lv_iload_n hx hb d_L_traced_4 rfl (lv_at hl 1 rfl) ?_
  refine lv_iload_n hx hb d_L_traced_5 rfl (lv_at hl 2 rfl) ?_
  refine lv_iload_n hx hb d_L_traced_6 rfl (lv_at hl 3 rfl) ?_
  refine va_calll (rn_V (n := 3) (As := [.int (nI wk), .int (nI k), .int a]) (rest := [.int (nI 0), .ref ou]) (C := R_B) (T := F_B) (N := 4) (ci := 4) X hP hS (c_B_traced B0 w AD Fz β wk k a T hinj hR hwk hk hT hi) k_562 k_563 k_564 k_54 k_565 (by decide +kernel) rfl rfl ⟨Nat.le_of_ble_eq_true rfl, Nat.le_of_ble_eq_true rfl⟩ f27 rfl rfl hl.1 rfl (Nat.le_of_ble_eq_true rfl) d_L_traced_7 ⟨Nat.le_of_ble_eq_true rfl, Nat.le_of_ble_eq_true rfl⟩) hS (fun q _ h => h) (fun q h => h) (fun r w21 tS H locs ht hvm hw hB hz1 hk1 hS => ?_)
  have hP : fw_P (dC, dI) cls_ (AA s0) w21 H := by rw [← ht]; exact hB
  obtain ⟨e9, hans⟩ := hw
  have hv9 : VB dA AD Fz w w21 β := by rw [e9]; exact VB.rf hR
  have f9 : w21 ou = some (oc dA fo) := by obtain ⟨Fz9, -, -, hO9⟩ := hv9; exact hO9 ou _ ho1 ho2
  subst hans
  refine fw_last (tys := tyl dA) hx hb hK hP hS f9 1 rfl (j := 0) (by omega) (by decide) d_L_traced_10 (fun w22 H locs ew23 hP hS => ?_)
  have f9 : w22 ou = some (.inl (dA 1, 1, .inr (.inl (vp_updL fo 0 (trL T a))))) := by rw [ew23]; exact va_up_self _ _ _
  refine lv_goto (tgt := 22) hx hb d_L_traced_11 (by decide) ?_
  refine lv_iconst (v := (nI 0)) hx hb d_L_traced_22 (by decide) ?_
  exact W.iret (v := (nI 0)) hx hb hr (fun tS ht hW => ⟨⟨(nI 0), w22, rfl, ⟨rfl, VB.put hv9 ho1 ho2 ho3 ew23⟩, mB_of ht hP⟩, hS.F ht⟩) hS.2.2 d_L_traced_23
set_option maxHeartbeats 4000000 in
set_option maxRecDepth 100000 in
theorem h_cachedX {l : Launch} {s0 : State} {dC : Nat → ClassId} {dI : Nat → Nat → Nat} {dA : Nat → ClassId} (B0 : BB s0 dC dI dA) (X0 : XX s0) (hlt : l.stackTraces = false) (w : fw_W) (AD : Nat → Nat) (Fz : Nat → Prop) (β : BS) (ou : Nat) (fo : Nat → Int64) (a : Int32) (hinj : Inj2 AD) (hR : RBb dA AD Fz w β) (ho1 : w ou = some (oc dA fo)) (ho2 : ∀ i, i < 32 → ou ≠ AD i) (ho3 : ¬ Fz ou) (ho : ¬ ∃ j, j < (b_cl β).length ∧ a = nI j) : Met l y_L_cached [.codeWith y_L_cached b_L_cached 4 (some .int) [(0, 9, 12, 23)]] ({ frames := 9, cells := 1, slots := 6, locals := 260 }) (mP s0 dC dI w [.ref (AD 27), .int a, .ref ou]) (mQi s0 dC dI (fun r w' => r = nI 1 ∧ VL dA AD ou Fz w w' β fo)) 1 6 (AA s0) := by
  have f27 := hR.1
  refine mt_ofH B0 (by decide) (Nat.le_of_ble_eq_true rfl) (fun p e s m args below meth c ls hargs X htab hl hP => ?_)
  have X9 := X
  obtain ⟨hx, hb, hr, hml, hown, hg, hK, hn, hE, hlocks, hA⟩ := X9
  have hS : va_S (AA s0) s.heap s.heap [] := va_S.rf
  have hl : lv_has ls 4 [(0, .ref (AD 27)), (1, .int a), (2, .ref ou)] := hl
  refine lv_aload_n hx hb d_L_cached_0 rfl (lv_at hl 2 rfl) ?_
  refine lv_iconst (v := (nI 0)) hx hb d_L_cached_1 (by decide) ?_
  refine lv_aload_n hx hb d_L_cached_2 rfl (lv_at hl 0 rfl) ?_
  refine lv_iload_n hx hb d_L_cached_3 rfl (lv_at hl 1 rfl) ?_
  refine ct_run B0 X0 X htab (rx_V (n := 1) (As := [.int a]) (rest := [.int (nI 0), .ref ou]) (C := R_B) (T := F_B) (N := 4) (ci := 4) X hP hS (t_B_cached B0 X0 hlt w AD Fz β a hinj hR ho) k_580 k_581 k_582 k_54 k_583 (by decide +kernel) rfl rfl ⟨Nat.le_of_ble_eq_true rfl, Nat.le_of_ble_eq_true rfl⟩ f27 rfl rfl hl.1 rfl (Nat.le_of_ble_eq_true rfl) d_L_cached_4 ⟨Nat.le_of_ble_eq_true rfl, Nat.le_of_ble_eq_true rfl⟩) hS E_NE (fun _ _ h9 => h9.1) [] (⟨0, 9, 12, 23⟩ : ExceptionTableEntry) [] rfl (fun z hz => absurd hz List.not_mem_nil) rfl (by decide) k_320 cs_NE (fun w9 q9 H locs h9 hP hS => ?_)
  obtain ⟨-, e9⟩ := h9
  rw [e9] at hP
  refine lv_astore_n (lv' := [(3, .ref q9), (0, .ref (AD 27)), (1, .int a), (2, .ref ou)]) hx hb d_L_cached_12 rfl hl (by decide) rfl (fun ls hl => ?_)
  refine lv_iconst (v := (nI 1)) hx hb d_L_cached_13 (by decide) ?_
  exact W.iret (v := (nI 1)) hx hb hr (fun tS ht hW => ⟨⟨(nI 1), w, rfl, ⟨rfl, (VB.rf hR).keepO ho1 ho2⟩, mB_of ht hP⟩, hS.F ht⟩) hS.2.2 d_L_cached_14
set_option maxHeartbeats 4000000 in
set_option maxRecDepth 100000 in
theorem h_cached {l : Launch} {s0 : State} {dC : Nat → ClassId} {dI : Nat → Nat → Nat} {dA : Nat → ClassId} (B0 : BB s0 dC dI dA) (X0 : XX s0) (hlt : l.stackTraces = false) (w : fw_W) (AD : Nat → Nat) (Fz : Nat → Prop) (β : BS) (ou : Nat) (fo : Nat → Int64) (j : Nat) (T : tv) (hinj : Inj2 AD) (hR : RBb dA AD Fz w β) (ho1 : w ou = some (oc dA fo)) (ho2 : ∀ i, i < 32 → ou ≠ AD i) (ho3 : ¬ Fz ou) (hj : (b_cl β)[j]? = some T) : Met l y_L_cached [.codeWith y_L_cached b_L_cached 4 (some .int) [(0, 9, 12, 23)]] ({ frames := 9, cells := 0, slots := 0, locals := 260 }) (mP s0 dC dI w [.ref (AD 27), .int (nI j), .ref ou]) (mQi s0 dC dI (fun r w' => r = nI 0 ∧ VL dA AD ou Fz w w' β (vp_updL fo 0 ((nI T.1).toInt64)))) 0 0 (AA s0) := by
  have f27 := hR.1
  refine mt_ofH B0 (by decide) (Nat.le_of_ble_eq_true rfl) (fun p e s m args below meth c ls hargs X htab hl hP => ?_)
  have X9 := X
  obtain ⟨hx, hb, hr, hml, hown, hg, hK, hn, hE, hlocks, hA⟩ := X9
  have hS : va_S (AA s0) s.heap s.heap [] := va_S.rf
  have hl : lv_has ls 4 [(0, .ref (AD 27)), (1, .int (nI j)), (2, .ref ou)] := hl
  refine lv_aload_n hx hb d_L_cached_0 rfl (lv_at hl 2 rfl) ?_
  refine lv_iconst (v := (nI 0)) hx hb d_L_cached_1 (by decide) ?_
  refine lv_aload_n hx hb d_L_cached_2 rfl (lv_at hl 0 rfl) ?_
  refine lv_iload_n hx hb d_L_cached_3 rfl (lv_at hl 1 rfl) ?_
  refine va_calli (rn_V (n := 1) (As := [.int (nI j)]) (rest := [.int (nI 0), .ref ou]) (C := R_B) (T := F_B) (N := 4) (ci := 4) X hP hS (c_B_cached B0 w AD Fz β j T hinj hR hj) k_580 k_581 k_582 k_54 k_583 (by decide +kernel) rfl rfl ⟨Nat.le_of_ble_eq_true rfl, Nat.le_of_ble_eq_true rfl⟩ f27 rfl rfl hl.1 rfl (Nat.le_of_ble_eq_true rfl) d_L_cached_4 ⟨Nat.le_of_ble_eq_true rfl, Nat.le_of_ble_eq_true rfl⟩) hS (fun q _ h => h) (fun q h => h) (fun r w24 tS H locs ht hvm hw hB hz1 hk1 hS => ?_)
  have hP : fw_P (dC, dI) cls_ (AA s0) w24 H := by rw [← ht]; exact hB
  obtain ⟨e9, hans⟩ := hw
  have hv9 : VB dA AD Fz w w24 β := by rw [e9]; exact VB.rf hR
  have f9 : w24 ou = some (oc dA fo) := by obtain ⟨Fz9, -, -, hO9⟩ := hv9; exact hO9 ou _ ho1 ho2
  subst hans
  refine lv_i2l (v := ((nI T.1)).toInt64) hx hb d_L_cached_7 rfl ?_
  refine fw_last (tys := tyl dA) hx hb hK hP hS f9 1 rfl (j := 0) (by omega) (by decide) d_L_cached_8 (fun w25 H locs ew26 hP hS => ?_)
  have f9 : w25 ou = some (.inl (dA 1, 1, .inr (.inl (vp_updL fo 0 (((nI T.1)).toInt64))))) := by rw [ew26]; exact va_up_self _ _ _
  refine lv_goto (tgt := 15) hx hb d_L_cached_9 (by decide) ?_
  refine lv_iconst (v := (nI 0)) hx hb d_L_cached_15 (by decide) ?_
  exact W.iret (v := (nI 0)) hx hb hr (fun tS ht hW => ⟨⟨(nI 0), w25, rfl, ⟨rfl, VB.put hv9 ho1 ho2 ho3 ew26⟩, mB_of ht hP⟩, hS.F ht⟩) hS.2.2 d_L_cached_16
