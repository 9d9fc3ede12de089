set_option maxHeartbeats 4000000 in
set_option maxRecDepth 100000 in
theorem c_B_refuseBadKey {l : Launch} {s0 : State} {dC : Nat → ClassId} {dI : Nat → Nat → Nat} {dA : Nat → ClassId} (B0 : BB s0 dC dI dA) (w : fw_W) (a : Int32) (ho : okK a) : Met l y_B_refuseBadKey [.code y_B_refuseBadKey b_B_refuseBadKey 1 none] ({ frames := 0, cells := 0, slots := 0, locals := 0 }) (mP s0 dC dI w [.int a]) (mQv s0 dC dI (fun w' => w' = w)) 0 0 (AA s0) := by
  refine mt_ofW B0 (by decide) (Nat.le_of_ble_eq_true rfl) (fun p e s m args below meth c ls hargs X hin hl hP => ?_)
  have X9 := X
  obtain ⟨hx, hb, hr, hml, hown, hg, hK, hn, hE, hlocks, hA⟩ := X9
  have hS : va_S (AA s0) s.heap s.heap [] := va_S.rf
  have hl : lv_has ls 1 [(0, .int a)] := hl
  refine lv_iload_n hx hb d_B_refuseBadKey_0 rfl (lv_at hl 0 rfl) ?_
  refine lv_if_lt (tgt := 10) hx hb d_B_refuseBadKey_1 (by decide) (fun c1 => ?_) (fun c1 => ?_)
  · exact absurd c1 (okK_nn ho)
  · refine lv_iload_n hx hb d_B_refuseBadKey_4 rfl (lv_at hl 0 rfl) ?_
    refine lv_bipush (v := (nI 12)) hx hb d_B_refuseBadKey_5 (by decide) ?_
    refine lv_icmp_lt (tgt := 18) hx hb d_B_refuseBadKey_7 (by decide) (fun c2 => ?_) (fun c2 => ?_)
    · exact W.vret hx hb hr (fun tS ht hW => ⟨⟨w, rfl, rfl, mB_of ht hP⟩, hS.F ht⟩) hS.2.2 d_B_refuseBadKey_18
    · exact absurd (okK_lt ho) c2
set_option maxHeartbeats 4000000 in
set_option maxRecDepth 100000 in
theorem t_B_refuseBadKey {l : Launch} {s0 : State} {dC : Nat → ClassId} {dI : Nat → Nat → Nat} {dA : Nat → ClassId} (B0 : BB s0 dC dI dA) (X0 : XX s0) (hlt : l.stackTraces = false) (w : fw_W) (a : Int32) (ho : ¬ okK a) : vx_Met l y_B_refuseBadKey [.code y_B_refuseBadKey b_B_refuseBadKey 1 none] ({ frames := 6, cells := 1, slots := 6, locals := 90 }) (mP s0 dC dI w [.int a]) Qno (mX s0 dC dI (fun E w' => E = E_IA ∧ w' = w)) 1 6 (AA s0) := by
  refine mt_ofX B0 (by decide) (Nat.le_of_ble_eq_true rfl) (fun p e s m args below meth c ls hargs X hnt hl hP => ?_)
  have X9 := X
  obtain ⟨hx, hb, hr, hml, hown, hg, hK, hn, hE, hlocks, hA⟩ := X9
  have hS : va_S (AA s0) s.heap s.heap [] := va_S.rf
  have hl : lv_has ls 1 [(0, .int a)] := hl
  refine lv_iload_n hx hb d_B_refuseBadKey_0 rfl (lv_at hl 0 rfl) ?_
  refine lv_if_lt (tgt := 10) hx hb d_B_refuseBadKey_1 (by decide) (fun c1 => ?_) (fun c1 => ?_)
  · exact th_0 B0 X0 hlt X hnt hP hS ex_IA ⟨rfl, rfl⟩ hl.1 d_B_refuseBadKey_10 d_B_refuseBadKey_13 d_B_refuseBadKey_14 d_B_refuseBadKey_17 (Nat.le_of_ble_eq_true rfl) (Nat.le_of_ble_eq_true rfl) (Nat.le_of_ble_eq_true rfl) (Nat.le_of_ble_eq_true rfl) (Nat.le_of_ble_eq_true rfl) (Nat.le_of_ble_eq_true rfl)
  · refine lv_iload_n hx hb d_B_refuseBadKey_4 rfl (lv_at hl 0 rfl) ?_
    refine lv_bipush (v := (nI 12)) hx hb d_B_refuseBadKey_5 (by decide) ?_
    refine lv_icmp_lt (tgt := 18) hx hb d_B_refuseBadKey_7 (by decide) (fun c2 => ?_) (fun c2 => ?_)
    · exact absurd (okK_of c1 c2) ho
    · exact th_0 B0 X0 hlt X hnt hP hS ex_IA ⟨rfl, rfl⟩ hl.1 d_B_refuseBadKey_10 d_B_refuseBadKey_13 d_B_refuseBadKey_14 d_B_refuseBadKey_17 (Nat.le_of_ble_eq_true rfl) (Nat.le_of_ble_eq_true rfl) (Nat.le_of_ble_eq_true rfl) (Nat.le_of_ble_eq_true rfl) (Nat.le_of_ble_eq_true rfl) (Nat.le_of_ble_eq_true rfl)
set_option maxHeartbeats 4000000 in
set_option maxRecDepth 100000 in
theorem c_B_refuseBadWorker {l : Launch} {s0 : State} {dC : Nat → ClassId} {dI : Nat → Nat → Nat} {dA : Nat → ClassId} (B0 : BB s0 dC dI dA) (w : fw_W) (a : Int32) (ho : okW a) : Met l y_B_refuseBadWorker [.code y_B_refuseBadWorker b_B_refuseBadWorker 1 none] ({ frames := 0, cells := 0, slots := 0, locals := 0 }) (mP s0 dC dI w [.int a]) (mQv s0 dC dI (fun w' => w' = w)) 0 0 (AA s0) := by
  refine mt_ofW B0 (by decide) (Nat.le_of_ble_eq_true rfl) (fun p e s m args below meth c ls hargs X hin hl hP => ?_)
  have X9 := X
  obtain ⟨hx, hb, hr, hml, hown, hg, hK, hn, hE, hlocks, hA⟩ := X9
  have hS : va_S (AA s0) s.heap s.heap [] := va_S.rf
  have hl : lv_has ls 1 [(0, .int a)] := hl
  refine lv_iload_n hx hb d_B_refuseBadWorker_0 rfl (lv_at hl 0 rfl) ?_
  refine lv_if_lt (tgt := 9) hx hb d_B_refuseBadWorker_1 (by decide) (fun c1 => ?_) (fun c1 => ?_)
  · exact absurd c1 (okW_nn ho)
  · refine lv_iload_n hx hb d_B_refuseBadWorker_4 rfl (lv_at hl 0 rfl) ?_
    refine lv_iconst (v := (nI 2)) hx hb d_B_refuseBadWorker_5 (by decide) ?_
    refine lv_icmp_lt (tgt := 17) hx hb d_B_refuseBadWorker_6 (by decide) (fun c2 => ?_) (fun c2 => ?_)
    · exact W.vret hx hb hr (fun tS ht hW => ⟨⟨w, rfl, rfl, mB_of ht hP⟩, hS.F ht⟩) hS.2.2 d_B_refuseBadWorker_17
    · exact absurd (okW_lt ho) c2
set_option maxHeartbeats 4000000 in
set_option maxRecDepth 100000 in
theorem t_B_refuseBadWorker {l : Launch} {s0 : State} {dC : Nat → ClassId} {dI : Nat → Nat → Nat} {dA : Nat → ClassId} (B0 : BB s0 dC dI dA) (X0 : XX s0) (hlt : l.stackTraces = false) (w : fw_W) (a : Int32) (ho : ¬ okW a) : vx_Met l y_B_refuseBadWorker [.code y_B_refuseBadWorker b_B_refuseBadWorker 1 none] ({ frames := 6, cells := 1, slots := 6, locals := 90 }) (mP s0 dC dI w [.int a]) Qno (mX s0 dC dI (fun E w' => E = E_IA ∧ w' = w)) 1 6 (AA s0) := by
  refine mt_ofX B0 (by decide) (Nat.le_of_ble_eq_true rfl) (fun p e s m args below meth c ls hargs X hnt hl hP => ?_)
  have X9 := X
  obtain ⟨hx, hb, hr, hml, hown, hg, hK, hn, hE, hlocks, hA⟩ := X9
  have hS : va_S (AA s0) s.heap s.heap [] := va_S.rf
  have hl : lv_has ls 1 [(0, .int a)] := hl
  refine lv_iload_n hx hb d_B_refuseBadWorker_0 rfl (lv_at hl 0 rfl) ?_
  refine lv_if_lt (tgt := 9) hx hb d_B_refuseBadWorker_1 (by decide) (fun c1 => ?_) (fun c1 => ?_)
  · exact th_0 B0 X0 hlt X hnt hP hS ex_IA ⟨rfl, rfl⟩ hl.1 d_B_refuseBadWorker_9 d_B_refuseBadWorker_12 d_B_refuseBadWorker_13 d_B_refuseBadWorker_16 (Nat.le_of_ble_eq_true rfl) (Nat.le_of_ble_eq_true rfl) (Nat.le_of_ble_eq_true rfl) (Nat.le_of_ble_eq_true rfl) (Nat.le_of_ble_eq_true rfl) (Nat.le_of_ble_eq_true rfl)
  · refine lv_iload_n hx hb d_B_refuseBadWorker_4 rfl (lv_at hl 0 rfl) ?_
    refine lv_iconst (v := (nI 2)) hx hb d_B_refuseBadWorker_5 (by decide) ?_
    refine lv_icmp_lt (tgt := 17) hx hb d_B_refuseBadWorker_6 (by decide) (fun c2 => ?_) (fun c2 => ?_)
    · exact absurd (okW_of c1 c2) ho
    · exact th_0 B0 X0 hlt X hnt hP hS ex_IA ⟨rfl, rfl⟩ hl.1 d_B_refuseBadWorker_9 d_B_refuseBadWorker_12 d_B_refuseBadWorker_13 d_B_refuseBadWorker_16 (Nat.le_of_ble_eq_true rfl) (Nat.le_of_ble_eq_true rfl) (Nat.le_of_ble_eq_true rfl) (Nat.le_of_ble_eq_true rfl) (Nat.le_of_ble_eq_true rfl) (Nat.le_of_ble_eq_true rfl)
set_option maxHeartbeats 4000000 in
set_option maxRecDepth 100000 in
theorem c_B_isPart {l : Launch} {s0 : State} {dC : Nat → ClassId} {dI : Nat → Nat → Nat} {dA : Nat → ClassId} (B0 : BB s0 dC dI dA) (w : fw_W) (a : Int32)  : Met l y_B_isPart [.code y_B_isPart b_B_isPart 1 (some .boolean)] ({ frames := 0, cells := 0, slots := 0, locals := 0 }) (mP s0 dC dI w [.int a]) (mQi s0 dC dI (fun r w' => w' = w ∧ ∃ b : Bool, r = nI b.toNat ∧ (b = true ↔ okPart a))) 0 0 (AA s0) := by
  refine mt_ofW B0 (by decide) (Nat.le_of_ble_eq_true rfl) (fun p e s m args below meth c ls hargs X hin hl hP => ?_)
  have X9 := X
  obtain ⟨hx, hb, hr, hml, hown, hg, hK, hn, hE, hlocks, hA⟩ := X9
  have hS : va_S (AA s0) s.heap s.heap [] := va_S.rf
  have hl : lv_has ls 1 [(0, .int a)] := hl
  refine lv_iload_n hx hb d_B_isPart_0 rfl (lv_at hl 0 rfl) ?_
  refine lv_iconst (v := (-1)) hx hb d_B_isPart_1 (by decide) ?_
  refine lv_icmp_eq (tgt := 15) hx hb d_B_isPart_2 (by decide) (fun c1 => ?_) (fun c1 => ?_)
  · refine lv_iconst (v := (nI 1)) hx hb d_B_isPart_15 (by decide) ?_
    refine lv_goto (tgt := 20) hx hb d_B_isPart_16 (by decide) ?_
    exact W.zret (v := (nI 1)) hx hb hr (by decide) (fun tS ht hW => ⟨⟨(nI 1), w, rfl, ⟨rfl, true, rfl, fun _ => (Or.inl c1), fun _ => rfl⟩, mB_of ht hP⟩, hS.F ht⟩) hS.2.2 d_B_isPart_20
  · refine lv_iload_n hx hb d_B_isPart_5 rfl (lv_at hl 0 rfl) ?_
    refine lv_if_lt (tgt := 19) hx hb d_B_isPart_6 (by decide) (fun c2 => ?_) (fun c2 => ?_)
    · refine lv_iconst (v := (nI 0)) hx hb d_B_isPart_19 (by decide) ?_
      exact W.zret (v := (nI 0)) hx hb hr (by decide) (fun tS ht hW => ⟨⟨(nI 0), w, rfl, ⟨rfl, false, rfl, fun h9 => (by cases h9), fun h9 => absurd h9 (fun h8 => h8.elim c1 (fun h7 => okK_nn h7 c2))⟩, mB_of ht hP⟩, hS.F ht⟩) hS.2.2 d_B_isPart_20
    · refine lv_iload_n hx hb d_B_isPart_9 rfl (lv_at hl 0 rfl) ?_
      refine lv_bipush (v := (nI 12)) hx hb d_B_isPart_10 (by decide) ?_
      refine lv_icmp_ge (tgt := 19) hx hb d_B_isPart_12 (by decide) (fun c3 => ?_) (fun c3 => ?_)
      · refine lv_iconst (v := (nI 0)) hx hb d_B_isPart_19 (by decide) ?_
        exact W.zret (v := (nI 0)) hx hb hr (by decide) (fun tS ht hW => ⟨⟨(nI 0), w, rfl, ⟨rfl, false, rfl, fun h9 => (by cases h9), fun h9 => absurd h9 (fun h8 => h8.elim c1 (fun h7 => absurd (okK_lt h7) (le_not_lt c3)))⟩, mB_of ht hP⟩, hS.F ht⟩) hS.2.2 d_B_isPart_20
      · refine lv_iconst (v := (nI 1)) hx hb d_B_isPart_15 (by decide) ?_
        refine lv_goto (tgt := 20) hx hb d_B_isPart_16 (by decide) ?_
        exact W.zret (v := (nI 1)) hx hb hr (by decide) (fun tS ht hW => ⟨⟨(nI 1), w, rfl, ⟨rfl, true, rfl, fun _ => (Or.inr (okK_of c2 (Int32.not_le.mp c3))), fun _ => rfl⟩, mB_of ht hP⟩, hS.F ht⟩) hS.2.2 d_B_isPart_20
