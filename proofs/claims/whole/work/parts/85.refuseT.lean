theorem pc_le (a b c : Int32) : pCount a b c ≤ 3 := by unfold pCount; split <;> split <;> split <;> omega
theorem pn_le (r : Nat) : p_need r ≤ 3 := by unfold p_need; split <;> (try split) <;> (try split) <;> omega
theorem rok_of {a : Int32} (h1 : ¬ a < 0) (h2 : a < nI 10) : ∃ r9, r9 < 10 ∧ a = nI r9 := by
  obtain ⟨j, hj, rfl⟩ := nI_of h1
  exact ⟨j, (nI_ltI hj (by omega)).mp h2, rfl⟩
set_option maxHeartbeats 4000000 in
set_option maxRecDepth 100000 in
theorem c_B_throwFailure {l : Launch} {s0 : State} {dC : Nat → ClassId} {dI : Nat → Nat → Nat} {dA : Nat → ClassId} (B0 : BB s0 dC dI dA) (w : fw_W)   : Met l y_B_throwFailure [.code y_B_throwFailure b_B_throwFailure 1 none] ({ frames := 0, cells := 0, slots := 0, locals := 0 }) (mP s0 dC dI w [.int (nI 0)]) (mQv s0 dC dI (fun w' => w' = w)) 0 0 (AA s0) := by
  refine mt_ofW B0 (by decide) (Nat.le_of_ble_eq_true rfl) (fun p e s m args below meth c ls hargs X hin hl hP => ?_)
  have X9 := X
  obtain ⟨hx, hb, hr, hml, hown, hg, hK, hn, hE, hlocks, hA⟩ := X9
  have hS : va_S (AA s0) s.heap s.heap [] := va_S.rf
  have hl : lv_has ls 1 [(0, .int (nI 0))] := hl
  refine lv_iload_n hx hb d_B_throwFailure_0 rfl (lv_at hl 0 rfl) ?_
  refine lv_tableOut (tgt := 52) hx hb d_B_throwFailure_1 (by decide) (by decide) ?_
  exact W.vret hx hb hr (fun tS ht hW => ⟨⟨w, rfl, rfl, mB_of ht hP⟩, hS.F ht⟩) hS.2.2 d_B_throwFailure_52
set_option maxHeartbeats 4000000 in
set_option maxRecDepth 100000 in
theorem t_B_throwFailure {l : Launch} {s0 : State} {dC : Nat → ClassId} {dI : Nat → Nat → Nat} {dA : Nat → ClassId} (B0 : BB s0 dC dI dA) (X0 : XX s0) (hlt : l.stackTraces = false) (w : fw_W) (f : Nat) (hf0 : 0 < f) (hf4 : f < 4) : vx_Met l y_B_throwFailure [.code y_B_throwFailure b_B_throwFailure 1 none] ({ frames := 6, cells := 1, slots := 6, locals := 90 }) (mP s0 dC dI w [.int (nI f)]) Qno (mX s0 dC dI (fun E w' => E = exN f ∧ w' = w)) 1 6 (AA s0) := by
  refine mt_ofX B0 (by decide) (Nat.le_of_ble_eq_true rfl) (fun p e s m args below meth c ls hargs X hnt hl hP => ?_)
  have X9 := X
  obtain ⟨hx, hb, hr, hml, hown, hg, hK, hn, hE, hlocks, hA⟩ := X9
  have hS : va_S (AA s0) s.heap s.heap [] := va_S.rf
  have hl : lv_has ls 1 [(0, .int (nI f))] := hl
  refine lv_iload_n hx hb d_B_throwFailure_0 rfl (lv_at hl 0 rfl) ?_
  rcases (show f = 1 ∨ f = 2 ∨ f = 3 by omega) with rfl | rfl | rfl
  · refine lv_tableIn (off := 27) (tgt := 28) hx hb d_B_throwFailure_1 (by decide) (by decide) (by decide) (by decide) ?_
    exact th_0 B0 X0 hlt X hnt hP hS ex_NE ⟨rfl, rfl⟩ hl.1 d_B_throwFailure_28 d_B_throwFailure_31 d_B_throwFailure_32 d_B_throwFailure_35 (Nat.le_of_ble_eq_true rfl) (Nat.le_of_ble_eq_true rfl) (Nat.le_of_ble_eq_true rfl) (Nat.le_of_ble_eq_true rfl) (Nat.le_of_ble_eq_true rfl) (Nat.le_of_ble_eq_true rfl)
  · refine lv_tableIn (off := 35) (tgt := 36) hx hb d_B_throwFailure_1 (by decide) (by decide) (by decide) (by decide) ?_
    exact th_0 B0 X0 hlt X hnt hP hS ex_AR ⟨rfl, rfl⟩ hl.1 d_B_throwFailure_36 d_B_throwFailure_39 d_B_throwFailure_40 d_B_throwFailure_43 (Nat.le_of_ble_eq_true rfl) (Nat.le_of_ble_eq_true rfl) (Nat.le_of_ble_eq_true rfl) (Nat.le_of_ble_eq_true rfl) (Nat.le_of_ble_eq_true rfl) (Nat.le_of_ble_eq_true rfl)
  · refine lv_tableIn (off := 43) (tgt := 44) hx hb d_B_throwFailure_1 (by decide) (by decide) (by decide) (by decide) ?_
    exact th_0 B0 X0 hlt X hnt hP hS ex_IS ⟨rfl, rfl⟩ hl.1 d_B_throwFailure_44 d_B_throwFailure_47 d_B_throwFailure_48 d_B_throwFailure_51 (Nat.le_of_ble_eq_true rfl) (Nat.le_of_ble_eq_true rfl) (Nat.le_of_ble_eq_true rfl) (Nat.le_of_ble_eq_true rfl) (Nat.le_of_ble_eq_true rfl) (Nat.le_of_ble_eq_true rfl)
set_option maxHeartbeats 4000000 in
set_option maxRecDepth 100000 in
theorem c_B_refuseBadTask {l : Launch} {s0 : State} {dC : Nat → ClassId} {dI : Nat → Nat → Nat} {dA : Nat → ClassId} (B0 : BB s0 dC dI dA) (w : fw_W) (X0 : XX s0) (r9 : Nat) (a b c9 : Int32) (ho : okTask r9 a b c9) : Met l y_B_refuseBadTask [.code y_B_refuseBadTask b_B_refuseBadTask 5 none] ({ frames := 1, cells := 0, slots := 0, locals := 30 }) (mP s0 dC dI w [.int (nI r9), .int a, .int b, .int c9]) (mQv s0 dC dI (fun w' => w' = w)) 0 0 (AA s0) := by
  obtain ⟨o1, oa, ob, oc, o2, o3, o4⟩ := ho
  refine mt_ofW B0 (by decide) (Nat.le_of_ble_eq_true rfl) (fun p e s m args below meth c ls hargs X hin hl hP => ?_)
  have X9 := X
  obtain ⟨hx, hb, hr, hml, hown, hg, hK, hn, hE, hlocks, hA⟩ := X9
  have hS : va_S (AA s0) s.heap s.heap [] := va_S.rf
  have hl : lv_has ls 5 [(0, .int (nI r9)), (1, .int a), (2, .int b), (3, .int c9)] := hl
  refine lv_iload_n hx hb d_B_refuseBadTask_0 rfl (lv_at hl 0 rfl) ?_
  refine lv_if_lt (tgt := 31) hx hb d_B_refuseBadTask_1 (by decide) (fun c0 => ?_) (fun c0 => ?_)
  · exact absurd c0 (nI_nn (by omega))
  · refine lv_iload_n hx hb d_B_refuseBadTask_4 rfl (lv_at hl 0 rfl) ?_
    refine lv_bipush (v := (nI 10)) hx hb d_B_refuseBadTask_5 (by decide) ?_
    refine nu_ge (tgt := 31) hx hb (by omega) (by omega) d_B_refuseBadTask_7 (by decide) (fun c0b => ?_) (fun c0b => ?_)
    · exact absurd c0b (by omega)
    · refine lv_iload_n hx hb d_B_refuseBadTask_10 rfl (lv_at hl 1 rfl) ?_
      refine va_calli (rn_S (n := 1) (As := [.int a]) (rest := []) X hP hS (c_B_isPart B0 w a) k_300 k_301 k_54 k_302 (by decide +kernel) rfl rfl ⟨Nat.le_of_ble_eq_true rfl, Nat.le_of_ble_eq_true rfl⟩ rfl hl.1 rfl (Nat.le_of_ble_eq_true rfl) d_B_refuseBadTask_11 ⟨Nat.le_of_ble_eq_true rfl, Nat.le_of_ble_eq_true rfl⟩) hS (fun q _ h => h) (fun q h => h) (fun r w1 tS H locs ht hvm hw hB hz1 hk1 hS => ?_)
      have hP : fw_P (dC, dI) cls_ (AA s0) w1 H := by rw [← ht]; exact hB
      obtain ⟨e9, b1, rfl, hb1⟩ := hw
      rw [e9] at hP
      refine nu_ifeq (tgt := 31) hx hb d_B_refuseBadTask_14 (by decide) (fun c1 => ?_) (fun c1 => ?_)
      · exact absurd (hb1.mpr oa) (by rw [c1]; simp)
      · refine lv_iload_n hx hb d_B_refuseBadTask_17 rfl (lv_at hl 2 rfl) ?_
        refine va_calli (rn_S (n := 1) (As := [.int b]) (rest := []) X hP hS (c_B_isPart B0 w b) k_300 k_301 k_54 k_302 (by decide +kernel) rfl rfl ⟨Nat.le_of_ble_eq_true rfl, Nat.le_of_ble_eq_true rfl⟩ rfl hl.1 rfl (Nat.le_of_ble_eq_true rfl) d_B_refuseBadTask_18 ⟨Nat.le_of_ble_eq_true rfl, Nat.le_of_ble_eq_true rfl⟩) hS (fun q _ h => h) (fun q h => h) (fun r w2 tS H locs ht hvm hw hB hz1 hk1 hS => ?_)
        have hP : fw_P (dC, dI) cls_ (AA s0) w2 H := by rw [← ht]; exact hB
        obtain ⟨e9, b2, rfl, hb2⟩ := hw
        rw [e9] at hP
        refine nu_ifeq (tgt := 31) hx hb d_B_refuseBadTask_21 (by decide) (fun c2 => ?_) (fun c2 => ?_)
        · exact absurd (hb2.mpr ob) (by rw [c2]; simp)
        · refine lv_iload_n hx hb d_B_refuseBadTask_24 rfl (lv_at hl 3 rfl) ?_
          refine va_calli (rn_S (n := 1) (As := [.int c9]) (rest := []) X hP hS (c_B_isPart B0 w c9) k_300 k_301 k_54 k_302 (by decide +kernel) rfl rfl ⟨Nat.le_of_ble_eq_true rfl, Nat.le_of_ble_eq_true rfl⟩ rfl hl.1 rfl (Nat.le_of_ble_eq_true rfl) d_B_refuseBadTask_25 ⟨Nat.le_of_ble_eq_true rfl, Nat.le_of_ble_eq_true rfl⟩) hS (fun q _ h => h) (fun q h => h) (fun r w3 tS H locs ht hvm hw hB hz1 hk1 hS => ?_)
          have hP : fw_P (dC, dI) cls_ (AA s0) w3 H := by rw [← ht]; exact hB
          obtain ⟨e9, b3, rfl, hb3⟩ := hw
          rw [e9] at hP
          refine nu_ifne (tgt := 39) hx hb d_B_refuseBadTask_28 (by decide) (fun c3 => ?_) (fun c3 => ?_)
          · refine lv_iload_n hx hb d_B_refuseBadTask_39 rfl (lv_at hl 1 rfl) ?_
            refine lv_iconst (v := (-1)) hx hb d_B_refuseBadTask_40 (by decide) ?_
            refine lv_icmp_ne (tgt := 49) hx hb d_B_refuseBadTask_41 (by decide) (fun c4 => ?_) (fun c4 => ?_)
            · refine lv_iload_n hx hb d_B_refuseBadTask_49 rfl (lv_at hl 2 rfl) ?_
              refine lv_iconst (v := (-1)) hx hb d_B_refuseBadTask_50 (by decide) ?_
              refine lv_icmp_ne (tgt := 63) hx hb d_B_refuseBadTask_51 (by decide) (fun c5 => ?_) (fun c5 => ?_)
              · refine lv_iconst (v := (nI 0)) hx hb d_B_refuseBadTask_63 (by decide) ?_
                refine lv_istore (lv' := [(4, .int (nI 0)), (0, .int (nI r9)), (1, .int a), (2, .int b), (3, .int c9)]) hx hb d_B_refuseBadTask_64 hl (by decide) rfl (fun ls hl => ?_)
                refine lv_iload hx hb d_B_refuseBadTask_66 (lv_at hl 0 rfl) ?_
                refine lv_if_ne (tgt := 85) hx hb d_B_refuseBadTask_68 (by decide) (fun c8 => absurd rfl c8) (fun c8 => ?_)
                refine lv_iload_n hx hb d_B_refuseBadTask_71 rfl (lv_at hl 2 rfl) ?_
                refine lv_iload_n hx hb d_B_refuseBadTask_72 rfl (lv_at hl 3 rfl) ?_
                refine lv_iload_n hx hb d_B_refuseBadTask_73 rfl (lv_at hl 4 rfl) ?_
                refine va_calli (rn_S (n := 3) (As := [.int a, .int b, .int c9]) (rest := []) X hP hS (c_B_partsAmong B0 w a b c9) k_303 k_304 k_54 k_305 (by decide +kernel) rfl rfl ⟨Nat.le_of_ble_eq_true rfl, Nat.le_of_ble_eq_true rfl⟩ rfl hl.1 rfl (Nat.le_of_ble_eq_true rfl) d_B_refuseBadTask_74 ⟨Nat.le_of_ble_eq_true rfl, Nat.le_of_ble_eq_true rfl⟩) hS (fun q _ h => h) (fun q h => h) (fun r w4 tS H locs ht hvm hw hB hz1 hk1 hS => ?_)
                have hP : fw_P (dC, dI) cls_ (AA s0) w4 H := by rw [← ht]; exact hB
                obtain ⟨e9, rfl⟩ := hw
                rw [e9] at hP
                obtain ⟨t9, hZ9, hT9⟩ := X0.z hE
                refine va_gets hx hb hZ9 hS hown (hg _ k_306) (fun _ h9 => h9) d_B_refuseBadTask_77 ?_
                refine lv_iload_n hx hb d_B_refuseBadTask_80 rfl (lv_at hl 1 rfl) ?_
                refine va_ti (v := .int (nI (p_need r9))) hx hb hT9 hS (vp_in_nI o1 (by omega)) (by show Value.int (pneed _) = _; rw [nI_clamp (by omega)]; rfl) d_B_refuseBadTask_81 ?_
                have hpc : pCount a b c9 ≤ 3 := pc_le _ _ _
                have hpn : p_need r9 ≤ 3 := pn_le _
                refine nu_ge (tgt := 93) hx hb (by omega) (by omega) d_B_refuseBadTask_82 (by decide) (fun c7 => ?_) (fun c7 => ?_)
                · exact W.vret hx hb hr (fun tS ht hW => ⟨⟨w, rfl, rfl, mB_of ht hP⟩, hS.F ht⟩) hS.2.2 d_B_refuseBadTask_93
                · exact absurd c7 (by omega)
              · refine lv_iload_n hx hb d_B_refuseBadTask_54 rfl (lv_at hl 3 rfl) ?_
                refine lv_iconst (v := (-1)) hx hb d_B_refuseBadTask_55 (by decide) ?_
                refine lv_icmp_eq (tgt := 63) hx hb d_B_refuseBadTask_56 (by decide) (fun c6 => ?_) (fun c6 => ?_)
                · refine lv_iconst (v := (nI 0)) hx hb d_B_refuseBadTask_63 (by decide) ?_
                  refine lv_istore (lv' := [(4, .int (nI 0)), (0, .int (nI r9)), (1, .int a), (2, .int b), (3, .int c9)]) hx hb d_B_refuseBadTask_64 hl (by decide) rfl (fun ls hl => ?_)
                  refine lv_iload hx hb d_B_refuseBadTask_66 (lv_at hl 0 rfl) ?_
                  refine lv_if_ne (tgt := 85) hx hb d_B_refuseBadTask_68 (by decide) (fun c8 => absurd rfl c8) (fun c8 => ?_)
                  refine lv_iload_n hx hb d_B_refuseBadTask_71 rfl (lv_at hl 2 rfl) ?_
                  refine lv_iload_n hx hb d_B_refuseBadTask_72 rfl (lv_at hl 3 rfl) ?_
                  refine lv_iload_n hx hb d_B_refuseBadTask_73 rfl (lv_at hl 4 rfl) ?_
                  refine va_calli (rn_S (n := 3) (As := [.int a, .int b, .int c9]) (rest := []) X hP hS (c_B_partsAmong B0 w a b c9) k_303 k_304 k_54 k_305 (by decide +kernel) rfl rfl ⟨Nat.le_of_ble_eq_true rfl, Nat.le_of_ble_eq_true rfl⟩ rfl hl.1 rfl (Nat.le_of_ble_eq_true rfl) d_B_refuseBadTask_74 ⟨Nat.le_of_ble_eq_true rfl, Nat.le_of_ble_eq_true rfl⟩) hS (fun q _ h => h) (fun q h => h) (fun r w5 tS H locs ht hvm hw hB hz1 hk1 hS => ?_)
                  have hP : fw_P (dC, dI) cls_ (AA s0) w5 H := by rw [← ht]; exact hB
                  obtain ⟨e9, rfl⟩ := hw
                  rw [e9] at hP
                  obtain ⟨t9, hZ9, hT9⟩ := X0.z hE
                  refine va_gets hx hb hZ9 hS hown (hg _ k_306) (fun _ h9 => h9) d_B_refuseBadTask_77 ?_
                  refine lv_iload_n hx hb d_B_refuseBadTask_80 rfl (lv_at hl 1 rfl) ?_
                  refine va_ti (v := .int (nI (p_need r9))) hx hb hT9 hS (vp_in_nI o1 (by omega)) (by show Value.int (pneed _) = _; rw [nI_clamp (by omega)]; rfl) d_B_refuseBadTask_81 ?_
                  have hpc : pCount a b c9 ≤ 3 := pc_le _ _ _
                  have hpn : p_need r9 ≤ 3 := pn_le _
                  refine nu_ge (tgt := 93) hx hb (by omega) (by omega) d_B_refuseBadTask_82 (by decide) (fun c7 => ?_) (fun c7 => ?_)
                  · exact W.vret hx hb hr (fun tS ht hW => ⟨⟨w, rfl, rfl, mB_of ht hP⟩, hS.F ht⟩) hS.2.2 d_B_refuseBadTask_93
                  · exact absurd c7 (by omega)
                · refine lv_iconst (v := (nI 1)) hx hb d_B_refuseBadTask_59 (by decide) ?_
                  refine lv_goto (tgt := 64) hx hb d_B_refuseBadTask_60 (by decide) ?_
                  refine lv_istore (lv' := [(4, .int (nI 1)), (0, .int (nI r9)), (1, .int a), (2, .int b), (3, .int c9)]) hx hb d_B_refuseBadTask_64 hl (by decide) rfl (fun ls hl => ?_)
                  refine lv_iload hx hb d_B_refuseBadTask_66 (lv_at hl 0 rfl) ?_
                  refine lv_if_ne (tgt := 85) hx hb d_B_refuseBadTask_68 (by decide) (fun c8 => ?_) (fun c8 => absurd c8 (by decide))
                  exact absurd o3 (fun h9 => h9 ⟨c5, c6⟩)
            · refine lv_iload_n hx hb d_B_refuseBadTask_44 rfl (lv_at hl 2 rfl) ?_
              refine lv_iconst (v := (-1)) hx hb d_B_refuseBadTask_45 (by decide) ?_
              refine lv_icmp_ne (tgt := 59) hx hb d_B_refuseBadTask_46 (by decide) (fun c4b => ?_) (fun c4b => ?_)
              · refine lv_iconst (v := (nI 1)) hx hb d_B_refuseBadTask_59 (by decide) ?_
                refine lv_goto (tgt := 64) hx hb d_B_refuseBadTask_60 (by decide) ?_
                refine lv_istore (lv' := [(4, .int (nI 1)), (0, .int (nI r9)), (1, .int a), (2, .int b), (3, .int c9)]) hx hb d_B_refuseBadTask_64 hl (by decide) rfl (fun ls hl => ?_)
                refine lv_iload hx hb d_B_refuseBadTask_66 (lv_at hl 0 rfl) ?_
                refine lv_if_ne (tgt := 85) hx hb d_B_refuseBadTask_68 (by decide) (fun c8 => ?_) (fun c8 => absurd c8 (by decide))
                exact absurd o2 (fun h9 => h9 ⟨c4, c4b⟩)
              · refine lv_iload_n hx hb d_B_refuseBadTask_49 rfl (lv_at hl 2 rfl) ?_
                refine lv_iconst (v := (-1)) hx hb d_B_refuseBadTask_50 (by decide) ?_
                refine lv_icmp_ne (tgt := 63) hx hb d_B_refuseBadTask_51 (by decide) (fun c5 => ?_) (fun c5 => ?_)
                · refine lv_iconst (v := (nI 0)) hx hb d_B_refuseBadTask_63 (by decide) ?_
                  refine lv_istore (lv' := [(4, .int (nI 0)), (0, .int (nI r9)), (1, .int a), (2, .int b), (3, .int c9)]) hx hb d_B_refuseBadTask_64 hl (by decide) rfl (fun ls hl => ?_)
                  refine lv_iload hx hb d_B_refuseBadTask_66 (lv_at hl 0 rfl) ?_
                  refine lv_if_ne (tgt := 85) hx hb d_B_refuseBadTask_68 (by decide) (fun c8 => absurd rfl c8) (fun c8 => ?_)
                  refine lv_iload_n hx hb d_B_refuseBadTask_71 rfl (lv_at hl 2 rfl) ?_
                  refine lv_iload_n hx hb d_B_refuseBadTask_72 rfl (lv_at hl 3 rfl) ?_
                  refine lv_iload_n hx hb d_B_refuseBadTask_73 rfl (lv_at hl 4 rfl) ?_
                  refine va_calli (rn_S (n := 3) (As := [.int a, .int b, .int c9]) (rest := []) X hP hS (c_B_partsAmong B0 w a b c9) k_303 k_304 k_54 k_305 (by decide +kernel) rfl rfl ⟨Nat.le_of_ble_eq_true rfl, Nat.le_of_ble_eq_true rfl⟩ rfl hl.1 rfl (Nat.le_of_ble_eq_true rfl) d_B_refuseBadTask_74 ⟨Nat.le_of_ble_eq_true rfl, Nat.le_of_ble_eq_true rfl⟩) hS (fun q _ h => h) (fun q h => h) (fun r w6 tS H locs ht hvm hw hB hz1 hk1 hS => ?_)
                  have hP : fw_P (dC, dI) cls_ (AA s0) w6 H := by rw [← ht]; exact hB
                  obtain ⟨e9, rfl⟩ := hw
                  rw [e9] at hP
                  obtain ⟨t9, hZ9, hT9⟩ := X0.z hE
                  refine va_gets hx hb hZ9 hS hown (hg _ k_306) (fun _ h9 => h9) d_B_refuseBadTask_77 ?_
                  refine lv_iload_n hx hb d_B_refuseBadTask_80 rfl (lv_at hl 1 rfl) ?_
                  refine va_ti (v := .int (nI (p_need r9))) hx hb hT9 hS (vp_in_nI o1 (by omega)) (by show Value.int (pneed _) = _; rw [nI_clamp (by omega)]; rfl) d_B_refuseBadTask_81 ?_
                  have hpc : pCount a b c9 ≤ 3 := pc_le _ _ _
                  have hpn : p_need r9 ≤ 3 := pn_le _
                  refine nu_ge (tgt := 93) hx hb (by omega) (by omega) d_B_refuseBadTask_82 (by decide) (fun c7 => ?_) (fun c7 => ?_)
                  · exact W.vret hx hb hr (fun tS ht hW => ⟨⟨w, rfl, rfl, mB_of ht hP⟩, hS.F ht⟩) hS.2.2 d_B_refuseBadTask_93
                  · exact absurd c7 (by omega)
                · refine lv_iload_n hx hb d_B_refuseBadTask_54 rfl (lv_at hl 3 rfl) ?_
                  refine lv_iconst (v := (-1)) hx hb d_B_refuseBadTask_55 (by decide) ?_
                  refine lv_icmp_eq (tgt := 63) hx hb d_B_refuseBadTask_56 (by decide) (fun c6 => ?_) (fun c6 => ?_)
                  · refine lv_iconst (v := (nI 0)) hx hb d_B_refuseBadTask_63 (by decide) ?_
                    refine lv_istore (lv' := [(4, .int (nI 0)), (0, .int (nI r9)), (1, .int a), (2, .int b), (3, .int c9)]) hx hb d_B_refuseBadTask_64 hl (by decide) rfl (fun ls hl => ?_)
                    refine lv_iload hx hb d_B_refuseBadTask_66 (lv_at hl 0 rfl) ?_
                    refine lv_if_ne (tgt := 85) hx hb d_B_refuseBadTask_68 (by decide) (fun c8 => absurd rfl c8) (fun c8 => ?_)
                    refine lv_iload_n hx hb d_B_refuseBadTask_71 rfl (lv_at hl 2 rfl) ?_
                    refine lv_iload_n hx hb d_B_refuseBadTask_72 rfl (lv_at hl 3 rfl) ?_
                    refine lv_iload_n hx hb d_B_refuseBadTask_73 rfl (lv_at hl 4 rfl) ?_
                    refine va_calli (rn_S (n := 3) (As := [.int a, .int b, .int c9]) (rest := []) X hP hS (c_B_partsAmong B0 w a b c9) k_303 k_304 k_54 k_305 (by decide +kernel) rfl rfl ⟨Nat.le_of_ble_eq_true rfl, Nat.le_of_ble_eq_true rfl⟩ rfl hl.1 rfl (Nat.le_of_ble_eq_true rfl) d_B_refuseBadTask_74 ⟨Nat.le_of_ble_eq_true rfl, Nat.le_of_ble_eq_true rfl⟩) hS (fun q _ h => h) (fun q h => h) (fun r w7 tS H locs ht hvm hw hB hz1 hk1 hS => ?_)
                    have hP : fw_P (dC, dI) cls_ (AA s0) w7 H := by rw [← ht]; exact hB
                    obtain ⟨e9, rfl⟩ := hw
                    rw [e9] at hP
                    obtain ⟨t9, hZ9, hT9⟩ := X0.z hE
                    refine va_gets hx hb hZ9 hS hown (hg _ k_306) (fun _ h9 => h9) d_B_refuseBadTask_77 ?_
                    refine lv_iload_n hx hb d_B_refuseBadTask_80 rfl (lv_at hl 1 rfl) ?_
                    refine va_ti (v := .int (nI (p_need r9))) hx hb hT9 hS (vp_in_nI o1 (by omega)) (by show Value.int (pneed _) = _; rw [nI_clamp (by omega)]; rfl) d_B_refuseBadTask_81 ?_
                    have hpc : pCount a b c9 ≤ 3 := pc_le _ _ _
                    have hpn : p_need r9 ≤ 3 := pn_le _
                    refine nu_ge (tgt := 93) hx hb (by omega) (by omega) d_B_refuseBadTask_82 (by decide) (fun c7 => ?_) (fun c7 => ?_)
                    · exact W.vret hx hb hr (fun tS ht hW => ⟨⟨w, rfl, rfl, mB_of ht hP⟩, hS.F ht⟩) hS.2.2 d_B_refuseBadTask_93
                    · exact absurd c7 (by omega)
                  · refine lv_iconst (v := (nI 1)) hx hb d_B_refuseBadTask_59 (by decide) ?_
                    refine lv_goto (tgt := 64) hx hb d_B_refuseBadTask_60 (by decide) ?_
                    refine lv_istore (lv' := [(4, .int (nI 1)), (0, .int (nI r9)), (1, .int a), (2, .int b), (3, .int c9)]) hx hb d_B_refuseBadTask_64 hl (by decide) rfl (fun ls hl => ?_)
                    refine lv_iload hx hb d_B_refuseBadTask_66 (lv_at hl 0 rfl) ?_
                    refine lv_if_ne (tgt := 85) hx hb d_B_refuseBadTask_68 (by decide) (fun c8 => ?_) (fun c8 => absurd c8 (by decide))
                    exact absurd o3 (fun h9 => h9 ⟨c5, c6⟩)
          · exact absurd (hb3.mpr oc) (by rw [c3]; simp)
set_option maxHeartbeats 4000000 in
set_option maxRecDepth 100000 in
theorem t_B_refuseBadTask {l : Launch} {s0 : State} {dC : Nat → ClassId} {dI : Nat → Nat → Nat} {dA : Nat → ClassId} (B0 : BB s0 dC dI dA) (X0 : XX s0) (hlt : l.stackTraces = false) (w : fw_W) (r : Int32) (a b c9 : Int32) (ho : ¬ ∃ r9, r = nI r9 ∧ okTask r9 a b c9) : vx_Met l y_B_refuseBadTask [.code y_B_refuseBadTask b_B_refuseBadTask 5 none] ({ frames := 6, cells := 1, slots := 6, locals := 120 }) (mP s0 dC dI w [.int r, .int a, .int b, .int c9]) Qno (mX s0 dC dI (fun E w' => E = E_IA ∧ w' = w)) 1 6 (AA s0) := by
  refine mt_ofX B0 (by decide) (Nat.le_of_ble_eq_true rfl) (fun p e s m args below meth c ls hargs X hnt hl hP => ?_)
  have X9 := X
  obtain ⟨hx, hb, hr, hml, hown, hg, hK, hn, hE, hlocks, hA⟩ := X9
  have hS : va_S (AA s0) s.heap s.heap [] := va_S.rf
  have hl : lv_has ls 5 [(0, .int r), (1, .int a), (2, .int b), (3, .int c9)] := hl
  refine lv_iload_n hx hb d_B_refuseBadTask_0 rfl (lv_at hl 0 rfl) ?_
  refine lv_if_lt (tgt := 31) hx hb d_B_refuseBadTask_1 (by decide) (fun c0 => ?_) (fun c0 => ?_)
  · exact th_0 B0 X0 hlt X hnt hP hS ex_IA ⟨rfl, rfl⟩ hl.1 d_B_refuseBadTask_31 d_B_refuseBadTask_34 d_B_refuseBadTask_35 d_B_refuseBadTask_38 (Nat.le_of_ble_eq_true rfl) (Nat.le_of_ble_eq_true rfl) (Nat.le_of_ble_eq_true rfl) (Nat.le_of_ble_eq_true rfl) (Nat.le_of_ble_eq_true rfl) (Nat.le_of_ble_eq_true rfl)
  · refine lv_iload_n hx hb d_B_refuseBadTask_4 rfl (lv_at hl 0 rfl) ?_
    refine lv_bipush (v := (nI 10)) hx hb d_B_refuseBadTask_5 (by decide) ?_
    refine lv_icmp_ge (tgt := 31) hx hb d_B_refuseBadTask_7 (by decide) (fun c0b => ?_) (fun c0b => ?_)
    · exact th_0 B0 X0 hlt X hnt hP hS ex_IA ⟨rfl, rfl⟩ hl.1 d_B_refuseBadTask_31 d_B_refuseBadTask_34 d_B_refuseBadTask_35 d_B_refuseBadTask_38 (Nat.le_of_ble_eq_true rfl) (Nat.le_of_ble_eq_true rfl) (Nat.le_of_ble_eq_true rfl) (Nat.le_of_ble_eq_true rfl) (Nat.le_of_ble_eq_true rfl) (Nat.le_of_ble_eq_true rfl)
    · obtain ⟨r9, o1, rfl⟩ := rok_of c0 (Int32.not_le.mp c0b)
      refine lv_iload_n hx hb d_B_refuseBadTask_10 rfl (lv_at hl 1 rfl) ?_
      refine va_calli (rn_S (n := 1) (As := [.int a]) (rest := []) X hP hS (c_B_isPart B0 w a) k_300 k_301 k_54 k_302 (by decide +kernel) rfl rfl ⟨Nat.le_of_ble_eq_true rfl, Nat.le_of_ble_eq_true rfl⟩ rfl hl.1 rfl (Nat.le_of_ble_eq_true rfl) d_B_refuseBadTask_11 ⟨Nat.le_of_ble_eq_true rfl, Nat.le_of_ble_eq_true rfl⟩) hS (fun q _ h => h) (fun q h => h) (fun r w8 tS H locs ht hvm hw hB hz1 hk1 hS => ?_)
      have hP : fw_P (dC, dI) cls_ (AA s0) w8 H := by rw [← ht]; exact hB
      obtain ⟨e9, b1, rfl, hb1⟩ := hw
      rw [e9] at hP
      refine nu_ifeq (tgt := 31) hx hb d_B_refuseBadTask_14 (by decide) (fun c1 => ?_) (fun c1 => ?_)
      · exact th_0 B0 X0 hlt X hnt hP hS ex_IA ⟨rfl, rfl⟩ hl.1 d_B_refuseBadTask_31 d_B_refuseBadTask_34 d_B_refuseBadTask_35 d_B_refuseBadTask_38 (Nat.le_of_ble_eq_true rfl) (Nat.le_of_ble_eq_true rfl) (Nat.le_of_ble_eq_true rfl) (Nat.le_of_ble_eq_true rfl) (Nat.le_of_ble_eq_true rfl) (Nat.le_of_ble_eq_true rfl)
      · refine lv_iload_n hx hb d_B_refuseBadTask_17 rfl (lv_at hl 2 rfl) ?_
        refine va_calli (rn_S (n := 1) (As := [.int b]) (rest := []) X hP hS (c_B_isPart B0 w b) k_300 k_301 k_54 k_302 (by decide +kernel) rfl rfl ⟨Nat.le_of_ble_eq_true rfl, Nat.le_of_ble_eq_true rfl⟩ rfl hl.1 rfl (Nat.le_of_ble_eq_true rfl) d_B_refuseBadTask_18 ⟨Nat.le_of_ble_eq_true rfl, Nat.le_of_ble_eq_true rfl⟩) hS (fun q _ h => h) (fun q h => h) (fun r w9 tS H locs ht hvm hw hB hz1 hk1 hS => ?_)
        have hP : fw_P (dC, dI) cls_ (AA s0) w9 H := by rw [← ht]; exact hB
        obtain ⟨e9, b2, rfl, hb2⟩ := hw
        rw [e9] at hP
        refine nu_ifeq (tgt := 31) hx hb d_B_refuseBadTask_21 (by decide) (fun c2 => ?_) (fun c2 => ?_)
        · exact th_0 B0 X0 hlt X hnt hP hS ex_IA ⟨rfl, rfl⟩ hl.1 d_B_refuseBadTask_31 d_B_refuseBadTask_34 d_B_refuseBadTask_35 d_B_refuseBadTask_38 (Nat.le_of_ble_eq_true rfl) (Nat.le_of_ble_eq_true rfl) (Nat.le_of_ble_eq_true rfl) (Nat.le_of_ble_eq_true rfl) (Nat.le_of_ble_eq_true rfl) (Nat.le_of_ble_eq_true rfl)
        · refine lv_iload_n hx hb d_B_refuseBadTask_24 rfl (lv_at hl 3 rfl) ?_
          refine va_calli (rn_S (n := 1) (As := [.int c9]) (rest := []) X hP hS (c_B_isPart B0 w c9) k_300 k_301 k_54 k_302 (by decide +kernel) rfl rfl ⟨Nat.le_of_ble_eq_true rfl, Nat.le_of_ble_eq_true rfl⟩ rfl hl.1 rfl (Nat.le_of_ble_eq_true rfl) d_B_refuseBadTask_25 ⟨Nat.le_of_ble_eq_true rfl, Nat.le_of_ble_eq_true rfl⟩) hS (fun q _ h => h) (fun q h => h) (fun r w10 tS H locs ht hvm hw hB hz1 hk1 hS => ?_)
          have hP : fw_P (dC, dI) cls_ (AA s0) w10 H := by rw [← ht]; exact hB
          obtain ⟨e9, b3, rfl, hb3⟩ := hw
          rw [e9] at hP
          refine nu_ifne (tgt := 39) hx hb d_B_refuseBadTask_28 (by decide) (fun c3 => ?_) (fun c3 => ?_)
          · refine lv_iload_n hx hb d_B_refuseBadTask_39 rfl (lv_at hl 1 rfl) ?_
            refine lv_iconst (v := (-1)) hx hb d_B_refuseBadTask_40 (by decide) ?_
            refine lv_icmp_ne (tgt := 49) hx hb d_B_refuseBadTask_41 (by decide) (fun c4 => ?_) (fun c4 => ?_)
            · refine lv_iload_n hx hb d_B_refuseBadTask_49 rfl (lv_at hl 2 rfl) ?_
              refine lv_iconst (v := (-1)) hx hb d_B_refuseBadTask_50 (by decide) ?_
              refine lv_icmp_ne (tgt := 63) hx hb d_B_refuseBadTask_51 (by decide) (fun c5 => ?_) (fun c5 => ?_)
              · refine lv_iconst (v := (nI 0)) hx hb d_B_refuseBadTask_63 (by decide) ?_
                refine lv_istore (lv' := [(4, .int (nI 0)), (0, .int (nI r9)), (1, .int a), (2, .int b), (3, .int c9)]) hx hb d_B_refuseBadTask_64 hl (by decide) rfl (fun ls hl => ?_)
                refine lv_iload hx hb d_B_refuseBadTask_66 (lv_at hl 0 rfl) ?_
                refine lv_if_ne (tgt := 85) hx hb d_B_refuseBadTask_68 (by decide) (fun c8 => absurd rfl c8) (fun c8 => ?_)
                refine lv_iload_n hx hb d_B_refuseBadTask_71 rfl (lv_at hl 2 rfl) ?_
                refine lv_iload_n hx hb d_B_refuseBadTask_72 rfl (lv_at hl 3 rfl) ?_
                refine lv_iload_n hx hb d_B_refuseBadTask_73 rfl (lv_at hl 4 rfl) ?_
                refine va_calli (rn_S (n := 3) (As := [.int a, .int b, .int c9]) (rest := []) X hP hS (c_B_partsAmong B0 w a b c9) k_303 k_304 k_54 k_305 (by decide +kernel) rfl rfl ⟨Nat.le_of_ble_eq_true rfl, Nat.le_of_ble_eq_true rfl⟩ rfl hl.1 rfl (Nat.le_of_ble_eq_true rfl) d_B_refuseBadTask_74 ⟨Nat.le_of_ble_eq_true rfl, Nat.le_of_ble_eq_true rfl⟩) hS (fun q _ h => h) (fun q h => h) (fun r w11 tS H locs ht hvm hw hB hz1 hk1 hS => ?_)
                have hP : fw_P (dC, dI) cls_ (AA s0) w11 H := by rw [← ht]; exact hB
                obtain ⟨e9, rfl⟩ := hw
                rw [e9] at hP
                obtain ⟨t9, hZ9, hT9⟩ := X0.z hE
                refine va_gets hx hb hZ9 hS hown (hg _ k_306) (fun _ h9 => h9) d_B_refuseBadTask_77 ?_
                refine lv_iload_n hx hb d_B_refuseBadTask_80 rfl (lv_at hl 1 rfl) ?_
                refine va_ti (v := .int (nI (p_need r9))) hx hb hT9 hS (vp_in_nI o1 (by omega)) (by show Value.int (pneed _) = _; rw [nI_clamp (by omega)]; rfl) d_B_refuseBadTask_81 ?_
                have hpc : pCount a b c9 ≤ 3 := pc_le _ _ _
                have hpn : p_need r9 ≤ 3 := pn_le _
                refine nu_ge (tgt := 93) hx hb (by omega) (by omega) d_B_refuseBadTask_82 (by decide) (fun c7 => ?_) (fun c7 => ?_)
                · exact absurd ⟨r9, rfl, o1, hb1.mp c1, hb2.mp c2, hb3.mp c3, (fun h9 => c4 h9.1), (fun h9 => c5 h9.1), c7⟩ ho
                · exact th_0 B0 X0 hlt X hnt hP hS ex_IA ⟨rfl, rfl⟩ hl.1 d_B_refuseBadTask_85 d_B_refuseBadTask_88 d_B_refuseBadTask_89 d_B_refuseBadTask_92 (Nat.le_of_ble_eq_true rfl) (Nat.le_of_ble_eq_true rfl) (Nat.le_of_ble_eq_true rfl) (Nat.le_of_ble_eq_true rfl) (Nat.le_of_ble_eq_true rfl) (Nat.le_of_ble_eq_true rfl)
              · refine lv_iload_n hx hb d_B_refuseBadTask_54 rfl (lv_at hl 3 rfl) ?_
                refine lv_iconst (v := (-1)) hx hb d_B_refuseBadTask_55 (by decide) ?_
                refine lv_icmp_eq (tgt := 63) hx hb d_B_refuseBadTask_56 (by decide) (fun c6 => ?_) (fun c6 => ?_)
                · refine lv_iconst (v := (nI 0)) hx hb d_B_refuseBadTask_63 (by decide) ?_
                  refine lv_istore (lv' := [(4, .int (nI 0)), (0, .int (nI r9)), (1, .int a), (2, .int b), (3, .int c9)]) hx hb d_B_refuseBadTask_64 hl (by decide) rfl (fun ls hl => ?_)
                  refine lv_iload hx hb d_B_refuseBadTask_66 (lv_at hl 0 rfl) ?_
                  refine lv_if_ne (tgt := 85) hx hb d_B_refuseBadTask_68 (by decide) (fun c8 => absurd rfl c8) (fun c8 => ?_)
                  refine lv_iload_n hx hb d_B_refuseBadTask_71 rfl (lv_at hl 2 rfl) ?_
                  refine lv_iload_n hx hb d_B_refuseBadTask_72 rfl (lv_at hl 3 rfl) ?_
                  refine lv_iload_n hx hb d_B_refuseBadTask_73 rfl (lv_at hl 4 rfl) ?_
                  refine va_calli (rn_S (n := 3) (As := [.int a, .int b, .int c9]) (rest := []) X hP hS (c_B_partsAmong B0 w a b c9) k_303 k_304 k_54 k_305 (by decide +kernel) rfl rfl ⟨Nat.le_of_ble_eq_true rfl, Nat.le_of_ble_eq_true rfl⟩ rfl hl.1 rfl (Nat.le_of_ble_eq_true rfl) d_B_refuseBadTask_74 ⟨Nat.le_of_ble_eq_true rfl, Nat.le_of_ble_eq_true rfl⟩) hS (fun q _ h => h) (fun q h => h) (fun r w12 tS H locs ht hvm hw hB hz1 hk1 hS => ?_)
                  have hP : fw_P (dC, dI) cls_ (AA s0) w12 H := by rw [← ht]; exact hB
                  obtain ⟨e9, rfl⟩ := hw
                  rw [e9] at hP
                  obtain ⟨t9, hZ9, hT9⟩ := X0.z hE
                  refine va_gets hx hb hZ9 hS hown (hg _ k_306) (fun _ h9 => h9) d_B_refuseBadTask_77 ?_
                  refine lv_iload_n hx hb d_B_refuseBadTask_80 rfl (lv_at hl 1 rfl) ?_
                  refine va_ti (v := .int (nI (p_need r9))) hx hb hT9 hS (vp_in_nI o1 (by omega)) (by show Value.int (pneed _) = _; rw [nI_clamp (by omega)]; rfl) d_B_refuseBadTask_81 ?_
                  have hpc : pCount a b c9 ≤ 3 := pc_le _ _ _
                  have hpn : p_need r9 ≤ 3 := pn_le _
                  refine nu_ge (tgt := 93) hx hb (by omega) (by omega) d_B_refuseBadTask_82 (by decide) (fun c7 => ?_) (fun c7 => ?_)
                  · exact absurd ⟨r9, rfl, o1, hb1.mp c1, hb2.mp c2, hb3.mp c3, (fun h9 => c4 h9.1), (fun h9 => h9.2 c6), c7⟩ ho
                  · exact th_0 B0 X0 hlt X hnt hP hS ex_IA ⟨rfl, rfl⟩ hl.1 d_B_refuseBadTask_85 d_B_refuseBadTask_88 d_B_refuseBadTask_89 d_B_refuseBadTask_92 (Nat.le_of_ble_eq_true rfl) (Nat.le_of_ble_eq_true rfl) (Nat.le_of_ble_eq_true rfl) (Nat.le_of_ble_eq_true rfl) (Nat.le_of_ble_eq_true rfl) (Nat.le_of_ble_eq_true rfl)
                · refine lv_iconst (v := (nI 1)) hx hb d_B_refuseBadTask_59 (by decide) ?_
                  refine lv_goto (tgt := 64) hx hb d_B_refuseBadTask_60 (by decide) ?_
                  refine lv_istore (lv' := [(4, .int (nI 1)), (0, .int (nI r9)), (1, .int a), (2, .int b), (3, .int c9)]) hx hb d_B_refuseBadTask_64 hl (by decide) rfl (fun ls hl => ?_)
                  refine lv_iload hx hb d_B_refuseBadTask_66 (lv_at hl 0 rfl) ?_
                  refine lv_if_ne (tgt := 85) hx hb d_B_refuseBadTask_68 (by decide) (fun c8 => ?_) (fun c8 => absurd c8 (by decide))
                  exact th_0 B0 X0 hlt X hnt hP hS ex_IA ⟨rfl, rfl⟩ hl.1 d_B_refuseBadTask_85 d_B_refuseBadTask_88 d_B_refuseBadTask_89 d_B_refuseBadTask_92 (Nat.le_of_ble_eq_true rfl) (Nat.le_of_ble_eq_true rfl) (Nat.le_of_ble_eq_true rfl) (Nat.le_of_ble_eq_true rfl) (Nat.le_of_ble_eq_true rfl) (Nat.le_of_ble_eq_true rfl)
            · refine lv_iload_n hx hb d_B_refuseBadTask_44 rfl (lv_at hl 2 rfl) ?_
              refine lv_iconst (v := (-1)) hx hb d_B_refuseBadTask_45 (by decide) ?_
              refine lv_icmp_ne (tgt := 59) hx hb d_B_refuseBadTask_46 (by decide) (fun c4b => ?_) (fun c4b => ?_)
              · refine lv_iconst (v := (nI 1)) hx hb d_B_refuseBadTask_59 (by decide) ?_
                refine lv_goto (tgt := 64) hx hb d_B_refuseBadTask_60 (by decide) ?_
                refine lv_istore (lv' := [(4, .int (nI 1)), (0, .int (nI r9)), (1, .int a), (2, .int b), (3, .int c9)]) hx hb d_B_refuseBadTask_64 hl (by decide) rfl (fun ls hl => ?_)
                refine lv_iload hx hb d_B_refuseBadTask_66 (lv_at hl 0 rfl) ?_
                refine lv_if_ne (tgt := 85) hx hb d_B_refuseBadTask_68 (by decide) (fun c8 => ?_) (fun c8 => absurd c8 (by decide))
                exact th_0 B0 X0 hlt X hnt hP hS ex_IA ⟨rfl, rfl⟩ hl.1 d_B_refuseBadTask_85 d_B_refuseBadTask_88 d_B_refuseBadTask_89 d_B_refuseBadTask_92 (Nat.le_of_ble_eq_true rfl) (Nat.le_of_ble_eq_true rfl) (Nat.le_of_ble_eq_true rfl) (Nat.le_of_ble_eq_true rfl) (Nat.le_of_ble_eq_true rfl) (Nat.le_of_ble_eq_true rfl)
              · refine lv_iload_n hx hb d_B_refuseBadTask_49 rfl (lv_at hl 2 rfl) ?_
                refine lv_iconst (v := (-1)) hx hb d_B_refuseBadTask_50 (by decide) ?_
                refine lv_icmp_ne (tgt := 63) hx hb d_B_refuseBadTask_51 (by decide) (fun c5 => ?_) (fun c5 => ?_)
                · refine lv_iconst (v := (nI 0)) hx hb d_B_refuseBadTask_63 (by decide) ?_
                  refine lv_istore (lv' := [(4, .int (nI 0)), (0, .int (nI r9)), (1, .int a), (2, .int b), (3, .int c9)]) hx hb d_B_refuseBadTask_64 hl (by decide) rfl (fun ls hl => ?_)
                  refine lv_iload hx hb d_B_refuseBadTask_66 (lv_at hl 0 rfl) ?_
                  refine lv_if_ne (tgt := 85) hx hb d_B_refuseBadTask_68 (by decide) (fun c8 => absurd rfl c8) (fun c8 => ?_)
                  refine lv_iload_n hx hb d_B_refuseBadTask_71 rfl (lv_at hl 2 rfl) ?_
                  refine lv_iload_n hx hb d_B_refuseBadTask_72 rfl (lv_at hl 3 rfl) ?_
                  refine lv_iload_n hx hb d_B_refuseBadTask_73 rfl (lv_at hl 4 rfl) ?_
                  refine va_calli (rn_S (n := 3) (As := [.int a, .int b, .int c9]) (rest := []) X hP hS (c_B_partsAmong B0 w a b c9) k_303 k_304 k_54 k_305 (by decide +kernel) rfl rfl ⟨Nat.le_of_ble_eq_true rfl, Nat.le_of_ble_eq_true rfl⟩ rfl hl.1 rfl (Nat.le_of_ble_eq_true rfl) d_B_refuseBadTask_74 ⟨Nat.le_of_ble_eq_true rfl, Nat.le_of_ble_eq_true rfl⟩) hS (fun q _ h => h) (fun q h => h) (fun r w13 tS H locs ht hvm hw hB hz1 hk1 hS => ?_)
                  have hP : fw_P (dC, dI) cls_ (AA s0) w13 H := by rw [← ht]; exact hB
                  obtain ⟨e9, rfl⟩ := hw
                  rw [e9] at hP
                  obtain ⟨t9, hZ9, hT9⟩ := X0.z hE
                  refine va_gets hx hb hZ9 hS hown (hg _ k_306) (fun _ h9 => h9) d_B_refuseBadTask_77 ?_
                  refine lv_iload_n hx hb d_B_refuseBadTask_80 rfl (lv_at hl 1 rfl) ?_
                  refine va_ti (v := .int (nI (p_need r9))) hx hb hT9 hS (vp_in_nI o1 (by omega)) (by show Value.int (pneed _) = _; rw [nI_clamp (by omega)]; rfl) d_B_refuseBadTask_81 ?_
                  have hpc : pCount a b c9 ≤ 3 := pc_le _ _ _
                  have hpn : p_need r9 ≤ 3 := pn_le _
                  refine nu_ge (tgt := 93) hx hb (by omega) (by omega) d_B_refuseBadTask_82 (by decide) (fun c7 => ?_) (fun c7 => ?_)
                  · exact absurd ⟨r9, rfl, o1, hb1.mp c1, hb2.mp c2, hb3.mp c3, (fun h9 => h9.2 c4b), (fun h9 => c5 h9.1), c7⟩ ho
                  · exact th_0 B0 X0 hlt X hnt hP hS ex_IA ⟨rfl, rfl⟩ hl.1 d_B_refuseBadTask_85 d_B_refuseBadTask_88 d_B_refuseBadTask_89 d_B_refuseBadTask_92 (Nat.le_of_ble_eq_true rfl) (Nat.le_of_ble_eq_true rfl) (Nat.le_of_ble_eq_true rfl) (Nat.le_of_ble_eq_true rfl) (Nat.le_of_ble_eq_true rfl) (Nat.le_of_ble_eq_true rfl)
                · refine lv_iload_n hx hb d_B_refuseBadTask_54 rfl (lv_at hl 3 rfl) ?_
                  refine lv_iconst (v := (-1)) hx hb d_B_refuseBadTask_55 (by decide) ?_
                  refine lv_icmp_eq (tgt := 63) hx hb d_B_refuseBadTask_56 (by decide) (fun c6 => ?_) (fun c6 => ?_)
                  · refine lv_iconst (v := (nI 0)) hx hb d_B_refuseBadTask_63 (by decide) ?_
                    refine lv_istore (lv' := [(4, .int (nI 0)), (0, .int (nI r9)), (1, .int a), (2, .int b), (3, .int c9)]) hx hb d_B_refuseBadTask_64 hl (by decide) rfl (fun ls hl => ?_)
                    refine lv_iload hx hb d_B_refuseBadTask_66 (lv_at hl 0 rfl) ?_
                    refine lv_if_ne (tgt := 85) hx hb d_B_refuseBadTask_68 (by decide) (fun c8 => absurd rfl c8) (fun c8 => ?_)
                    refine lv_iload_n hx hb d_B_refuseBadTask_71 rfl (lv_at hl 2 rfl) ?_
                    refine lv_iload_n hx hb d_B_refuseBadTask_72 rfl (lv_at hl 3 rfl) ?_
                    refine lv_iload_n hx hb d_B_refuseBadTask_73 rfl (lv_at hl 4 rfl) ?_
                    refine va_calli (rn_S (n := 3) (As := [.int a, .int b, .int c9]) (rest := []) X hP hS (c_B_partsAmong B0 w a b c9) k_303 k_304 k_54 k_305 (by decide +kernel) rfl rfl ⟨Nat.le_of_ble_eq_true rfl, Nat.le_of_ble_eq_true rfl⟩ rfl hl.1 rfl (Nat.le_of_ble_eq_true rfl) d_B_refuseBadTask_74 ⟨Nat.le_of_ble_eq_true rfl, Nat.le_of_ble_eq_true rfl⟩) hS (fun q _ h => h) (fun q h => h) (fun r w14 tS H locs ht hvm hw hB hz1 hk1 hS => ?_)
                    have hP : fw_P (dC, dI) cls_ (AA s0) w14 H := by rw [← ht]; exact hB
                    obtain ⟨e9, rfl⟩ := hw
                    rw [e9] at hP
                    obtain ⟨t9, hZ9, hT9⟩ := X0.z hE
                    refine va_gets hx hb hZ9 hS hown (hg _ k_306) (fun _ h9 => h9) d_B_refuseBadTask_77 ?_
                    refine lv_iload_n hx hb d_B_refuseBadTask_80 rfl (lv_at hl 1 rfl) ?_
                    refine va_ti (v := .int (nI (p_need r9))) hx hb hT9 hS (vp_in_nI o1 (by omega)) (by show Value.int (pneed _) = _; rw [nI_clamp (by omega)]; rfl) d_B_refuseBadTask_81 ?_
                    have hpc : pCount a b c9 ≤ 3 := pc_le _ _ _
                    have hpn : p_need r9 ≤ 3 := pn_le _
                    refine nu_ge (tgt := 93) hx hb (by omega) (by omega) d_B_refuseBadTask_82 (by decide) (fun c7 => ?_) (fun c7 => ?_)
                    · exact absurd ⟨r9, rfl, o1, hb1.mp c1, hb2.mp c2, hb3.mp c3, (fun h9 => h9.2 c4b), (fun h9 => h9.2 c6), c7⟩ ho
                    · exact th_0 B0 X0 hlt X hnt hP hS ex_IA ⟨rfl, rfl⟩ hl.1 d_B_refuseBadTask_85 d_B_refuseBadTask_88 d_B_refuseBadTask_89 d_B_refuseBadTask_92 (Nat.le_of_ble_eq_true rfl) (Nat.le_of_ble_eq_true rfl) (Nat.le_of_ble_eq_true rfl) (Nat.le_of_ble_eq_true rfl) (Nat.le_of_ble_eq_true rfl) (Nat.le_of_ble_eq_true rfl)
                  · refine lv_iconst (v := (nI 1)) hx hb d_B_refuseBadTask_59 (by decide) ?_
                    refine lv_goto (tgt := 64) hx hb d_B_refuseBadTask_60 (by decide) ?_
                    refine lv_istore (lv' := [(4, .int (nI 1)), (0, .int (nI r9)), (1, .int a), (2, .int b), (3, .int c9)]) hx hb d_B_refuseBadTask_64 hl (by decide) rfl (fun ls hl => ?_)
                    refine lv_iload hx hb d_B_refuseBadTask_66 (lv_at hl 0 rfl) ?_
                    refine lv_if_ne (tgt := 85) hx hb d_B_refuseBadTask_68 (by decide) (fun c8 => ?_) (fun c8 => absurd c8 (by decide))
                    exact th_0 B0 X0 hlt X hnt hP hS ex_IA ⟨rfl, rfl⟩ hl.1 d_B_refuseBadTask_85 d_B_refuseBadTask_88 d_B_refuseBadTask_89 d_B_refuseBadTask_92 (Nat.le_of_ble_eq_true rfl) (Nat.le_of_ble_eq_true rfl) (Nat.le_of_ble_eq_true rfl) (Nat.le_of_ble_eq_true rfl) (Nat.le_of_ble_eq_true rfl) (Nat.le_of_ble_eq_true rfl)
          · exact th_0 B0 X0 hlt X hnt hP hS ex_IA ⟨rfl, rfl⟩ hl.1 d_B_refuseBadTask_31 d_B_refuseBadTask_34 d_B_refuseBadTask_35 d_B_refuseBadTask_38 (Nat.le_of_ble_eq_true rfl) (Nat.le_of_ble_eq_true rfl) (Nat.le_of_ble_eq_true rfl) (Nat.le_of_ble_eq_true rfl) (Nat.le_of_ble_eq_true rfl) (Nat.le_of_ble_eq_true rfl)
