set_option maxHeartbeats 4000000 in
set_option maxRecDepth 100000 in
theorem lo_input {p : Program} {l : Launch} {e : Env} {s : State} {m : MethodId} {below : List Frame} {meth : Method} {c : Code} {dC : Nat → ClassId} {dI : Nat → Nat → Nat} {dA : Nat → ClassId} {b L : Nat} {xs : Nat → Int32} {AD md : Nat → Nat} {ou : Nat} (C : LX p l s m meth c dC dI dA b L xs AD md ou) {cells slots : Nat} (hcl : cells + 37 ≤ 601024) (hsl : slots + 138 ≤ 7293034) {i : Nat} (hi : i + 6 ≤ L) {w : fw_W} {β : BS} {H : Heap} {locs : List Loc} {ls : Array Slot} (S0 : LSt dA AD md ou w β) (hP : fw_P (dC, dI) cls_ (AA s) w H) (hS : va_S (AA s) s.heap H locs) (hl : lv_has ls 8 (LLoc AD md ou b i)) (kk : KK p l e s m below meth c dC dI dA b AD md ou i (cells + 37) (slots + 138)) : W p l e room_1 s m #[Value.ref b] below meth c H locs cells slots (lw_Z below #[Value.ref b] s) (F0 m 100 ls []) := by
  obtain ⟨X, B0, X0, hlt, hX, hbl, hL, hDJ⟩ := C
  have X9 := X
  obtain ⟨hx, hb, hr, hml, hown, hg, hK, hn, hE, hlocks, hA⟩ := X9
  obtain ⟨hinj, hj, dj1, dj2, dj3⟩ := (id hDJ)
  obtain ⟨Fz, μ, fo, hR, hD, hQ, hO, ho1, hf1, hf2⟩ := S0
  have hp := RB.pok hR
  have hl : lv_has ls 8 [(0, .ref b), (1, .ref (AD 27)), (2, .ref (md 36)), (3, .ref ou), (4, .int (nI i))] := hl
  by_cases ho : okK (xs (i + 1))
  · obtain ⟨k, hk, hek⟩ := ho
    refine lv_aload_n hx hb d_L_law_100 rfl (lv_at hl 1 rfl) ?_
    refine lv_aload_n hx hb d_L_law_101 rfl (lv_at hl 0 rfl) ?_
    refine lv_iload hx hb d_L_law_102 (lv_at hl 4 rfl) ?_
    refine lv_iconst (v := (nI 1)) hx hb d_L_law_104 (by decide) ?_
    refine nu_iadd (r := i + 1) hx hb d_L_law_105 (by omega) ?_
    refine sl_ld (v := (nI k)) hx hb hX hbl hS (by omega) hL hek d_L_law_106 ?_
    refine lv_aload_n hx hb d_L_law_107 rfl (lv_at hl 0 rfl) ?_
    refine lv_iload hx hb d_L_law_108 (lv_at hl 4 rfl) ?_
    refine lv_iconst (v := (nI 2)) hx hb d_L_law_110 (by decide) ?_
    refine nu_iadd (r := i + 2) hx hb d_L_law_111 (by omega) ?_
    refine sl_ld (v := (xs (i + 2))) hx hb hX hbl hS (by omega) hL rfl d_L_law_112 ?_
    refine lv_i2l (v := ((xs (i + 2))).toInt64) hx hb d_L_law_113 rfl ?_
    refine lv_bipush (v := (nI 32)) hx hb d_L_law_114 (by decide) ?_
    refine lv_lshl (v := ((((xs (i + 2))).toInt64) <<< (((nI 32)).toInt64 &&& 63))) hx hb d_L_law_116 rfl ?_
    refine lv_aload_n hx hb d_L_law_117 rfl (lv_at hl 0 rfl) ?_
    refine lv_iload hx hb d_L_law_118 (lv_at hl 4 rfl) ?_
    refine lv_iconst (v := (nI 3)) hx hb d_L_law_120 (by decide) ?_
    refine nu_iadd (r := i + 3) hx hb d_L_law_121 (by omega) ?_
    refine sl_ld (v := (xs (i + 3))) hx hb hX hbl hS (by omega) hL rfl d_L_law_122 ?_
    refine lv_i2l (v := ((xs (i + 3))).toInt64) hx hb d_L_law_123 rfl ?_
    refine lv_ldc2 (v := 4294967295) hx hb hown (hg _ k_818) d_L_law_124 ?_
    refine lv_land hx hb d_L_law_127 ?_
    refine lv_lor hx hb d_L_law_128 ?_
    refine va_calli (rn_SW (n := 3) (As := [.ref (AD 27), .int (nI k), .long (((((xs (i + 2))).toInt64) <<< (((nI 32)).toInt64 &&& 63)) ||| ((((xs (i + 3))).toInt64) &&& 4294967295))]) (rest := []) X hP hS (h_input B0 X0 hlt w AD Fz β k (((xs (i + 2)).toInt64 <<< ((nI 32).toInt64 &&& 63)) ||| ((xs (i + 3)).toInt64 &&& 4294967295)) hinj hR hk) k_195 k_196 k_53 k_197 (by decide +kernel) rfl rfl ⟨Nat.le_of_ble_eq_true rfl, Nat.le_of_ble_eq_true rfl⟩ rfl hl.1 rfl (Nat.le_of_ble_eq_true rfl) d_L_law_129 ⟨(show cells + 0 ≤ 601024 by omega), (show slots + 0 ≤ 7293034 by omega)⟩) hS (fun q _ h => h) (fun q h => h) (fun r w1 tS H locs ht hvm hw hB hz1 hk1 hS => ?_)
    have hP : fw_P (dC, dI) cls_ (AA s) w1 H := by rw [← ht]; exact hB
    obtain ⟨rfl, hv8⟩ := hw
    have hv9 : VL dA AD ou Fz w w1 (bInput k (((xs (i + 2)).toInt64 <<< ((nI 32).toInt64 &&& 63)) ||| ((xs (i + 3)).toInt64 &&& 4294967295)) β) fo := hv8.keepO ho1 dj2
    obtain ⟨Fz1, hR1, hD1, ho11, hf11, hf12⟩ := cl_step hDJ hD ho1 hf1 hf2 hv9
    have r36 := hD1.1
    refine lv_istore (lv' := [(5, .int (nI 0)), (0, .ref b), (1, .ref (AD 27)), (2, .ref (md 36)), (3, .ref ou), (4, .int (nI i))]) hx hb d_L_law_132 hl (by decide) rfl (fun ls hl => ?_)
    refine lv_aload_n hx hb d_L_law_134 rfl (lv_at hl 3 rfl) ?_
    refine lv_aload_n hx hb d_L_law_135 rfl (lv_at hl 1 rfl) ?_
    refine lv_iload hx hb d_L_law_136 (lv_at hl 5 rfl) ?_
    refine lv_iconst (v := (nI 1)) hx hb d_L_law_138 (by decide) ?_
    refine nu_iadd (r := i + 1) hx hb d_L_law_139 (by omega) ?_
    refine sl_ld (v := (nI k)) hx hb hX hbl hS (by omega) hL hek d_L_law_140 ?_
    refine lv_aload_n hx hb d_L_law_141 rfl (lv_at hl 1 rfl) ?_
    refine lv_iload hx hb d_L_law_142 (lv_at hl 5 rfl) ?_
    refine lv_iconst (v := (nI 2)) hx hb d_L_law_144 (by decide) ?_
    refine nu_iadd (r := i + 2) hx hb d_L_law_145 (by omega) ?_
    refine sl_ld (v := (xs (i + 2))) hx hb hX hbl hS (by omega) hL rfl d_L_law_146 ?_
    refine lv_i2l (v := ((xs (i + 2))).toInt64) hx hb d_L_law_147 rfl ?_
    refine lv_bipush (v := (nI 32)) hx hb d_L_law_148 (by decide) ?_
    refine lv_lshl (v := ((((xs (i + 2))).toInt64) <<< (((nI 32)).toInt64 &&& 63))) hx hb d_L_law_150 rfl ?_
    refine lv_aload_n hx hb d_L_law_151 rfl (lv_at hl 1 rfl) ?_
    refine lv_iload hx hb d_L_law_152 (lv_at hl 5 rfl) ?_
    refine lv_iconst (v := (nI 3)) hx hb d_L_law_154 (by decide) ?_
    refine nu_iadd (r := i + 3) hx hb d_L_law_155 (by omega) ?_
    refine sl_ld (v := (xs (i + 3))) hx hb hX hbl hS (by omega) hL rfl d_L_law_156 ?_
    refine lv_i2l (v := ((xs (i + 3))).toInt64) hx hb d_L_law_157 rfl ?_
    refine lv_ldc2 (v := 4294967295) hx hb hown (hg _ k_818) d_L_law_158 ?_
    refine lv_land hx hb d_L_law_161 ?_
    refine lv_lor hx hb d_L_law_162 ?_
    refine va_callv (rn_V (n := 2) (As := [.int (nI k), .long (((((xs (i + 2))).toInt64) <<< (((nI 32)).toInt64 &&& 63)) ||| ((((xs (i + 3))).toInt64) &&& 4294967295))]) (rest := []) (C := R_D) (T := F_D) (N := 36) (ci := 5) X hP hS (c_D_input B0 w1 md μ β k (((xs (i + 2)).toInt64 <<< ((nI 32).toInt64 &&& 63)) ||| ((xs (i + 3)).toInt64 &&& 4294967295)) hj hD1 hQ hp hk) k_704 k_705 k_706 k_58 k_707 (by decide +kernel) rfl rfl ⟨Nat.le_of_ble_eq_true rfl, Nat.le_of_ble_eq_true rfl⟩ r36 rfl rfl hl.1 rfl (Nat.le_of_ble_eq_true rfl) d_L_law_163 ⟨(show _ ≤ 601024 by omega), (show _ ≤ 7293034 by omega)⟩) hS (fun q _ h => h) (fun q h => h) (fun w2 tS H locs ht hvm hw hB hz1 hk1 hS => ?_)
    have hP : fw_P (dC, dI) cls_ (AA s) w2 H := by rw [← ht]; exact hB
    have hM9 := hw
    obtain ⟨μ2, hD2, hQ2, ht2, hR2, ho22⟩ := md_step hDJ hR1 ho11 hf11 hM9
    have r36 := hD2.1
    refine lv_aload_n hx hb d_L_law_166 rfl (lv_at hl 3 rfl) ?_
    refine va_calli (rn_V (n := 0) (As := []) (rest := []) (C := R_D) (T := F_D) (N := 36) (ci := 5) X hP hS (c_D_thrown B0 w2 md μ2 hj hD2) k_700 k_701 k_702 k_58 k_703 (by decide +kernel) rfl rfl ⟨Nat.le_of_ble_eq_true rfl, Nat.le_of_ble_eq_true rfl⟩ r36 rfl rfl hl.1 rfl (Nat.le_of_ble_eq_true rfl) d_L_law_167 ⟨(show _ ≤ 601024 by omega), (show _ ≤ 7293034 by omega)⟩) hS (fun q _ h => h) (fun q h => h) (fun r w3 tS H locs ht hvm hw hB hz1 hk1 hS => ?_)
    have hP : fw_P (dC, dI) cls_ (AA s) w3 H := by rw [← ht]; exact hB
    obtain ⟨e9, rfl⟩ := hw
    rw [e9] at hP
    rw [ht2]
    refine lv_iload hx hb d_L_law_170 (lv_at hl 0 rfl) ?_
    refine nu_eq (tgt := 177) hx hb (by omega) (by omega) d_L_law_172 (by decide) (fun c1 => ?_) (fun c1 => ?_)
    · refine lv_goto (tgt := 794) hx hb d_L_law_177 (by decide) ?_
      refine W.widen (k := cells + 37) (n := slots + 138) (by omega) (by omega) ?_
      exact kk w2 (bInput k (((xs (i + 2)).toInt64 <<< ((nI 32).toInt64 &&& 63)) ||| ((xs (i + 3)).toInt64 &&& 4294967295)) β) H locs ls ⟨Fz1, μ2, fo, hR2, hD2, hQ2, hO.input hk, ho22, hf11, hf12⟩ hP hS (lv_sub hl [1, 2, 3, 4, 5] rfl)
    · exact absurd rfl c1
  · refine lv_aload_n hx hb d_L_law_100 rfl (lv_at hl 1 rfl) ?_
    refine lv_aload_n hx hb d_L_law_101 rfl (lv_at hl 0 rfl) ?_
    refine lv_iload hx hb d_L_law_102 (lv_at hl 4 rfl) ?_
    refine lv_iconst (v := (nI 1)) hx hb d_L_law_104 (by decide) ?_
    refine nu_iadd (r := i + 1) hx hb d_L_law_105 (by omega) ?_
    refine sl_ld (v := (xs (i + 1))) hx hb hX hbl hS (by omega) hL rfl d_L_law_106 ?_
    refine lv_aload_n hx hb d_L_law_107 rfl (lv_at hl 0 rfl) ?_
    refine lv_iload hx hb d_L_law_108 (lv_at hl 4 rfl) ?_
    refine lv_iconst (v := (nI 2)) hx hb d_L_law_110 (by decide) ?_
    refine nu_iadd (r := i + 2) hx hb d_L_law_111 (by omega) ?_
    refine sl_ld (v := (xs (i + 2))) hx hb hX hbl hS (by omega) hL rfl d_L_law_112 ?_
    refine lv_i2l (v := ((xs (i + 2))).toInt64) hx hb d_L_law_113 rfl ?_
    refine lv_bipush (v := (nI 32)) hx hb d_L_law_114 (by decide) ?_
    refine lv_lshl (v := ((((xs (i + 2))).toInt64) <<< (((nI 32)).toInt64 &&& 63))) hx hb d_L_law_116 rfl ?_
    refine lv_aload_n hx hb d_L_law_117 rfl (lv_at hl 0 rfl) ?_
    refine lv_iload hx hb d_L_law_118 (lv_at hl 4 rfl) ?_
    refine lv_iconst (v := (nI 3)) hx hb d_L_law_120 (by decide) ?_
    refine nu_iadd (r := i + 3) hx hb d_L_law_121 (by omega) ?_
    refine sl_ld (v := (xs (i + 3))) hx hb hX hbl hS (by omega) hL rfl d_L_law_122 ?_
    refine lv_i2l (v := ((xs (i + 3))).toInt64) hx hb d_L_law_123 rfl ?_
    refine lv_ldc2 (v := 4294967295) hx hb hown (hg _ k_818) d_L_law_124 ?_
    refine lv_land hx hb d_L_law_127 ?_
    refine lv_lor hx hb d_L_law_128 ?_
    refine va_calli (rn_SW (n := 3) (As := [.ref (AD 27), .int (xs (i + 1)), .long (((((xs (i + 2))).toInt64) <<< (((nI 32)).toInt64 &&& 63)) ||| ((((xs (i + 3))).toInt64) &&& 4294967295))]) (rest := []) X hP hS (h_inputX B0 X0 hlt w AD Fz β (xs (i + 1)) (((xs (i + 2)).toInt64 <<< ((nI 32).toInt64 &&& 63)) ||| ((xs (i + 3)).toInt64 &&& 4294967295)) hinj hR ho) k_195 k_196 k_53 k_197 (by decide +kernel) rfl rfl ⟨Nat.le_of_ble_eq_true rfl, Nat.le_of_ble_eq_true rfl⟩ rfl hl.1 rfl (Nat.le_of_ble_eq_true rfl) d_L_law_129 ⟨(show cells + 1 ≤ 601024 by omega), (show slots + 6 ≤ 7293034 by omega)⟩) hS (fun q _ h => h) (fun q h => h) (fun r w4 tS H locs ht hvm hw hB hz1 hk1 hS => ?_)
    have hP : fw_P (dC, dI) cls_ (AA s) w4 H := by rw [← ht]; exact hB
    obtain ⟨rfl, hv8⟩ := hw
    have hv9 : VL dA AD ou Fz w w4 β fo := hv8.keepO ho1 dj2
    obtain ⟨Fz1, hR1, hD1, ho11, hf11, hf12⟩ := cl_step hDJ hD ho1 hf1 hf2 hv9
    have r36 := hD1.1
    refine lv_istore (lv' := [(5, .int (nI 1)), (0, .ref b), (1, .ref (AD 27)), (2, .ref (md 36)), (3, .ref ou), (4, .int (nI i))]) hx hb d_L_law_132 hl (by decide) rfl (fun ls hl => ?_)
    refine lv_aload_n hx hb d_L_law_134 rfl (lv_at hl 3 rfl) ?_
    refine lv_aload_n hx hb d_L_law_135 rfl (lv_at hl 1 rfl) ?_
    refine lv_iload hx hb d_L_law_136 (lv_at hl 5 rfl) ?_
    refine lv_iconst (v := (nI 1)) hx hb d_L_law_138 (by decide) ?_
    refine nu_iadd (r := i + 1) hx hb d_L_law_139 (by omega) ?_
    refine sl_ld (v := (xs (i + 1))) hx hb hX hbl hS (by omega) hL rfl d_L_law_140 ?_
    refine lv_aload_n hx hb d_L_law_141 rfl (lv_at hl 1 rfl) ?_
    refine lv_iload hx hb d_L_law_142 (lv_at hl 5 rfl) ?_
    refine lv_iconst (v := (nI 2)) hx hb d_L_law_144 (by decide) ?_
    refine nu_iadd (r := i + 2) hx hb d_L_law_145 (by omega) ?_
    refine sl_ld (v := (xs (i + 2))) hx hb hX hbl hS (by omega) hL rfl d_L_law_146 ?_
    refine lv_i2l (v := ((xs (i + 2))).toInt64) hx hb d_L_law_147 rfl ?_
    refine lv_bipush (v := (nI 32)) hx hb d_L_law_148 (by decide) ?_
    refine lv_lshl (v := ((((xs (i + 2))).toInt64) <<< (((nI 32)).toInt64 &&& 63))) hx hb d_L_law_150 rfl ?_
    refine lv_aload_n hx hb d_L_law_151 rfl (lv_at hl 1 rfl) ?_
    refine lv_iload hx hb d_L_law_152 (lv_at hl 5 rfl) ?_
    refine lv_iconst (v := (nI 3)) hx hb d_L_law_154 (by decide) ?_
    refine nu_iadd (r := i + 3) hx hb d_L_law_155 (by omega) ?_
    refine sl_ld (v := (xs (i + 3))) hx hb hX hbl hS (by omega) hL rfl d_L_law_156 ?_
    refine lv_i2l (v := ((xs (i + 3))).toInt64) hx hb d_L_law_157 rfl ?_
    refine lv_ldc2 (v := 4294967295) hx hb hown (hg _ k_818) d_L_law_158 ?_
    refine lv_land hx hb d_L_law_161 ?_
    refine lv_lor hx hb d_L_law_162 ?_
    refine va_callv (rn_V (n := 2) (As := [.int (xs (i + 1)), .long (((((xs (i + 2))).toInt64) <<< (((nI 32)).toInt64 &&& 63)) ||| ((((xs (i + 3))).toInt64) &&& 4294967295))]) (rest := []) (C := R_D) (T := F_D) (N := 36) (ci := 5) X hP hS (c_D_inputX B0 w4 md μ β (xs (i + 1)) (((xs (i + 2)).toInt64 <<< ((nI 32).toInt64 &&& 63)) ||| ((xs (i + 3)).toInt64 &&& 4294967295)) hj hD1 hQ ho) k_704 k_705 k_706 k_58 k_707 (by decide +kernel) rfl rfl ⟨Nat.le_of_ble_eq_true rfl, Nat.le_of_ble_eq_true rfl⟩ r36 rfl rfl hl.1 rfl (Nat.le_of_ble_eq_true rfl) d_L_law_163 ⟨(show _ ≤ 601024 by omega), (show _ ≤ 7293034 by omega)⟩) hS (fun q _ h => h) (fun q h => h) (fun w5 tS H locs ht hvm hw hB hz1 hk1 hS => ?_)
    have hP : fw_P (dC, dI) cls_ (AA s) w5 H := by rw [← ht]; exact hB
    have hM9 := hw
    obtain ⟨μ2, hD2, hQ2, ht2, hR2, ho22⟩ := md_step hDJ hR1 ho11 hf11 hM9
    have r36 := hD2.1
    refine lv_aload_n hx hb d_L_law_166 rfl (lv_at hl 3 rfl) ?_
    refine va_calli (rn_V (n := 0) (As := []) (rest := []) (C := R_D) (T := F_D) (N := 36) (ci := 5) X hP hS (c_D_thrown B0 w5 md μ2 hj hD2) k_700 k_701 k_702 k_58 k_703 (by decide +kernel) rfl rfl ⟨Nat.le_of_ble_eq_true rfl, Nat.le_of_ble_eq_true rfl⟩ r36 rfl rfl hl.1 rfl (Nat.le_of_ble_eq_true rfl) d_L_law_167 ⟨(show _ ≤ 601024 by omega), (show _ ≤ 7293034 by omega)⟩) hS (fun q _ h => h) (fun q h => h) (fun r w6 tS H locs ht hvm hw hB hz1 hk1 hS => ?_)
    have hP : fw_P (dC, dI) cls_ (AA s) w6 H := by rw [← ht]; exact hB
    obtain ⟨e9, rfl⟩ := hw
    rw [e9] at hP
    rw [ht2]
    refine lv_iload hx hb d_L_law_170 (lv_at hl 0 rfl) ?_
    refine nu_eq (tgt := 177) hx hb (by omega) (by omega) d_L_law_172 (by decide) (fun c1 => ?_) (fun c1 => ?_)
    · refine lv_goto (tgt := 794) hx hb d_L_law_177 (by decide) ?_
      refine W.widen (k := cells + 37) (n := slots + 138) (by omega) (by omega) ?_
      exact kk w5 β H locs ls ⟨Fz1, μ2, fo, hR2, hD2, hQ2, hO, ho22, hf11, hf12⟩ hP hS (lv_sub hl [1, 2, 3, 4, 5] rfl)
    · exact absurd rfl c1
set_option maxHeartbeats 4000000 in
set_option maxRecDepth 100000 in
theorem lo_task {p : Program} {l : Launch} {e : Env} {s : State} {m : MethodId} {below : List Frame} {meth : Method} {c : Code} {dC : Nat → ClassId} {dI : Nat → Nat → Nat} {dA : Nat → ClassId} {b L : Nat} {xs : Nat → Int32} {AD md : Nat → Nat} {ou : Nat} (C : LX p l s m meth c dC dI dA b L xs AD md ou) {cells slots : Nat} (hcl : cells + 37 ≤ 601024) (hsl : slots + 138 ≤ 7293034) {i : Nat} (hi : i + 6 ≤ L) {w : fw_W} {β : BS} {H : Heap} {locs : List Loc} {ls : Array Slot} (S0 : LSt dA AD md ou w β) (hP : fw_P (dC, dI) cls_ (AA s) w H) (hS : va_S (AA s) s.heap H locs) (hl : lv_has ls 8 (LLoc AD md ou b i)) (kk : KK p l e s m below meth c dC dI dA b AD md ou i (cells + 37) (slots + 138)) : W p l e room_1 s m #[Value.ref b] below meth c H locs cells slots (lw_Z below #[Value.ref b] s) (F0 m 180 ls []) := by
  obtain ⟨X, B0, X0, hlt, hX, hbl, hL, hDJ⟩ := C
  have X9 := X
  obtain ⟨hx, hb, hr, hml, hown, hg, hK, hn, hE, hlocks, hA⟩ := X9
  obtain ⟨hinj, hj, dj1, dj2, dj3⟩ := (id hDJ)
  obtain ⟨Fz, μ, fo, hR, hD, hQ, hO, ho1, hf1, hf2⟩ := S0
  have hp := RB.pok hR
  have hl : lv_has ls 8 [(0, .ref b), (1, .ref (AD 27)), (2, .ref (md 36)), (3, .ref ou), (4, .int (nI i))] := hl
  by_cases ho : okT (xs (i + 1)) (xs (i + 2)) (xs (i + 3)) (xs (i + 4)) (xs (i + 5))
  · obtain ⟨⟨k, hk, hek⟩, ru, her, hT9⟩ := ho
    refine lv_aload_n hx hb d_L_law_180 rfl (lv_at hl 1 rfl) ?_
    refine lv_aload_n hx hb d_L_law_181 rfl (lv_at hl 0 rfl) ?_
    refine lv_iload hx hb d_L_law_182 (lv_at hl 4 rfl) ?_
    refine lv_iconst (v := (nI 1)) hx hb d_L_law_184 (by decide) ?_
    refine nu_iadd (r := i + 1) hx hb d_L_law_185 (by omega) ?_
    refine sl_ld (v := (nI k)) hx hb hX hbl hS (by omega) hL hek d_L_law_186 ?_
    refine lv_aload_n hx hb d_L_law_187 rfl (lv_at hl 0 rfl) ?_
    refine lv_iload hx hb d_L_law_188 (lv_at hl 4 rfl) ?_
    refine lv_iconst (v := (nI 2)) hx hb d_L_law_190 (by decide) ?_
    refine nu_iadd (r := i + 2) hx hb d_L_law_191 (by omega) ?_
    refine sl_ld (v := (nI ru)) hx hb hX hbl hS (by omega) hL her d_L_law_192 ?_
    refine lv_aload_n hx hb d_L_law_193 rfl (lv_at hl 0 rfl) ?_
    refine lv_iload hx hb d_L_law_194 (lv_at hl 4 rfl) ?_
    refine lv_iconst (v := (nI 3)) hx hb d_L_law_196 (by decide) ?_
    refine nu_iadd (r := i + 3) hx hb d_L_law_197 (by omega) ?_
    refine sl_ld (v := (xs (i + 3))) hx hb hX hbl hS (by omega) hL rfl d_L_law_198 ?_
    refine lv_aload_n hx hb d_L_law_199 rfl (lv_at hl 0 rfl) ?_
    refine lv_iload hx hb d_L_law_200 (lv_at hl 4 rfl) ?_
    refine lv_iconst (v := (nI 4)) hx hb d_L_law_202 (by decide) ?_
    refine nu_iadd (r := i + 4) hx hb d_L_law_203 (by omega) ?_
    refine sl_ld (v := (xs (i + 4))) hx hb hX hbl hS (by omega) hL rfl d_L_law_204 ?_
    refine lv_aload_n hx hb d_L_law_205 rfl (lv_at hl 0 rfl) ?_
    refine lv_iload hx hb d_L_law_206 (lv_at hl 4 rfl) ?_
    refine lv_iconst (v := (nI 5)) hx hb d_L_law_208 (by decide) ?_
    refine nu_iadd (r := i + 5) hx hb d_L_law_209 (by omega) ?_
    refine sl_ld (v := (xs (i + 5))) hx hb hX hbl hS (by omega) hL rfl d_L_law_210 ?_
    refine va_calli (rn_SW (n := 6) (As := [.ref (AD 27), .int (nI k), .int (nI ru), .int (xs (i + 3)), .int (xs (i + 4)), .int (xs (i + 5))]) (rest := []) X hP hS (h_task B0 X0 hlt w AD Fz β k ru (xs (i + 3)) (xs (i + 4)) (xs (i + 5)) hinj hR hk hT9) k_290 k_291 k_53 k_292 (by decide +kernel) rfl rfl ⟨Nat.le_of_ble_eq_true rfl, Nat.le_of_ble_eq_true rfl⟩ rfl hl.1 rfl (Nat.le_of_ble_eq_true rfl) d_L_law_211 ⟨(show cells + 0 ≤ 601024 by omega), (show slots + 0 ≤ 7293034 by omega)⟩) hS (fun q _ h => h) (fun q h => h) (fun r w7 tS H locs ht hvm hw hB hz1 hk1 hS => ?_)
    have hP : fw_P (dC, dI) cls_ (AA s) w7 H := by rw [← ht]; exact hB
    obtain ⟨rfl, hv8⟩ := hw
    have hv9 : VL dA AD ou Fz w w7 (bTask k ru (xs (i + 3)) (xs (i + 4)) (xs (i + 5)) β) fo := hv8.keepO ho1 dj2
    obtain ⟨Fz1, hR1, hD1, ho11, hf11, hf12⟩ := cl_step hDJ hD ho1 hf1 hf2 hv9
    have r36 := hD1.1
    refine lv_istore (lv' := [(5, .int (nI 0)), (0, .ref b), (1, .ref (AD 27)), (2, .ref (md 36)), (3, .ref ou), (4, .int (nI i))]) hx hb d_L_law_214 hl (by decide) rfl (fun ls hl => ?_)
    refine lv_aload_n hx hb d_L_law_216 rfl (lv_at hl 3 rfl) ?_
    refine lv_aload_n hx hb d_L_law_217 rfl (lv_at hl 1 rfl) ?_
    refine lv_iload hx hb d_L_law_218 (lv_at hl 5 rfl) ?_
    refine lv_iconst (v := (nI 1)) hx hb d_L_law_220 (by decide) ?_
    refine nu_iadd (r := i + 1) hx hb d_L_law_221 (by omega) ?_
    refine sl_ld (v := (nI k)) hx hb hX hbl hS (by omega) hL hek d_L_law_222 ?_
    refine lv_aload_n hx hb d_L_law_223 rfl (lv_at hl 1 rfl) ?_
    refine lv_iload hx hb d_L_law_224 (lv_at hl 5 rfl) ?_
    refine lv_iconst (v := (nI 2)) hx hb d_L_law_226 (by decide) ?_
    refine nu_iadd (r := i + 2) hx hb d_L_law_227 (by omega) ?_
    refine sl_ld (v := (nI ru)) hx hb hX hbl hS (by omega) hL her d_L_law_228 ?_
    refine lv_aload_n hx hb d_L_law_229 rfl (lv_at hl 1 rfl) ?_
    refine lv_iload hx hb d_L_law_230 (lv_at hl 5 rfl) ?_
    refine lv_iconst (v := (nI 3)) hx hb d_L_law_232 (by decide) ?_
    refine nu_iadd (r := i + 3) hx hb d_L_law_233 (by omega) ?_
    refine sl_ld (v := (xs (i + 3))) hx hb hX hbl hS (by omega) hL rfl d_L_law_234 ?_
    refine lv_aload_n hx hb d_L_law_235 rfl (lv_at hl 1 rfl) ?_
    refine lv_iload hx hb d_L_law_236 (lv_at hl 5 rfl) ?_
    refine lv_iconst (v := (nI 4)) hx hb d_L_law_238 (by decide) ?_
    refine nu_iadd (r := i + 4) hx hb d_L_law_239 (by omega) ?_
    refine sl_ld (v := (xs (i + 4))) hx hb hX hbl hS (by omega) hL rfl d_L_law_240 ?_
    refine lv_aload_n hx hb d_L_law_241 rfl (lv_at hl 1 rfl) ?_
    refine lv_iload hx hb d_L_law_242 (lv_at hl 5 rfl) ?_
    refine lv_iconst (v := (nI 5)) hx hb d_L_law_244 (by decide) ?_
    refine nu_iadd (r := i + 5) hx hb d_L_law_245 (by omega) ?_
    refine sl_ld (v := (xs (i + 5))) hx hb hX hbl hS (by omega) hL rfl d_L_law_246 ?_
    refine va_callv (rn_V (n := 5) (As := [.int (nI k), .int (nI ru), .int (xs (i + 3)), .int (xs (i + 4)), .int (xs (i + 5))]) (rest := []) (C := R_D) (T := F_D) (N := 36) (ci := 5) X hP hS (c_D_task B0 w7 md μ β (nI k) (nI ru) (xs (i + 3)) (xs (i + 4)) (xs (i + 5)) hj hD1 hQ hp) k_719 k_720 k_721 k_58 k_722 (by decide +kernel) rfl rfl ⟨Nat.le_of_ble_eq_true rfl, Nat.le_of_ble_eq_true rfl⟩ r36 rfl rfl hl.1 rfl (Nat.le_of_ble_eq_true rfl) d_L_law_247 ⟨(show _ ≤ 601024 by omega), (show _ ≤ 7293034 by omega)⟩) hS (fun q _ h => h) (fun q h => h) (fun w8 tS H locs ht hvm hw hB hz1 hk1 hS => ?_)
    have hP : fw_P (dC, dI) cls_ (AA s) w8 H := by rw [← ht]; exact hB
    have hM9 := hw.2 k ru hk rfl rfl hT9
    obtain ⟨μ2, hD2, hQ2, ht2, hR2, ho22⟩ := md_step hDJ hR1 ho11 hf11 hM9
    have r36 := hD2.1
    refine lv_aload_n hx hb d_L_law_250 rfl (lv_at hl 3 rfl) ?_
    refine va_calli (rn_V (n := 0) (As := []) (rest := []) (C := R_D) (T := F_D) (N := 36) (ci := 5) X hP hS (c_D_thrown B0 w8 md μ2 hj hD2) k_700 k_701 k_702 k_58 k_703 (by decide +kernel) rfl rfl ⟨Nat.le_of_ble_eq_true rfl, Nat.le_of_ble_eq_true rfl⟩ r36 rfl rfl hl.1 rfl (Nat.le_of_ble_eq_true rfl) d_L_law_251 ⟨(show _ ≤ 601024 by omega), (show _ ≤ 7293034 by omega)⟩) hS (fun q _ h => h) (fun q h => h) (fun r w9 tS H locs ht hvm hw hB hz1 hk1 hS => ?_)
    have hP : fw_P (dC, dI) cls_ (AA s) w9 H := by rw [← ht]; exact hB
    obtain ⟨e9, rfl⟩ := hw
    rw [e9] at hP
    rw [ht2]
    refine lv_iload hx hb d_L_law_254 (lv_at hl 0 rfl) ?_
    refine nu_eq (tgt := 261) hx hb (by omega) (by omega) d_L_law_256 (by decide) (fun c1 => ?_) (fun c1 => ?_)
    · refine lv_goto (tgt := 794) hx hb d_L_law_261 (by decide) ?_
      refine W.widen (k := cells + 37) (n := slots + 138) (by omega) (by omega) ?_
      exact kk w8 (bTask k ru (xs (i + 3)) (xs (i + 4)) (xs (i + 5)) β) H locs ls ⟨Fz1, μ2, fo, hR2, hD2, hQ2, hO.task hk, ho22, hf11, hf12⟩ hP hS (lv_sub hl [1, 2, 3, 4, 5] rfl)
    · exact absurd rfl c1
  · refine lv_aload_n hx hb d_L_law_180 rfl (lv_at hl 1 rfl) ?_
    refine lv_aload_n hx hb d_L_law_181 rfl (lv_at hl 0 rfl) ?_
    refine lv_iload hx hb d_L_law_182 (lv_at hl 4 rfl) ?_
    refine lv_iconst (v := (nI 1)) hx hb d_L_law_184 (by decide) ?_
    refine nu_iadd (r := i + 1) hx hb d_L_law_185 (by omega) ?_
    refine sl_ld (v := (xs (i + 1))) hx hb hX hbl hS (by omega) hL rfl d_L_law_186 ?_
    refine lv_aload_n hx hb d_L_law_187 rfl (lv_at hl 0 rfl) ?_
    refine lv_iload hx hb d_L_law_188 (lv_at hl 4 rfl) ?_
    refine lv_iconst (v := (nI 2)) hx hb d_L_law_190 (by decide) ?_
    refine nu_iadd (r := i + 2) hx hb d_L_law_191 (by omega) ?_
    refine sl_ld (v := (xs (i + 2))) hx hb hX hbl hS (by omega) hL rfl d_L_law_192 ?_
    refine lv_aload_n hx hb d_L_law_193 rfl (lv_at hl 0 rfl) ?_
    refine lv_iload hx hb d_L_law_194 (lv_at hl 4 rfl) ?_
    refine lv_iconst (v := (nI 3)) hx hb d_L_law_196 (by decide) ?_
    refine nu_iadd (r := i + 3) hx hb d_L_law_197 (by omega) ?_
    refine sl_ld (v := (xs (i + 3))) hx hb hX hbl hS (by omega) hL rfl d_L_law_198 ?_
    refine lv_aload_n hx hb d_L_law_199 rfl (lv_at hl 0 rfl) ?_
    refine lv_iload hx hb d_L_law_200 (lv_at hl 4 rfl) ?_
    refine lv_iconst (v := (nI 4)) hx hb d_L_law_202 (by decide) ?_
    refine nu_iadd (r := i + 4) hx hb d_L_law_203 (by omega) ?_
    refine sl_ld (v := (xs (i + 4))) hx hb hX hbl hS (by omega) hL rfl d_L_law_204 ?_
    refine lv_aload_n hx hb d_L_law_205 rfl (lv_at hl 0 rfl) ?_
    refine lv_iload hx hb d_L_law_206 (lv_at hl 4 rfl) ?_
    refine lv_iconst (v := (nI 5)) hx hb d_L_law_208 (by decide) ?_
    refine nu_iadd (r := i + 5) hx hb d_L_law_209 (by omega) ?_
    refine sl_ld (v := (xs (i + 5))) hx hb hX hbl hS (by omega) hL rfl d_L_law_210 ?_
    refine va_calli (rn_SW (n := 6) (As := [.ref (AD 27), .int (xs (i + 1)), .int (xs (i + 2)), .int (xs (i + 3)), .int (xs (i + 4)), .int (xs (i + 5))]) (rest := []) X hP hS (h_taskX B0 X0 hlt w AD Fz β (xs (i + 1)) (xs (i + 2)) (xs (i + 3)) (xs (i + 4)) (xs (i + 5)) hinj hR ho) k_290 k_291 k_53 k_292 (by decide +kernel) rfl rfl ⟨Nat.le_of_ble_eq_true rfl, Nat.le_of_ble_eq_true rfl⟩ rfl hl.1 rfl (Nat.le_of_ble_eq_true rfl) d_L_law_211 ⟨(show cells + 1 ≤ 601024 by omega), (show slots + 6 ≤ 7293034 by omega)⟩) hS (fun q _ h => h) (fun q h => h) (fun r w10 tS H locs ht hvm hw hB hz1 hk1 hS => ?_)
    have hP : fw_P (dC, dI) cls_ (AA s) w10 H := by rw [← ht]; exact hB
    obtain ⟨rfl, hv8⟩ := hw
    have hv9 : VL dA AD ou Fz w w10 β fo := hv8.keepO ho1 dj2
    obtain ⟨Fz1, hR1, hD1, ho11, hf11, hf12⟩ := cl_step hDJ hD ho1 hf1 hf2 hv9
    have r36 := hD1.1
    refine lv_istore (lv' := [(5, .int (nI 1)), (0, .ref b), (1, .ref (AD 27)), (2, .ref (md 36)), (3, .ref ou), (4, .int (nI i))]) hx hb d_L_law_214 hl (by decide) rfl (fun ls hl => ?_)
    refine lv_aload_n hx hb d_L_law_216 rfl (lv_at hl 3 rfl) ?_
    refine lv_aload_n hx hb d_L_law_217 rfl (lv_at hl 1 rfl) ?_
    refine lv_iload hx hb d_L_law_218 (lv_at hl 5 rfl) ?_
    refine lv_iconst (v := (nI 1)) hx hb d_L_law_220 (by decide) ?_
    refine nu_iadd (r := i + 1) hx hb d_L_law_221 (by omega) ?_
    refine sl_ld (v := (xs (i + 1))) hx hb hX hbl hS (by omega) hL rfl d_L_law_222 ?_
    refine lv_aload_n hx hb d_L_law_223 rfl (lv_at hl 1 rfl) ?_
    refine lv_iload hx hb d_L_law_224 (lv_at hl 5 rfl) ?_
    refine lv_iconst (v := (nI 2)) hx hb d_L_law_226 (by decide) ?_
    refine nu_iadd (r := i + 2) hx hb d_L_law_227 (by omega) ?_
    refine sl_ld (v := (xs (i + 2))) hx hb hX hbl hS (by omega) hL rfl d_L_law_228 ?_
    refine lv_aload_n hx hb d_L_law_229 rfl (lv_at hl 1 rfl) ?_
    refine lv_iload hx hb d_L_law_230 (lv_at hl 5 rfl) ?_
    refine lv_iconst (v := (nI 3)) hx hb d_L_law_232 (by decide) ?_
    refine nu_iadd (r := i + 3) hx hb d_L_law_233 (by omega) ?_
    refine sl_ld (v := (xs (i + 3))) hx hb hX hbl hS (by omega) hL rfl d_L_law_234 ?_
    refine lv_aload_n hx hb d_L_law_235 rfl (lv_at hl 1 rfl) ?_
    refine lv_iload hx hb d_L_law_236 (lv_at hl 5 rfl) ?_
    refine lv_iconst (v := (nI 4)) hx hb d_L_law_238 (by decide) ?_
    refine nu_iadd (r := i + 4) hx hb d_L_law_239 (by omega) ?_
    refine sl_ld (v := (xs (i + 4))) hx hb hX hbl hS (by omega) hL rfl d_L_law_240 ?_
    refine lv_aload_n hx hb d_L_law_241 rfl (lv_at hl 1 rfl) ?_
    refine lv_iload hx hb d_L_law_242 (lv_at hl 5 rfl) ?_
    refine lv_iconst (v := (nI 5)) hx hb d_L_law_244 (by decide) ?_
    refine nu_iadd (r := i + 5) hx hb d_L_law_245 (by omega) ?_
    refine sl_ld (v := (xs (i + 5))) hx hb hX hbl hS (by omega) hL rfl d_L_law_246 ?_
    refine va_callv (rn_V (n := 5) (As := [.int (xs (i + 1)), .int (xs (i + 2)), .int (xs (i + 3)), .int (xs (i + 4)), .int (xs (i + 5))]) (rest := []) (C := R_D) (T := F_D) (N := 36) (ci := 5) X hP hS (c_D_task B0 w10 md μ β (xs (i + 1)) (xs (i + 2)) (xs (i + 3)) (xs (i + 4)) (xs (i + 5)) hj hD1 hQ hp) k_719 k_720 k_721 k_58 k_722 (by decide +kernel) rfl rfl ⟨Nat.le_of_ble_eq_true rfl, Nat.le_of_ble_eq_true rfl⟩ r36 rfl rfl hl.1 rfl (Nat.le_of_ble_eq_true rfl) d_L_law_247 ⟨(show _ ≤ 601024 by omega), (show _ ≤ 7293034 by omega)⟩) hS (fun q _ h => h) (fun q h => h) (fun w11 tS H locs ht hvm hw hB hz1 hk1 hS => ?_)
    have hP : fw_P (dC, dI) cls_ (AA s) w11 H := by rw [← ht]; exact hB
    have hM9 := hw.1 ho
    obtain ⟨μ2, hD2, hQ2, ht2, hR2, ho22⟩ := md_step hDJ hR1 ho11 hf11 hM9
    have r36 := hD2.1
    refine lv_aload_n hx hb d_L_law_250 rfl (lv_at hl 3 rfl) ?_
    refine va_calli (rn_V (n := 0) (As := []) (rest := []) (C := R_D) (T := F_D) (N := 36) (ci := 5) X hP hS (c_D_thrown B0 w11 md μ2 hj hD2) k_700 k_701 k_702 k_58 k_703 (by decide +kernel) rfl rfl ⟨Nat.le_of_ble_eq_true rfl, Nat.le_of_ble_eq_true rfl⟩ r36 rfl rfl hl.1 rfl (Nat.le_of_ble_eq_true rfl) d_L_law_251 ⟨(show _ ≤ 601024 by omega), (show _ ≤ 7293034 by omega)⟩) hS (fun q _ h => h) (fun q h => h) (fun r w12 tS H locs ht hvm hw hB hz1 hk1 hS => ?_)
    have hP : fw_P (dC, dI) cls_ (AA s) w12 H := by rw [← ht]; exact hB
    obtain ⟨e9, rfl⟩ := hw
    rw [e9] at hP
    rw [ht2]
    refine lv_iload hx hb d_L_law_254 (lv_at hl 0 rfl) ?_
    refine nu_eq (tgt := 261) hx hb (by omega) (by omega) d_L_law_256 (by decide) (fun c1 => ?_) (fun c1 => ?_)
    · refine lv_goto (tgt := 794) hx hb d_L_law_261 (by decide) ?_
      refine W.widen (k := cells + 37) (n := slots + 138) (by omega) (by omega) ?_
      exact kk w11 β H locs ls ⟨Fz1, μ2, fo, hR2, hD2, hQ2, hO, ho22, hf11, hf12⟩ hP hS (lv_sub hl [1, 2, 3, 4, 5] rfl)
    · exact absurd rfl c1
set_option maxHeartbeats 4000000 in
set_option maxRecDepth 100000 in
theorem lo_remove {p : Program} {l : Launch} {e : Env} {s : State} {m : MethodId} {below : List Frame} {meth : Method} {c : Code} {dC : Nat → ClassId} {dI : Nat → Nat → Nat} {dA : Nat → ClassId} {b L : Nat} {xs : Nat → Int32} {AD md : Nat → Nat} {ou : Nat} (C : LX p l s m meth c dC dI dA b L xs AD md ou) {cells slots : Nat} (hcl : cells + 37 ≤ 601024) (hsl : slots + 138 ≤ 7293034) {i : Nat} (hi : i + 6 ≤ L) {w : fw_W} {β : BS} {H : Heap} {locs : List Loc} {ls : Array Slot} (S0 : LSt dA AD md ou w β) (hP : fw_P (dC, dI) cls_ (AA s) w H) (hS : va_S (AA s) s.heap H locs) (hl : lv_has ls 8 (LLoc AD md ou b i)) (kk : KK p l e s m below meth c dC dI dA b AD md ou i (cells + 37) (slots + 138)) : W p l e room_1 s m #[Value.ref b] below meth c H locs cells slots (lw_Z below #[Value.ref b] s) (F0 m 264 ls []) := by
  obtain ⟨X, B0, X0, hlt, hX, hbl, hL, hDJ⟩ := C
  have X9 := X
  obtain ⟨hx, hb, hr, hml, hown, hg, hK, hn, hE, hlocks, hA⟩ := X9
  obtain ⟨hinj, hj, dj1, dj2, dj3⟩ := (id hDJ)
  obtain ⟨Fz, μ, fo, hR, hD, hQ, hO, ho1, hf1, hf2⟩ := S0
  have hp := RB.pok hR
  have hl : lv_has ls 8 [(0, .ref b), (1, .ref (AD 27)), (2, .ref (md 36)), (3, .ref ou), (4, .int (nI i))] := hl
  by_cases ho : okK (xs (i + 1))
  · obtain ⟨k, hk, hek⟩ := ho
    by_cases hkd : p_kd (b_P β) k = 0
    · refine lv_aload_n hx hb d_L_law_264 rfl (lv_at hl 1 rfl) ?_
      refine lv_aload_n hx hb d_L_law_265 rfl (lv_at hl 0 rfl) ?_
      refine lv_iload hx hb d_L_law_266 (lv_at hl 4 rfl) ?_
      refine lv_iconst (v := (nI 1)) hx hb d_L_law_268 (by decide) ?_
      refine nu_iadd (r := i + 1) hx hb d_L_law_269 (by omega) ?_
      refine sl_ld (v := (nI k)) hx hb hX hbl hS (by omega) hL hek d_L_law_270 ?_
      refine va_calli (rn_SW (n := 2) (As := [.ref (AD 27), .int (nI k)]) (rest := []) X hP hS (h_remove0 B0 X0 hlt w AD Fz β k hinj hR hk hkd) k_317 k_318 k_53 k_319 (by decide +kernel) rfl rfl ⟨Nat.le_of_ble_eq_true rfl, Nat.le_of_ble_eq_true rfl⟩ rfl hl.1 rfl (Nat.le_of_ble_eq_true rfl) d_L_law_271 ⟨(show cells + 1 ≤ 601024 by omega), (show slots + 6 ≤ 7293034 by omega)⟩) hS (fun q _ h => h) (fun q h => h) (fun r w13 tS H locs ht hvm hw hB hz1 hk1 hS => ?_)
      have hP : fw_P (dC, dI) cls_ (AA s) w13 H := by rw [← ht]; exact hB
      obtain ⟨rfl, hv8⟩ := hw
      have hv9 : VL dA AD ou Fz w w13 β fo := hv8.keepO ho1 dj2
      obtain ⟨Fz1, hR1, hD1, ho11, hf11, hf12⟩ := cl_step hDJ hD ho1 hf1 hf2 hv9
      have r36 := hD1.1
      refine lv_istore (lv' := [(5, .int (nI 2)), (0, .ref b), (1, .ref (AD 27)), (2, .ref (md 36)), (3, .ref ou), (4, .int (nI i))]) hx hb d_L_law_274 hl (by decide) rfl (fun ls hl => ?_)
      refine lv_aload_n hx hb d_L_law_276 rfl (lv_at hl 3 rfl) ?_
      refine lv_aload_n hx hb d_L_law_277 rfl (lv_at hl 1 rfl) ?_
      refine lv_iload hx hb d_L_law_278 (lv_at hl 5 rfl) ?_
      refine lv_iconst (v := (nI 1)) hx hb d_L_law_280 (by decide) ?_
      refine nu_iadd (r := i + 1) hx hb d_L_law_281 (by omega) ?_
      refine sl_ld (v := (nI k)) hx hb hX hbl hS (by omega) hL hek d_L_law_282 ?_
      refine va_callv (rn_V (n := 1) (As := [.int (nI k)]) (rest := []) (C := R_D) (T := F_D) (N := 36) (ci := 5) X hP hS (c_D_remove0 B0 w13 md μ β k hj hD1 hQ hp hk hO hkd) k_723 k_724 k_725 k_58 k_726 (by decide +kernel) rfl rfl ⟨Nat.le_of_ble_eq_true rfl, Nat.le_of_ble_eq_true rfl⟩ r36 rfl rfl hl.1 rfl (Nat.le_of_ble_eq_true rfl) d_L_law_283 ⟨(show _ ≤ 601024 by omega), (show _ ≤ 7293034 by omega)⟩) hS (fun q _ h => h) (fun q h => h) (fun w14 tS H locs ht hvm hw hB hz1 hk1 hS => ?_)
      have hP : fw_P (dC, dI) cls_ (AA s) w14 H := by rw [← ht]; exact hB
      have hM9 := hw
      obtain ⟨μ2, hD2, hQ2, ht2, hR2, ho22⟩ := md_step hDJ hR1 ho11 hf11 hM9
      have r36 := hD2.1
      refine lv_aload_n hx hb d_L_law_286 rfl (lv_at hl 3 rfl) ?_
      refine va_calli (rn_V (n := 0) (As := []) (rest := []) (C := R_D) (T := F_D) (N := 36) (ci := 5) X hP hS (c_D_thrown B0 w14 md μ2 hj hD2) k_700 k_701 k_702 k_58 k_703 (by decide +kernel) rfl rfl ⟨Nat.le_of_ble_eq_true rfl, Nat.le_of_ble_eq_true rfl⟩ r36 rfl rfl hl.1 rfl (Nat.le_of_ble_eq_true rfl) d_L_law_287 ⟨(show _ ≤ 601024 by omega), (show _ ≤ 7293034 by omega)⟩) hS (fun q _ h => h) (fun q h => h) (fun r w15 tS H locs ht hvm hw hB hz1 hk1 hS => ?_)
      have hP : fw_P (dC, dI) cls_ (AA s) w15 H := by rw [← ht]; exact hB
      obtain ⟨e9, rfl⟩ := hw
      rw [e9] at hP
      rw [ht2]
      refine lv_iload hx hb d_L_law_290 (lv_at hl 0 rfl) ?_
      refine nu_eq (tgt := 297) hx hb (by omega) (by omega) d_L_law_292 (by decide) (fun c1 => ?_) (fun c1 => ?_)
      · refine lv_goto (tgt := 794) hx hb d_L_law_297 (by decide) ?_
        refine W.widen (k := cells + 37) (n := slots + 138) (by omega) (by omega) ?_
        exact kk w14 β H locs ls ⟨Fz1, μ2, fo, hR2, hD2, hQ2, hO, ho22, hf11, hf12⟩ hP hS (lv_sub hl [1, 2, 3, 4, 5] rfl)
      · exact absurd rfl c1
    · refine lv_aload_n hx hb d_L_law_264 rfl (lv_at hl 1 rfl) ?_
      refine lv_aload_n hx hb d_L_law_265 rfl (lv_at hl 0 rfl) ?_
      refine lv_iload hx hb d_L_law_266 (lv_at hl 4 rfl) ?_
      refine lv_iconst (v := (nI 1)) hx hb d_L_law_268 (by decide) ?_
      refine nu_iadd (r := i + 1) hx hb d_L_law_269 (by omega) ?_
      refine sl_ld (v := (nI k)) hx hb hX hbl hS (by omega) hL hek d_L_law_270 ?_
      refine va_calli (rn_SW (n := 2) (As := [.ref (AD 27), .int (nI k)]) (rest := []) X hP hS (h_remove B0 X0 hlt w AD Fz β k hinj hR hk hkd) k_317 k_318 k_53 k_319 (by decide +kernel) rfl rfl ⟨Nat.le_of_ble_eq_true rfl, Nat.le_of_ble_eq_true rfl⟩ rfl hl.1 rfl (Nat.le_of_ble_eq_true rfl) d_L_law_271 ⟨(show cells + 0 ≤ 601024 by omega), (show slots + 0 ≤ 7293034 by omega)⟩) hS (fun q _ h => h) (fun q h => h) (fun r w16 tS H locs ht hvm hw hB hz1 hk1 hS => ?_)
      have hP : fw_P (dC, dI) cls_ (AA s) w16 H := by rw [← ht]; exact hB
      obtain ⟨rfl, hv8⟩ := hw
      have hv9 : VL dA AD ou Fz w w16 (bRemove k β) fo := hv8.keepO ho1 dj2
      obtain ⟨Fz1, hR1, hD1, ho11, hf11, hf12⟩ := cl_step hDJ hD ho1 hf1 hf2 hv9
      have r36 := hD1.1
      refine lv_istore (lv' := [(5, .int (nI 0)), (0, .ref b), (1, .ref (AD 27)), (2, .ref (md 36)), (3, .ref ou), (4, .int (nI i))]) hx hb d_L_law_274 hl (by decide) rfl (fun ls hl => ?_)
      refine lv_aload_n hx hb d_L_law_276 rfl (lv_at hl 3 rfl) ?_
      refine lv_aload_n hx hb d_L_law_277 rfl (lv_at hl 1 rfl) ?_
      refine lv_iload hx hb d_L_law_278 (lv_at hl 5 rfl) ?_
      refine lv_iconst (v := (nI 1)) hx hb d_L_law_280 (by decide) ?_
      refine nu_iadd (r := i + 1) hx hb d_L_law_281 (by omega) ?_
      refine sl_ld (v := (nI k)) hx hb hX hbl hS (by omega) hL hek d_L_law_282 ?_
      refine va_callv (rn_V (n := 1) (As := [.int (nI k)]) (rest := []) (C := R_D) (T := F_D) (N := 36) (ci := 5) X hP hS (c_D_remove B0 w16 md μ β k hj hD1 hQ hp hk hkd) k_723 k_724 k_725 k_58 k_726 (by decide +kernel) rfl rfl ⟨Nat.le_of_ble_eq_true rfl, Nat.le_of_ble_eq_true rfl⟩ r36 rfl rfl hl.1 rfl (Nat.le_of_ble_eq_true rfl) d_L_law_283 ⟨(show _ ≤ 601024 by omega), (show _ ≤ 7293034 by omega)⟩) hS (fun q _ h => h) (fun q h => h) (fun w17 tS H locs ht hvm hw hB hz1 hk1 hS => ?_)
      have hP : fw_P (dC, dI) cls_ (AA s) w17 H := by rw [← ht]; exact hB
      have hM9 := hw
      obtain ⟨μ2, hD2, hQ2, ht2, hR2, ho22⟩ := md_step hDJ hR1 ho11 hf11 hM9
      have r36 := hD2.1
      refine lv_aload_n hx hb d_L_law_286 rfl (lv_at hl 3 rfl) ?_
      refine va_calli (rn_V (n := 0) (As := []) (rest := []) (C := R_D) (T := F_D) (N := 36) (ci := 5) X hP hS (c_D_thrown B0 w17 md μ2 hj hD2) k_700 k_701 k_702 k_58 k_703 (by decide +kernel) rfl rfl ⟨Nat.le_of_ble_eq_true rfl, Nat.le_of_ble_eq_true rfl⟩ r36 rfl rfl hl.1 rfl (Nat.le_of_ble_eq_true rfl) d_L_law_287 ⟨(show _ ≤ 601024 by omega), (show _ ≤ 7293034 by omega)⟩) hS (fun q _ h => h) (fun q h => h) (fun r w18 tS H locs ht hvm hw hB hz1 hk1 hS => ?_)
      have hP : fw_P (dC, dI) cls_ (AA s) w18 H := by rw [← ht]; exact hB
      obtain ⟨e9, rfl⟩ := hw
      rw [e9] at hP
      rw [ht2]
      refine lv_iload hx hb d_L_law_290 (lv_at hl 0 rfl) ?_
      refine nu_eq (tgt := 297) hx hb (by omega) (by omega) d_L_law_292 (by decide) (fun c1 => ?_) (fun c1 => ?_)
      · refine lv_goto (tgt := 794) hx hb d_L_law_297 (by decide) ?_
        refine W.widen (k := cells + 37) (n := slots + 138) (by omega) (by omega) ?_
        exact kk w17 (bRemove k β) H locs ls ⟨Fz1, μ2, fo, hR2, hD2, hQ2, hO.remove hk, ho22, hf11, hf12⟩ hP hS (lv_sub hl [1, 2, 3, 4, 5] rfl)
      · exact absurd rfl c1
  · refine lv_aload_n hx hb d_L_law_264 rfl (lv_at hl 1 rfl) ?_
    refine lv_aload_n hx hb d_L_law_265 rfl (lv_at hl 0 rfl) ?_
    refine lv_iload hx hb d_L_law_266 (lv_at hl 4 rfl) ?_
    refine lv_iconst (v := (nI 1)) hx hb d_L_law_268 (by decide) ?_
    refine nu_iadd (r := i + 1) hx hb d_L_law_269 (by omega) ?_
    refine sl_ld (v := (xs (i + 1))) hx hb hX hbl hS (by omega) hL rfl d_L_law_270 ?_
    refine va_calli (rn_SW (n := 2) (As := [.ref (AD 27), .int (xs (i + 1))]) (rest := []) X hP hS (h_removeX B0 X0 hlt w AD Fz β (xs (i + 1)) hinj hR ho) k_317 k_318 k_53 k_319 (by decide +kernel) rfl rfl ⟨Nat.le_of_ble_eq_true rfl, Nat.le_of_ble_eq_true rfl⟩ rfl hl.1 rfl (Nat.le_of_ble_eq_true rfl) d_L_law_271 ⟨(show cells + 1 ≤ 601024 by omega), (show slots + 6 ≤ 7293034 by omega)⟩) hS (fun q _ h => h) (fun q h => h) (fun r w19 tS H locs ht hvm hw hB hz1 hk1 hS => ?_)
    have hP : fw_P (dC, dI) cls_ (AA s) w19 H := by rw [← ht]; exact hB
    obtain ⟨rfl, hv8⟩ := hw
    have hv9 : VL dA AD ou Fz w w19 β fo := hv8.keepO ho1 dj2
    obtain ⟨Fz1, hR1, hD1, ho11, hf11, hf12⟩ := cl_step hDJ hD ho1 hf1 hf2 hv9
    have r36 := hD1.1
    refine lv_istore (lv' := [(5, .int (nI 1)), (0, .ref b), (1, .ref (AD 27)), (2, .ref (md 36)), (3, .ref ou), (4, .int (nI i))]) hx hb d_L_law_274 hl (by decide) rfl (fun ls hl => ?_)
    refine lv_aload_n hx hb d_L_law_276 rfl (lv_at hl 3 rfl) ?_
    refine lv_aload_n hx hb d_L_law_277 rfl (lv_at hl 1 rfl) ?_
    refine lv_iload hx hb d_L_law_278 (lv_at hl 5 rfl) ?_
    refine lv_iconst (v := (nI 1)) hx hb d_L_law_280 (by decide) ?_
    refine nu_iadd (r := i + 1) hx hb d_L_law_281 (by omega) ?_
    refine sl_ld (v := (xs (i + 1))) hx hb hX hbl hS (by omega) hL rfl d_L_law_282 ?_
    refine va_callv (rn_V (n := 1) (As := [.int (xs (i + 1))]) (rest := []) (C := R_D) (T := F_D) (N := 36) (ci := 5) X hP hS (c_D_removeX B0 w19 md μ β (xs (i + 1)) hj hD1 hQ ho) k_723 k_724 k_725 k_58 k_726 (by decide +kernel) rfl rfl ⟨Nat.le_of_ble_eq_true rfl, Nat.le_of_ble_eq_true rfl⟩ r36 rfl rfl hl.1 rfl (Nat.le_of_ble_eq_true rfl) d_L_law_283 ⟨(show _ ≤ 601024 by omega), (show _ ≤ 7293034 by omega)⟩) hS (fun q _ h => h) (fun q h => h) (fun w20 tS H locs ht hvm hw hB hz1 hk1 hS => ?_)
    have hP : fw_P (dC, dI) cls_ (AA s) w20 H := by rw [← ht]; exact hB
    have hM9 := hw
    obtain ⟨μ2, hD2, hQ2, ht2, hR2, ho22⟩ := md_step hDJ hR1 ho11 hf11 hM9
    have r36 := hD2.1
    refine lv_aload_n hx hb d_L_law_286 rfl (lv_at hl 3 rfl) ?_
    refine va_calli (rn_V (n := 0) (As := []) (rest := []) (C := R_D) (T := F_D) (N := 36) (ci := 5) X hP hS (c_D_thrown B0 w20 md μ2 hj hD2) k_700 k_701 k_702 k_58 k_703 (by decide +kernel) rfl rfl ⟨Nat.le_of_ble_eq_true rfl, Nat.le_of_ble_eq_true rfl⟩ r36 rfl rfl hl.1 rfl (Nat.le_of_ble_eq_true rfl) d_L_law_287 ⟨(show _ ≤ 601024 by omega), (show _ ≤ 7293034 by omega)⟩) hS (fun q _ h => h) (fun q h => h) (fun r w21 tS H locs ht hvm hw hB hz1 hk1 hS => ?_)
    have hP : fw_P (dC, dI) cls_ (AA s) w21 H := by rw [← ht]; exact hB
    obtain ⟨e9, rfl⟩ := hw
    rw [e9] at hP
    rw [ht2]
    refine lv_iload hx hb d_L_law_290 (lv_at hl 0 rfl) ?_
    refine nu_eq (tgt := 297) hx hb (by omega) (by omega) d_L_law_292 (by decide) (fun c1 => ?_) (fun c1 => ?_)
    · refine lv_goto (tgt := 794) hx hb d_L_law_297 (by decide) ?_
      refine W.widen (k := cells + 37) (n := slots + 138) (by omega) (by omega) ?_
      exact kk w20 β H locs ls ⟨Fz1, μ2, fo, hR2, hD2, hQ2, hO, ho22, hf11, hf12⟩ hP hS (lv_sub hl [1, 2, 3, 4, 5] rfl)
    · exact absurd rfl c1
