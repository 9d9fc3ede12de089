theorem kp_up (fa fb : Nat → Int32) (i : Nat) : upd (fun j => if j < i then fa j else fb j) i (fa i) = fun j => if j < i + 1 then fa j else fb j := by
  funext j
  by_cases e : j = i
  · rw [e, pk_us, if_pos (by omega)]
  · rw [pk_un e]
    by_cases h : j < i
    · rw [if_pos h, if_pos (by omega)]
    · rw [if_neg h, if_neg (by omega)]
set_option maxHeartbeats 4000000 in
set_option maxRecDepth 100000 in
theorem c_D_wanted {l : Launch} {s0 : State} {dC : Nat → ClassId} {dI : Nat → Nat → Nat} {dA : Nat → ClassId} (B0 : BB s0 dC dI dA) (w : fw_W) (md : Nat → Nat) (μ : MS) (f : Nat) (hj : Inj37 md) (hD : RD dA md w μ) (hf : f < 13) (hk : m_key μ f < 12) (hr : m_rule μ (m_key μ f) < 10) (ha : m_asked μ f < 100) (ha3 : (m_rule μ (m_key μ f) < 2 ∨ m_rule μ (m_key μ f) = 6) → m_asked μ f ≤ 3) : Met l y_D_wanted [.code y_D_wanted b_D_wanted 8 (some .int)] ({ frames := 1, cells := 0, slots := 0, locals := 30 }) (mP s0 dC dI w [.ref (md 36), .int (nI f)]) (mQi s0 dC dI (fun r w' => w' = w ∧ r = dWant μ f)) 0 0 (AA s0) := by
  have hr10 := hr
  refine mt_ofW B0 (by decide) (Nat.le_of_ble_eq_true rfl) (fun p e s m args below meth c ls hargs X hin hl hP => ?_)
  have X9 := X
  obtain ⟨hx, hb, hr, hml, hown, hg, hK, hn, hE, hlocks, hA⟩ := X9
  have hS : va_S (AA s0) s.heap s.heap [] := va_S.rf
  have hl : lv_has ls 8 [(0, .ref (md 36)), (1, .int (nI f))] := hl
  obtain ⟨r36, r0, r1, r2, r3, r4, r5, r6, r7, r8, ⟨u, r9⟩, r10, r11, r12, r13, r14, r15, r23, r24, r25, r26, r27, r28, r29, r30, r31, r32, r33, r34⟩ := (id hD)
  refine lv_aload_n hx hb d_D_wanted_0 rfl (lv_at hl 0 rfl) ?_
  refine va_get (D := (dC, dI)) (ci := 5) (v := .ref (md 25)) (C := R_D) (T := F_D) (N := 36) hx hb hg in_D hown hK (hP.one r36) 0 rfl rfl 25 (by decide) (hg _ k_616) (fun _ h9 => h9) rfl d_D_wanted_1 ?_
  refine lv_iload_n hx hb d_D_wanted_4 rfl (lv_at hl 1 rfl) ?_
  refine fw_iald (tys := tyl dA) hx hb hK hP r25 0 rfl (j := f) (by omega) (by decide) d_D_wanted_5 ?_
  refine lv_istore_n (lv' := [(2, .int (nI ((m_key μ) f))), (0, .ref (md 36)), (1, .int (nI f))]) hx hb d_D_wanted_6 rfl hl (by decide) rfl (fun ls hl => ?_)
  refine lv_aload_n hx hb d_D_wanted_7 rfl (lv_at hl 1 rfl) ?_
  refine va_get (D := (dC, dI)) (ci := 5) (v := .ref (md 1)) (C := R_D) (T := F_D) (N := 36) hx hb hg in_D hown hK (hP.one r36) 0 rfl rfl 1 (by decide) (hg _ k_592) (fun _ h9 => h9) rfl d_D_wanted_8 ?_
  refine lv_iload_n hx hb d_D_wanted_11 rfl (lv_at hl 0 rfl) ?_
  refine fw_iald (tys := tyl dA) hx hb hK hP r1 0 rfl (j := (m_key μ) f) (by omega) (by decide) d_D_wanted_12 ?_
  refine lv_istore_n (lv' := [(3, .int (nI ((m_rule μ) ((m_key μ) f)))), (2, .int (nI ((m_key μ) f))), (0, .ref (md 36)), (1, .int (nI f))]) hx hb d_D_wanted_13 rfl hl (by decide) rfl (fun ls hl => ?_)
  refine lv_aload_n hx hb d_D_wanted_14 rfl (lv_at hl 2 rfl) ?_
  refine va_get (D := (dC, dI)) (ci := 5) (v := .ref (md 32)) (C := R_D) (T := F_D) (N := 36) hx hb hg in_D hown hK (hP.one r36) 0 rfl rfl 32 (by decide) (hg _ k_623) (fun _ h9 => h9) rfl d_D_wanted_15 ?_
  refine lv_iload_n hx hb d_D_wanted_18 rfl (lv_at hl 3 rfl) ?_
  refine fw_iald (tys := tyl dA) hx hb hK hP r32 0 rfl (j := f) (by omega) (by decide) d_D_wanted_19 ?_
  refine lv_istore (lv' := [(4, .int (nI ((m_asked μ) f))), (3, .int (nI ((m_rule μ) ((m_key μ) f)))), (2, .int (nI ((m_key μ) f))), (0, .ref (md 36)), (1, .int (nI f))]) hx hb d_D_wanted_20 hl (by decide) rfl (fun ls hl => ?_)
  refine lv_aload_n hx hb d_D_wanted_22 rfl (lv_at hl 3 rfl) ?_
  refine va_get (D := (dC, dI)) (ci := 5) (v := .ref (md 2)) (C := R_D) (T := F_D) (N := 36) hx hb hg in_D hown hK (hP.one r36) 0 rfl rfl 2 (by decide) (hg _ k_593) (fun _ h9 => h9) rfl d_D_wanted_23 ?_
  refine lv_iload_n hx hb d_D_wanted_26 rfl (lv_at hl 2 rfl) ?_
  refine lv_iconst (v := (nI 3)) hx hb d_D_wanted_27 (by decide) ?_
  refine nu_imul (r := 3 * ((m_key μ) f)) hx hb d_D_wanted_28 (by omega) ?_
  refine fw_iald (tys := tyl dA) hx hb hK hP r2 0 rfl (j := 3 * ((m_key μ) f)) (by omega) (by decide) d_D_wanted_29 ?_
  refine lv_istore (lv' := [(5, .int ((m_parts μ) (3 * ((m_key μ) f)))), (4, .int (nI ((m_asked μ) f))), (3, .int (nI ((m_rule μ) ((m_key μ) f)))), (2, .int (nI ((m_key μ) f))), (0, .ref (md 36)), (1, .int (nI f))]) hx hb d_D_wanted_30 hl (by decide) rfl (fun ls hl => ?_)
  refine lv_aload_n hx hb d_D_wanted_32 rfl (lv_at hl 4 rfl) ?_
  refine va_get (D := (dC, dI)) (ci := 5) (v := .ref (md 2)) (C := R_D) (T := F_D) (N := 36) hx hb hg in_D hown hK (hP.one r36) 0 rfl rfl 2 (by decide) (hg _ k_593) (fun _ h9 => h9) rfl d_D_wanted_33 ?_
  refine lv_iload_n hx hb d_D_wanted_36 rfl (lv_at hl 3 rfl) ?_
  refine lv_iconst (v := (nI 3)) hx hb d_D_wanted_37 (by decide) ?_
  refine nu_imul (r := 3 * ((m_key μ) f)) hx hb d_D_wanted_38 (by omega) ?_
  refine lv_iconst (v := (nI 1)) hx hb d_D_wanted_39 (by decide) ?_
  refine nu_iadd (r := 3 * ((m_key μ) f) + 1) hx hb d_D_wanted_40 (by omega) ?_
  refine fw_iald (tys := tyl dA) hx hb hK hP r2 0 rfl (j := 3 * ((m_key μ) f) + 1) (by omega) (by decide) d_D_wanted_41 ?_
  refine lv_istore (lv' := [(6, .int ((m_parts μ) (3 * ((m_key μ) f) + 1))), (5, .int ((m_parts μ) (3 * ((m_key μ) f)))), (4, .int (nI ((m_asked μ) f))), (3, .int (nI ((m_rule μ) ((m_key μ) f)))), (2, .int (nI ((m_key μ) f))), (0, .ref (md 36)), (1, .int (nI f))]) hx hb d_D_wanted_42 hl (by decide) rfl (fun ls hl => ?_)
  refine lv_aload_n hx hb d_D_wanted_44 rfl (lv_at hl 5 rfl) ?_
  refine va_get (D := (dC, dI)) (ci := 5) (v := .ref (md 2)) (C := R_D) (T := F_D) (N := 36) hx hb hg in_D hown hK (hP.one r36) 0 rfl rfl 2 (by decide) (hg _ k_593) (fun _ h9 => h9) rfl d_D_wanted_45 ?_
  refine lv_iload_n hx hb d_D_wanted_48 rfl (lv_at hl 4 rfl) ?_
  refine lv_iconst (v := (nI 3)) hx hb d_D_wanted_49 (by decide) ?_
  refine nu_imul (r := 3 * ((m_key μ) f)) hx hb d_D_wanted_50 (by omega) ?_
  refine lv_iconst (v := (nI 2)) hx hb d_D_wanted_51 (by decide) ?_
  refine nu_iadd (r := 3 * ((m_key μ) f) + 2) hx hb d_D_wanted_52 (by omega) ?_
  refine fw_iald (tys := tyl dA) hx hb hK hP r2 0 rfl (j := 3 * ((m_key μ) f) + 2) (by omega) (by decide) d_D_wanted_53 ?_
  refine lv_istore (lv' := [(7, .int ((m_parts μ) (3 * ((m_key μ) f) + 2))), (6, .int ((m_parts μ) (3 * ((m_key μ) f) + 1))), (5, .int ((m_parts μ) (3 * ((m_key μ) f)))), (4, .int (nI ((m_asked μ) f))), (3, .int (nI ((m_rule μ) ((m_key μ) f)))), (2, .int (nI ((m_key μ) f))), (0, .ref (md 36)), (1, .int (nI f))]) hx hb d_D_wanted_54 hl (by decide) rfl (fun ls hl => ?_)
  refine lv_iload_n hx hb d_D_wanted_56 rfl (lv_at hl 4 rfl) ?_
  refine lv_iconst (v := (nI 2)) hx hb d_D_wanted_57 (by decide) ?_
  refine nu_lt (tgt := 67) hx hb (by omega) (by omega) d_D_wanted_58 (by decide) (fun c1 => ?_) (fun c1 => ?_)
  · have h3 := ha3 (Or.inl c1)
    refine lv_iload hx hb d_D_wanted_67 (lv_at hl 3 rfl) ?_
    refine lv_iconst (v := (nI 3)) hx hb d_D_wanted_69 (by decide) ?_
    refine nu_ne (tgt := 77) hx hb (by omega) (by omega) d_D_wanted_70 (by decide) (fun c5 => ?_) (fun c5 => ?_)
    · refine lv_aload_n hx hb d_D_wanted_77 rfl (lv_at hl 6 rfl) ?_
      refine va_get (D := (dC, dI)) (ci := 5) (v := .ref (md 2)) (C := R_D) (T := F_D) (N := 36) hx hb hg in_D hown hK (hP.one r36) 0 rfl rfl 2 (by decide) (hg _ k_593) (fun _ h9 => h9) rfl d_D_wanted_78 ?_
      refine lv_iload_n hx hb d_D_wanted_81 rfl (lv_at hl 5 rfl) ?_
      refine lv_iconst (v := (nI 3)) hx hb d_D_wanted_82 (by decide) ?_
      refine nu_imul (r := 3 * ((m_key μ) f)) hx hb d_D_wanted_83 (by omega) ?_
      refine lv_iload hx hb d_D_wanted_84 (lv_at hl 3 rfl) ?_
      refine nu_iadd (r := 3 * ((m_key μ) f) + ((m_asked μ) f)) hx hb d_D_wanted_86 (by omega) ?_
      refine fw_iald (tys := tyl dA) hx hb hK hP r2 0 rfl (j := 3 * ((m_key μ) f) + ((m_asked μ) f)) (by omega) (by decide) d_D_wanted_87 ?_
      exact W.iret (v := ((m_parts μ) (3 * ((m_key μ) f) + ((m_asked μ) f)))) hx hb hr (fun tS ht hW => ⟨⟨((m_parts μ) (3 * ((m_key μ) f) + ((m_asked μ) f))), w, rfl, ⟨rfl, by unfold dWant; rw [if_pos (Or.inl c1), if_neg c5]⟩, mB_of ht hP⟩, hS.F ht⟩) hS.2.2 d_D_wanted_88
    · refine lv_iconst (v := (-1)) hx hb d_D_wanted_73 (by decide) ?_
      refine lv_goto (tgt := 88) hx hb d_D_wanted_74 (by decide) ?_
      exact W.iret (v := (-1)) hx hb hr (fun tS ht hW => ⟨⟨(-1), w, rfl, ⟨rfl, by unfold dWant; rw [if_pos (Or.inl c1), if_pos c5]⟩, mB_of ht hP⟩, hS.F ht⟩) hS.2.2 d_D_wanted_88
  · refine lv_iload_n hx hb d_D_wanted_61 rfl (lv_at hl 4 rfl) ?_
    refine lv_bipush (v := (nI 6)) hx hb d_D_wanted_62 (by decide) ?_
    refine nu_ne (tgt := 89) hx hb (by omega) (by omega) d_D_wanted_64 (by decide) (fun c2 => ?_) (fun c2 => ?_)
    · refine lv_iload hx hb d_D_wanted_89 (lv_at hl 3 rfl) ?_
      refine nu_zne (tgt := 97) hx hb (by omega) d_D_wanted_91 (by decide) (fun c3 => ?_) (fun c3 => ?_)
      · refine lv_iload_n hx hb d_D_wanted_97 rfl (lv_at hl 4 rfl) ?_
        refine lv_iconst (v := (nI 2)) hx hb d_D_wanted_98 (by decide) ?_
        refine nu_ne (tgt := 131) hx hb (by omega) (by omega) d_D_wanted_99 (by decide) (fun c4 => ?_) (fun c4 => ?_)
        · refine lv_iload_n hx hb d_D_wanted_131 rfl (lv_at hl 4 rfl) ?_
          refine lv_iconst (v := (nI 4)) hx hb d_D_wanted_132 (by decide) ?_
          refine nu_ne (tgt := 159) hx hb (by omega) (by omega) d_D_wanted_133 (by decide) (fun c5 => ?_) (fun c5 => ?_)
          · refine lv_iload_n hx hb d_D_wanted_159 rfl (lv_at hl 4 rfl) ?_
            refine lv_bipush (v := (nI 7)) hx hb d_D_wanted_160 (by decide) ?_
            refine nu_ne (tgt := 189) hx hb (by omega) (by omega) d_D_wanted_162 (by decide) (fun c6 => ?_) (fun c6 => ?_)
            · refine lv_iload_n hx hb d_D_wanted_189 rfl (lv_at hl 4 rfl) ?_
              refine lv_bipush (v := (nI 8)) hx hb d_D_wanted_190 (by decide) ?_
              refine nu_eq (tgt := 201) hx hb (by omega) (by omega) d_D_wanted_192 (by decide) (fun c7 => ?_) (fun c7 => ?_)
              · refine lv_iconst (v := (-1)) hx hb d_D_wanted_201 (by decide) ?_
                refine lv_goto (tgt := 207) hx hb d_D_wanted_202 (by decide) ?_
                exact W.iret (v := (-1)) hx hb hr (fun tS ht hW => ⟨⟨(-1), w, rfl, ⟨rfl, by unfold dWant; rw [if_neg (fun h9 => h9.elim (by omega) c2), if_neg c3, if_neg c4, if_neg c5, if_neg c6, if_pos (Or.inl c7)]⟩, mB_of ht hP⟩, hS.F ht⟩) hS.2.2 d_D_wanted_207
              · refine lv_iload hx hb d_D_wanted_195 (lv_at hl 3 rfl) ?_
                refine lv_iconst (v := (nI 2)) hx hb d_D_wanted_197 (by decide) ?_
                refine nu_ne (tgt := 205) hx hb (by omega) (by omega) d_D_wanted_198 (by decide) (fun c8 => ?_) (fun c8 => ?_)
                · refine lv_iload hx hb d_D_wanted_205 (lv_at hl 1 rfl) ?_
                  exact W.iret (v := ((m_parts μ) (3 * ((m_key μ) f) + 1))) hx hb hr (fun tS ht hW => ⟨⟨((m_parts μ) (3 * ((m_key μ) f) + 1)), w, rfl, ⟨rfl, by unfold dWant; rw [if_neg (fun h9 => h9.elim (by omega) c2), if_neg c3, if_neg c4, if_neg c5, if_neg c6, if_neg (fun h9 => h9.elim c7 c8)]⟩, mB_of ht hP⟩, hS.F ht⟩) hS.2.2 d_D_wanted_207
                · refine lv_iconst (v := (-1)) hx hb d_D_wanted_201 (by decide) ?_
                  refine lv_goto (tgt := 207) hx hb d_D_wanted_202 (by decide) ?_
                  exact W.iret (v := (-1)) hx hb hr (fun tS ht hW => ⟨⟨(-1), w, rfl, ⟨rfl, by unfold dWant; rw [if_neg (fun h9 => h9.elim (by omega) c2), if_neg c3, if_neg c4, if_neg c5, if_neg c6, if_pos (Or.inr c8)]⟩, mB_of ht hP⟩, hS.F ht⟩) hS.2.2 d_D_wanted_207
            · refine lv_iload hx hb d_D_wanted_165 (lv_at hl 3 rfl) ?_
              refine lv_i2l (v := ((nI ((m_asked μ) f))).toInt64) hx hb d_D_wanted_167 rfl ?_
              refine lv_aload_n hx hb d_D_wanted_168 rfl (lv_at hl 6 rfl) ?_
              refine va_get (D := (dC, dI)) (ci := 5) (v := .ref (md 33)) (C := R_D) (T := F_D) (N := 36) hx hb hg in_D hown hK (hP.one r36) 0 rfl rfl 33 (by decide) (hg _ k_624) (fun _ h9 => h9) rfl d_D_wanted_169 ?_
              refine lv_iload_n hx hb d_D_wanted_172 rfl (lv_at hl 7 rfl) ?_
              refine fw_lald (tys := tyl dA) hx hb hK hP r33 1 rfl (j := f) (by omega) (by decide) d_D_wanted_173 ?_
              refine lv_iconst (v := (nI 4)) hx hb d_D_wanted_174 (by decide) ?_
              refine va_calll (rn_S (n := 2) (As := [.long ((m_first μ) f), .int (nI 4)]) (rest := [.long (((nI ((m_asked μ) f))).toInt64)]) X hP hS (c_D_modulo B0 w (m_first μ f) 4 (by decide)) k_747 k_748 k_58 k_749 (by decide +kernel) rfl rfl ⟨Nat.le_of_ble_eq_true rfl, Nat.le_of_ble_eq_true rfl⟩ rfl hl.1 rfl (Nat.le_of_ble_eq_true rfl) d_D_wanted_175 ⟨Nat.le_of_ble_eq_true rfl, Nat.le_of_ble_eq_true rfl⟩) hS (fun q _ h => h) (fun q h => h) (fun r w123 tS H locs ht hvm hw hB hz1 hk1 hS => ?_)
              have hP : fw_P (dC, dI) cls_ (AA s0) w123 H := by rw [← ht]; exact hB
              obtain ⟨e9, rfl⟩ := hw
              rw [e9] at hP
              refine W.lcmp hx hb d_D_wanted_178 ?_
              refine lv_if_le (tgt := 186) hx hb d_D_wanted_179 (by decide) (fun c7 => ?_) (fun c7 => ?_)
              · refine lv_iload hx hb d_D_wanted_186 (lv_at hl 1 rfl) ?_
                exact W.iret (v := ((m_parts μ) (3 * ((m_key μ) f) + 1))) hx hb hr (fun tS ht hW => ⟨⟨((m_parts μ) (3 * ((m_key μ) f) + 1)), w, rfl, ⟨rfl, by unfold dWant; rw [if_neg (fun h9 => h9.elim (by omega) c2), if_neg c3, if_neg c4, if_neg c5, if_pos c6, if_neg (fun h9 => absurd ((lg_cmp_le _ _).mp c7) (Int64.not_le.mpr h9))]⟩, mB_of ht hP⟩, hS.F ht⟩) hS.2.2 d_D_wanted_188
              · refine lv_iconst (v := (-1)) hx hb d_D_wanted_182 (by decide) ?_
                refine lv_goto (tgt := 188) hx hb d_D_wanted_183 (by decide) ?_
                exact W.iret (v := (-1)) hx hb hr (fun tS ht hW => ⟨⟨(-1), w, rfl, ⟨rfl, by unfold dWant; rw [if_neg (fun h9 => h9.elim (by omega) c2), if_neg c3, if_neg c4, if_neg c5, if_pos c6, if_pos (Int64.not_le.mp (fun h8 => c7 ((lg_cmp_le _ _).mpr h8)))]⟩, mB_of ht hP⟩, hS.F ht⟩) hS.2.2 d_D_wanted_188
          · refine lv_iload hx hb d_D_wanted_136 (lv_at hl 3 rfl) ?_
            refine lv_iconst (v := (nI 2)) hx hb d_D_wanted_138 (by decide) ?_
            refine nu_ne (tgt := 146) hx hb (by omega) (by omega) d_D_wanted_139 (by decide) (fun c6 => ?_) (fun c6 => ?_)
            · refine lv_aload_n hx hb d_D_wanted_146 rfl (lv_at hl 6 rfl) ?_
              refine va_get (D := (dC, dI)) (ci := 5) (v := .ref (md 33)) (C := R_D) (T := F_D) (N := 36) hx hb hg in_D hown hK (hP.one r36) 0 rfl rfl 33 (by decide) (hg _ k_624) (fun _ h9 => h9) rfl d_D_wanted_147 ?_
              refine lv_iload_n hx hb d_D_wanted_150 rfl (lv_at hl 7 rfl) ?_
              refine fw_lald (tys := tyl dA) hx hb hK hP r33 1 rfl (j := f) (by omega) (by decide) d_D_wanted_151 ?_
              refine lv_bipush (v := (nI 12)) hx hb d_D_wanted_152 (by decide) ?_
              refine va_calll (rn_S (n := 2) (As := [.long ((m_first μ) f), .int (nI 12)]) (rest := []) X hP hS (c_D_modulo B0 w (m_first μ f) 12 (by decide)) k_747 k_748 k_58 k_749 (by decide +kernel) rfl rfl ⟨Nat.le_of_ble_eq_true rfl, Nat.le_of_ble_eq_true rfl⟩ rfl hl.1 rfl (Nat.le_of_ble_eq_true rfl) d_D_wanted_154 ⟨Nat.le_of_ble_eq_true rfl, Nat.le_of_ble_eq_true rfl⟩) hS (fun q _ h => h) (fun q h => h) (fun r w124 tS H locs ht hvm hw hB hz1 hk1 hS => ?_)
              have hP : fw_P (dC, dI) cls_ (AA s0) w124 H := by rw [← ht]; exact hB
              obtain ⟨e9, rfl⟩ := hw
              rw [e9] at hP
              refine lv_l2i (v := (dMod (m_first μ f) 12).toInt32) hx hb d_D_wanted_157 rfl ?_
              exact W.iret (v := ((dMod (m_first μ f) 12).toInt32)) hx hb hr (fun tS ht hW => ⟨⟨((dMod (m_first μ f) 12).toInt32), w, rfl, ⟨rfl, by unfold dWant; rw [if_neg (fun h9 => h9.elim (by omega) c2), if_neg c3, if_neg c4, if_pos c5, if_neg c6]⟩, mB_of ht hP⟩, hS.F ht⟩) hS.2.2 d_D_wanted_158
            · refine lv_iconst (v := (-1)) hx hb d_D_wanted_142 (by decide) ?_
              refine lv_goto (tgt := 158) hx hb d_D_wanted_143 (by decide) ?_
              exact W.iret (v := (-1)) hx hb hr (fun tS ht hW => ⟨⟨(-1), w, rfl, ⟨rfl, by unfold dWant; rw [if_neg (fun h9 => h9.elim (by omega) c2), if_neg c3, if_neg c4, if_pos c5, if_pos c6]⟩, mB_of ht hP⟩, hS.F ht⟩) hS.2.2 d_D_wanted_158
        · refine lv_iload hx hb d_D_wanted_102 (lv_at hl 3 rfl) ?_
          refine lv_iconst (v := (nI 2)) hx hb d_D_wanted_104 (by decide) ?_
          refine nu_ne (tgt := 112) hx hb (by omega) (by omega) d_D_wanted_105 (by decide) (fun c5 => ?_) (fun c5 => ?_)
          · refine lv_aload_n hx hb d_D_wanted_112 rfl (lv_at hl 6 rfl) ?_
            refine va_get (D := (dC, dI)) (ci := 5) (v := .ref (md 33)) (C := R_D) (T := F_D) (N := 36) hx hb hg in_D hown hK (hP.one r36) 0 rfl rfl 33 (by decide) (hg _ k_624) (fun _ h9 => h9) rfl d_D_wanted_113 ?_
            refine lv_iload_n hx hb d_D_wanted_116 rfl (lv_at hl 7 rfl) ?_
            refine fw_lald (tys := tyl dA) hx hb hK hP r33 1 rfl (j := f) (by omega) (by decide) d_D_wanted_117 ?_
            refine lv_lconst (v := 0) hx hb d_D_wanted_118 (by decide) ?_
            refine W.lcmp hx hb d_D_wanted_119 ?_
            refine lv_if_le (tgt := 128) hx hb d_D_wanted_120 (by decide) (fun c6 => ?_) (fun c6 => ?_)
            · refine lv_iload hx hb d_D_wanted_128 (lv_at hl 0 rfl) ?_
              exact W.iret (v := ((m_parts μ) (3 * ((m_key μ) f) + 2))) hx hb hr (fun tS ht hW => ⟨⟨((m_parts μ) (3 * ((m_key μ) f) + 2)), w, rfl, ⟨rfl, by unfold dWant; rw [if_neg (fun h9 => h9.elim (by omega) c2), if_neg c3, if_pos c4, if_neg c5, if_neg (fun h9 => absurd ((lg_cmp_le _ _).mp c6) (Int64.not_le.mpr h9))]⟩, mB_of ht hP⟩, hS.F ht⟩) hS.2.2 d_D_wanted_130
            · refine lv_iload hx hb d_D_wanted_123 (lv_at hl 1 rfl) ?_
              refine lv_goto (tgt := 130) hx hb d_D_wanted_125 (by decide) ?_
              exact W.iret (v := ((m_parts μ) (3 * ((m_key μ) f) + 1))) hx hb hr (fun tS ht hW => ⟨⟨((m_parts μ) (3 * ((m_key μ) f) + 1)), w, rfl, ⟨rfl, by unfold dWant; rw [if_neg (fun h9 => h9.elim (by omega) c2), if_neg c3, if_pos c4, if_neg c5, if_pos (Int64.not_le.mp (fun h8 => c6 ((lg_cmp_le _ _).mpr h8)))]⟩, mB_of ht hP⟩, hS.F ht⟩) hS.2.2 d_D_wanted_130
          · refine lv_iconst (v := (-1)) hx hb d_D_wanted_108 (by decide) ?_
            refine lv_goto (tgt := 130) hx hb d_D_wanted_109 (by decide) ?_
            exact W.iret (v := (-1)) hx hb hr (fun tS ht hW => ⟨⟨(-1), w, rfl, ⟨rfl, by unfold dWant; rw [if_neg (fun h9 => h9.elim (by omega) c2), if_neg c3, if_pos c4, if_pos c5]⟩, mB_of ht hP⟩, hS.F ht⟩) hS.2.2 d_D_wanted_130
      · refine lv_iload hx hb d_D_wanted_94 (lv_at hl 2 rfl) ?_
        exact W.iret (v := ((m_parts μ) (3 * ((m_key μ) f)))) hx hb hr (fun tS ht hW => ⟨⟨((m_parts μ) (3 * ((m_key μ) f))), w, rfl, ⟨rfl, by unfold dWant; rw [if_neg (fun h9 => h9.elim (by omega) c2), if_pos c3]⟩, mB_of ht hP⟩, hS.F ht⟩) hS.2.2 d_D_wanted_96
    · have h3 := ha3 (Or.inr c2)
      refine lv_iload hx hb d_D_wanted_67 (lv_at hl 3 rfl) ?_
      refine lv_iconst (v := (nI 3)) hx hb d_D_wanted_69 (by decide) ?_
      refine nu_ne (tgt := 77) hx hb (by omega) (by omega) d_D_wanted_70 (by decide) (fun c5 => ?_) (fun c5 => ?_)
      · refine lv_aload_n hx hb d_D_wanted_77 rfl (lv_at hl 6 rfl) ?_
        refine va_get (D := (dC, dI)) (ci := 5) (v := .ref (md 2)) (C := R_D) (T := F_D) (N := 36) hx hb hg in_D hown hK (hP.one r36) 0 rfl rfl 2 (by decide) (hg _ k_593) (fun _ h9 => h9) rfl d_D_wanted_78 ?_
        refine lv_iload_n hx hb d_D_wanted_81 rfl (lv_at hl 5 rfl) ?_
        refine lv_iconst (v := (nI 3)) hx hb d_D_wanted_82 (by decide) ?_
        refine nu_imul (r := 3 * ((m_key μ) f)) hx hb d_D_wanted_83 (by omega) ?_
        refine lv_iload hx hb d_D_wanted_84 (lv_at hl 3 rfl) ?_
        refine nu_iadd (r := 3 * ((m_key μ) f) + ((m_asked μ) f)) hx hb d_D_wanted_86 (by omega) ?_
        refine fw_iald (tys := tyl dA) hx hb hK hP r2 0 rfl (j := 3 * ((m_key μ) f) + ((m_asked μ) f)) (by omega) (by decide) d_D_wanted_87 ?_
        exact W.iret (v := ((m_parts μ) (3 * ((m_key μ) f) + ((m_asked μ) f)))) hx hb hr (fun tS ht hW => ⟨⟨((m_parts μ) (3 * ((m_key μ) f) + ((m_asked μ) f))), w, rfl, ⟨rfl, by unfold dWant; rw [if_pos (Or.inr c2), if_neg c5]⟩, mB_of ht hP⟩, hS.F ht⟩) hS.2.2 d_D_wanted_88
      · refine lv_iconst (v := (-1)) hx hb d_D_wanted_73 (by decide) ?_
        refine lv_goto (tgt := 88) hx hb d_D_wanted_74 (by decide) ?_
        exact W.iret (v := (-1)) hx hb hr (fun tS ht hW => ⟨⟨(-1), w, rfl, ⟨rfl, by unfold dWant; rw [if_pos (Or.inr c2), if_pos c5]⟩, mB_of ht hP⟩, hS.F ht⟩) hS.2.2 d_D_wanted_88
set_option maxHeartbeats 4000000 in
set_option maxRecDepth 100000 in
theorem c_D_keep {l : Launch} {s0 : State} {dC : Nat → ClassId} {dI : Nat → Nat → Nat} {dA : Nat → ClassId} (B0 : BB s0 dC dI dA) (w : fw_W) (a b n0 N1 N2 : Nat) (fa fb : Nat → Int32) (f1 : w a = some (.inl (dA 0, N1, .inl fa))) (f2 : w b = some (.inl (dA 0, N2, .inl fb))) (hab : a ≠ b) (h1 : n0 ≤ N1) (h2 : n0 ≤ N2) (h3 : n0 < 10000) (hN1 : N1 < 2 ^ 31) (hN2 : N2 < 2 ^ 31) : Met l y_D_keep [.code y_D_keep b_D_keep 4 none] ({ frames := 0, cells := 0, slots := 0, locals := 0 }) (mP s0 dC dI w [.ref a, .ref b, .int (nI n0)]) (mQv s0 dC dI (fun w' => w' b = some (.inl (dA 0, N2, .inl (fun i => if i < n0 then fa i else fb i))) ∧ ∀ z, z ≠ b → w' z = w z)) 0 0 (AA s0) := by
  refine mt_ofW B0 (by decide) (Nat.le_of_ble_eq_true rfl) (fun p e s m args below meth c ls hargs X hin hl hP => ?_)
  have X9 := X
  obtain ⟨hx, hb, hr, hml, hown, hg, hK, hn, hE, hlocks, hA⟩ := X9
  have hS : va_S (AA s0) s.heap s.heap [] := va_S.rf
  have hl : lv_has ls 4 [(0, .ref a), (1, .ref b), (2, .int (nI n0))] := hl
  have f2 : w b = some (.inl (dA 0, N2, .inl (fun j => if j < 0 then fa j else fb j))) := by rw [show (fun j => if j < 0 then fa j else fb j) = fb from funext (fun j => if_neg (by omega))]; exact f2
  refine lv_iconst (v := (nI 0)) hx hb d_D_keep_0 (by decide) ?_
  refine lv_istore_n (lv' := [(3, .int (nI 0)), (0, .ref a), (1, .ref b), (2, .int (nI n0))]) hx hb d_D_keep_1 rfl hl (by decide) rfl (fun ls hl => ?_)
  suffices lp : ∀ (n : Nat) (i : Nat), (i ≤ n0) → (n0 < i + n) → ∀ (wl : fw_W) (H : Heap) (locs : List Loc), (wl a = some (.inl (dA 0, N1, .inl fa))) → (wl b = some (.inl (dA 0, N2, .inl (fun j => if j < i then fa j else fb j)))) → (∀ z, z ≠ b → wl z = w z) → fw_P (dC, dI) cls_ (AA s0) wl H → va_S (AA s0) s.heap H locs → ∀ (ls : Array Slot), lv_has ls 4 [(0, .ref a), (1, .ref b), (2, .int (nI n0)), (3, .int (nI i))] → W p l e _ s m args below meth c H locs 0 0 (MQ below _ args s 0 0 (AA s0)) (F0 m 2 ls []) from lp (n0 + 1) 0 (by omega) (by omega) _ _ _ f1 f2 (fun z _ => rfl) hP hS ls (lv_sub hl [1, 2, 3, 0] rfl)
  intro n
  induction n with
  | zero => intro i hi hbn; exact absurd hbn (by omega)
  | succ n ih =>
    intro i hi hbn wl H locs f1 f2 hfr hP hS ls hl
    refine lv_iload_n hx hb d_D_keep_2 rfl (lv_at hl 3 rfl) ?_
    refine lv_iload_n hx hb d_D_keep_3 rfl (lv_at hl 2 rfl) ?_
    refine nu_ge (tgt := 19) hx hb (by omega) (by omega) d_D_keep_4 (by decide) (fun c1 => ?_) (fun c1 => ?_)
    · exact W.vret hx hb hr (fun tS ht hW => ⟨⟨wl, rfl, ⟨by rw [show n0 = i by omega]; exact f2, hfr⟩, mB_of ht hP⟩, hS.F ht⟩) hS.2.2 d_D_keep_19
    · refine lv_aload_n hx hb d_D_keep_7 rfl (lv_at hl 1 rfl) ?_
      refine lv_iload_n hx hb d_D_keep_8 rfl (lv_at hl 3 rfl) ?_
      refine lv_aload_n hx hb d_D_keep_9 rfl (lv_at hl 0 rfl) ?_
      refine lv_iload_n hx hb d_D_keep_10 rfl (lv_at hl 3 rfl) ?_
      refine fw_iald (tys := tyl dA) hx hb hK hP f1 0 rfl (j := i) (by omega) (by omega) d_D_keep_11 ?_
      refine fw_iast (tys := tyl dA) hx hb hK hP hS f2 0 rfl (j := i) (x := (fa i)) (by omega) (by omega) d_D_keep_12 (fun w125 H locs ew126 hP hS => ?_)
      have f1 : w125 a = some (.inl (dA 0, N1, .inl fa)) := by rw [ew126, va_up_ne _ _ hab]; exact f1
      have f2 : w125 b = some (.inl (dA 0, N2, .inl (upd (fun j => if j < i then fa j else fb j) i (fa i)))) := by rw [ew126]; exact va_up_self _ _ _
      refine lv_iinc (v := nI (i + 1)) (lv' := [(3, .int (nI (i + 1))), (0, .ref a), (1, .ref b), (2, .int (nI n0))]) hx hb d_D_keep_13 hl (k := 3) rfl (nI_add _ 1) (by decide) rfl (fun ls hl => ?_)
      refine lv_goto (tgt := 2) hx hb d_D_keep_16 (by decide) ?_
      have f2 : w125 b = some (.inl (dA 0, N2, .inl (fun j => if j < i + 1 then fa j else fb j))) := by rw [← kp_up fa fb i]; exact f2
      exact ih (i + 1) (by omega) (by omega) _ _ _ f1 f2 (fun z z1 => by rw [ew126, va_up_ne _ _ z1]; exact hfr z z1) hP hS ls (lv_sub hl [1, 2, 3, 0] rfl)
set_option maxHeartbeats 4000000 in
set_option maxRecDepth 100000 in
theorem c_D_tracesOf {l : Launch} {s0 : State} {dC : Nat → ClassId} {dI : Nat → Nat → Nat} {dA : Nat → ClassId} (B0 : BB s0 dC dI dA) (w : fw_W) (md : Nat → Nat) (μ : MS) (wk : Nat) (hj : Inj37 md) (hD : RD dA md w μ) (hwk : wk < 2) : Met l y_D_tracesOf [.code y_D_tracesOf b_D_tracesOf 4 (some .int)] ({ frames := 0, cells := 0, slots := 0, locals := 0 }) (mP s0 dC dI w [.ref (md 36), .int (nI wk)]) (mQi s0 dC dI (fun r w' => w' = w ∧ r = nI (cntR (m_trc μ) wk 12))) 0 0 (AA s0) := by
  refine mt_ofW B0 (by decide) (Nat.le_of_ble_eq_true rfl) (fun p e s m args below meth c ls hargs X hin hl hP => ?_)
  have X9 := X
  obtain ⟨hx, hb, hr, hml, hown, hg, hK, hn, hE, hlocks, hA⟩ := X9
  have hS : va_S (AA s0) s.heap s.heap [] := va_S.rf
  have hl : lv_has ls 4 [(0, .ref (md 36)), (1, .int (nI wk))] := hl
  obtain ⟨r36, r0, r1, r2, r3, r4, r5, r6, r7, r8, ⟨u, r9⟩, r10, r11, r12, r13, r14, r15, r23, r24, r25, r26, r27, r28, r29, r30, r31, r32, r33, r34⟩ := (id hD)
  refine lv_iconst (v := (nI 0)) hx hb d_D_tracesOf_0 (by decide) ?_
  refine lv_istore_n (lv' := [(2, .int (nI 0)), (0, .ref (md 36)), (1, .int (nI wk))]) hx hb d_D_tracesOf_1 rfl hl (by decide) rfl (fun ls hl => ?_)
  refine lv_iconst (v := (nI 0)) hx hb d_D_tracesOf_2 (by decide) ?_
  refine lv_istore_n (lv' := [(3, .int (nI 0)), (2, .int (nI 0)), (0, .ref (md 36)), (1, .int (nI wk))]) hx hb d_D_tracesOf_3 rfl hl (by decide) rfl (fun ls hl => ?_)
  have hl : lv_has ls 4 [(3, .int (nI 0)), (2, .int (nI (cntR (m_trc μ) wk 0))), (0, .ref (md 36)), (1, .int (nI wk))] := hl
  suffices lp : ∀ (n : Nat) (i : Nat), (i ≤ 12) → (12 < i + n) → ∀ (H : Heap) (locs : List Loc), fw_P (dC, dI) cls_ (AA s0) w H → va_S (AA s0) s.heap H locs → ∀ (ls : Array Slot), lv_has ls 4 [(0, .ref (md 36)), (1, .int (nI wk)), (2, .int (nI (cntR (m_trc μ) wk i))), (3, .int (nI i))] → W p l e _ s m args below meth c H locs 0 0 (MQ below _ args s 0 0 (AA s0)) (F0 m 4 ls []) from lp 13 0 (by omega) (by omega) _ _ hP hS ls (lv_sub hl [2, 3, 1, 0] rfl)
  intro n
  induction n with
  | zero => intro i hi hbn; exact absurd hbn (by omega)
  | succ n ih =>
    intro i hi hbn H locs hP hS ls hl
    have hle := cntR_le (m_trc μ) wk i
    refine lv_iload_n hx hb d_D_tracesOf_4 rfl (lv_at hl 3 rfl) ?_
    refine lv_bipush (v := (nI 12)) hx hb d_D_tracesOf_5 (by decide) ?_
    refine nu_ge (tgt := 33) hx hb (by omega) (by omega) d_D_tracesOf_7 (by decide) (fun c1 => ?_) (fun c1 => ?_)
    · refine lv_iload_n hx hb d_D_tracesOf_33 rfl (lv_at hl 2 rfl) ?_
      exact W.iret (v := (nI (cntR (m_trc μ) wk i))) hx hb hr (fun tS ht hW => ⟨⟨(nI (cntR (m_trc μ) wk i)), w, rfl, ⟨rfl, by rw [show i = 12 by omega]⟩, mB_of ht hP⟩, hS.F ht⟩) hS.2.2 d_D_tracesOf_34
    · refine lv_aload_n hx hb d_D_tracesOf_10 rfl (lv_at hl 0 rfl) ?_
      refine va_get (D := (dC, dI)) (ci := 5) (v := .ref (md 10)) (C := R_D) (T := F_D) (N := 36) hx hb hg in_D hown hK (hP.one r36) 0 rfl rfl 10 (by decide) (hg _ k_601) (fun _ h9 => h9) rfl d_D_tracesOf_11 ?_
      refine lv_iload_n hx hb d_D_tracesOf_14 rfl (lv_at hl 1 rfl) ?_
      refine lv_bipush (v := (nI 12)) hx hb d_D_tracesOf_15 (by decide) ?_
      refine nu_imul (r := 12 * wk) hx hb d_D_tracesOf_17 (by omega) ?_
      refine lv_iload_n hx hb d_D_tracesOf_18 rfl (lv_at hl 3 rfl) ?_
      refine nu_iadd (r := 12 * wk + i) hx hb d_D_tracesOf_19 (by omega) ?_
      refine fw_iald (tys := tyl dA) hx hb hK hP r10 0 rfl (j := 12 * wk + i) (by omega) (by decide) d_D_tracesOf_20 ?_
      refine lv_if_lt (tgt := 27) hx hb d_D_tracesOf_21 (by decide) (fun c2 => ?_) (fun c2 => ?_)
      · refine lv_iinc (v := nI (i + 1)) (lv' := [(3, .int (nI (i + 1))), (0, .ref (md 36)), (1, .int (nI wk)), (2, .int (nI (cntR (m_trc μ) wk i)))]) hx hb d_D_tracesOf_27 hl (k := 3) rfl (nI_add _ 1) (by decide) rfl (fun ls hl => ?_)
        refine lv_goto (tgt := 4) hx hb d_D_tracesOf_30 (by decide) ?_
        have hc9 : cntR (m_trc μ) wk (i + 1) = cntR (m_trc μ) wk i := by rw [cntR, if_pos c2] <;> rfl
        rw [← hc9] at hl
        exact ih (i + 1) (by omega) (by omega) _ _ hP hS ls (lv_sub hl [1, 2, 3, 0] rfl)
      · refine lv_iinc (v := nI (cntR (m_trc μ) wk i + 1)) (lv' := [(2, .int (nI (cntR (m_trc μ) wk i + 1))), (0, .ref (md 36)), (1, .int (nI wk)), (3, .int (nI i))]) hx hb d_D_tracesOf_24 hl (k := 2) rfl (nI_add _ 1) (by decide) rfl (fun ls hl => ?_)
        refine lv_iinc (v := nI (i + 1)) (lv' := [(3, .int (nI (i + 1))), (2, .int (nI (cntR (m_trc μ) wk i + 1))), (0, .ref (md 36)), (1, .int (nI wk))]) hx hb d_D_tracesOf_27 hl (k := 3) rfl (nI_add _ 1) (by decide) rfl (fun ls hl => ?_)
        refine lv_goto (tgt := 4) hx hb d_D_tracesOf_30 (by decide) ?_
        have hc9 : cntR (m_trc μ) wk (i + 1) = cntR (m_trc μ) wk i + 1 := by rw [cntR, if_neg c2]
        rw [← hc9] at hl
        exact ih (i + 1) (by omega) (by omega) _ _ hP hS ls (lv_sub hl [2, 3, 1, 0] rfl)
