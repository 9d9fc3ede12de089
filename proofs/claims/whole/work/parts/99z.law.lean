theorem lt6 {L i : Nat} (hL : L ≤ 3072) (hi : i ≤ 4000) : nI L - nI 6 < nI i ↔ L < i + 6 := by
  rw [Int32.lt_iff_toInt_lt, Int32.toInt_sub, nI_toInt (by omega), nI_toInt (by omega), nI_toInt (by omega), Int.bmod_eq_of_le (by omega) (by omega)]
  omega
theorem sw_out {x : Int32} (h : ¬ ∃ j, j ≤ 10 ∧ x = nI j) : x.toInt < 0 ∨ 10 < x.toInt := by
  by_cases h0 : x < 0
  · left; rw [Int32.lt_iff_toInt_lt, Int32.toInt_zero] at h0; exact h0
  · right
    obtain ⟨j, hj, rfl⟩ := nI_of h0
    rw [nI_toInt hj]
    have : ¬ j ≤ 10 := fun h9 => h ⟨j, h9, rfl⟩
    omega
theorem start_ok {dA : Nat → ClassId} {AD md : Nat → Nat} {ou : Nat} {wa wb wc wd : fw_W} {μ : MS} {v1 : va_E} (hinj : Inj2 AD) (hR : RB dA AD (fun _ => False) wa P_0 (fun _ => none) [] (fun _ => 0)) (hn1 : wa (md 36) = none) (e1 : wb = va_up wa (md 36) (some v1)) (hj : Inj37 md) (hno : ∀ i, U37 i → i ≠ 36 → wb (md i) = none) (hD : RD dA md wc μ) (hQ : RQ β_0 μ) (hk : ∀ (z : Nat) (e : va_E), wb z = some e → z ≠ md 36 → wc z = some e) (hn2 : wc ou = none) (e2 : wd = va_up wc ou (some (oc dA (fun _ => 0)))) : DJ AD md ou ∧ LSt dA AD md ou wd β_0 := by
  have ha := hR.blk
  have h36 : ∀ i, i < 32 → AD i ≠ md 36 := fun i hi e => ha i hi (by rw [e]; exact hn1)
  have hb : ∀ i, i < 32 → wb (AD i) = wa (AD i) := fun i hi => by rw [e1, va_up_ne _ _ (h36 i hi)]
  have hc : ∀ i, i < 32 → wc (AD i) = wa (AD i) := fun i hi => by
    obtain ⟨e, he⟩ := some_ne (ha i hi)
    rw [he]
    exact hk _ e (by rw [hb i hi]; exact he) (h36 i hi)
  have hs := hD.some
  have d3 : ∀ i j, i < 32 → U37 j → AD i ≠ md j := fun i j hi hj9 e => by
    by_cases h9 : j = 36
    · rw [h9] at e; exact h36 i hi e
    · exact ha i hi (by rw [← hb i hi, e]; exact hno j hj9 h9)
  have d4 : ∀ i, i < 32 → ou ≠ AD i := fun i hi e => ha i hi (by rw [← hc i hi, ← e]; exact hn2)
  have d5 : ∀ j, U37 j → ou ≠ md j := fun j hj9 e => hs j hj9 (by rw [← e]; exact hn2)
  refine ⟨⟨hinj, hj, d3, d4, d5⟩, fun _ => False, μ, fun _ => 0, RB.agree hR (fun i hi => ?_) (fun q hq => absurd hq id), hD.agree (fun j hj9 => ?_), hQ, ⟨fun i T hi hT => (by cases hT), fun T hT => (by cases hT)⟩, by rw [e2, va_up_self], fun _ _ => id, id⟩
  · rw [e2, va_up_ne _ _ (fun e => d4 i hi e.symm)]; exact hc i hi
  · rw [e2, va_up_ne _ _ (fun e => d5 j hj9 e.symm)]
theorem arr_of {s : State} {A : Array Value} {ty : FieldType} (h : (Cond.arrayClass ty).before A s = true) : ∃ cA : ClassId, ArrOfT s cA ty ∧ s.vm.findClass ("[" ++ ty.toString) = some cA := by
  obtain ⟨c, k, comp, h1, h2, h3⟩ := Cond.arrayClass_spec h
  exact ⟨c, fun n z => ⟨fun k h => (by cases h), k, h2, comp, h3⟩, h1⟩
theorem K_of {s : State} {A : Array Value} (hts : ∀ w ∈ lw_tbl, w.before A s = true) : ∃ (dC : Nat → ClassId) (dI : Nat → Nat → Nat) (dA : Nat → ClassId), va_K (dC, dI) cls_ (tyl dA) s := by
  have hg : ∀ w ∈ gw, w.before A s = true := fun w hw => hts w (gw_tbl hw)
  obtain ⟨c0, i0, k0⟩ := u_known (C := R_M) (T := F_M) (N := 4) (n := 4) hg in_M (hts (.instantiable R_M 4) (by decide +kernel))
  obtain ⟨c1, i1, k1⟩ := u_known (C := R_P) (T := F_P) (N := 5) (n := 5) hg in_P (hts (.instantiable R_P 5) (by decide +kernel))
  obtain ⟨c2, i2, k2⟩ := u_known (C := R_S) (T := F_S) (N := 9) (n := 9) hg in_S (hts (.instantiable R_S 9) (by decide +kernel))
  obtain ⟨c3, i3, k3⟩ := u_known (C := R_T) (T := F_T) (N := 5) (n := 5) hg in_T (hts (.instantiable R_T 5) (by decide +kernel))
  obtain ⟨c4, i4, k4⟩ := u_known (C := R_B) (T := F_B) (N := 4) (n := 4) hg in_B (hts (.instantiable R_B 4) (by decide +kernel))
  obtain ⟨c5, i5, k5⟩ := u_known (C := R_D) (T := F_D) (N := 36) (n := 36) hg in_D (hts (.instantiable R_D 36) (by decide +kernel))
  obtain ⟨a0, x0, y0⟩ := arr_of (hts (.arrayClass .int) (by decide +kernel))
  obtain ⟨a1, x1, y1⟩ := arr_of (hts (.arrayClass .long) (by decide +kernel))
  obtain ⟨a2, x2, y2⟩ := arr_of (hts (.arrayClass .boolean) (by decide +kernel))
  obtain ⟨comp3, a3, q3, z1, z2, z3, z4, z5⟩ := Cond.arrayOver_spec (hts _ tbl_ao)
  obtain ⟨comp4, a4, q4, v1, v2, v3, v4, v5⟩ := arrayOverA_spec (hts _ tbl_aoa)
  refine ⟨fun k => match k with | 0 => c0 | 1 => c1 | 2 => c2 | 3 => c3 | 4 => c4 | _ => c5, fun k => match k with | 0 => i0 | 1 => i1 | 2 => i2 | 3 => i3 | 4 => i4 | _ => i5, fun k => match k with | 0 => a0 | 1 => a1 | 2 => a2 | 3 => a3 | _ => a4, fun k q hq => ?_, fun k q hq => ?_⟩
  · match k, hq with
    | 0, hq => cases hq; exact k0
    | 1, hq => cases hq; exact k1
    | 2, hq => cases hq; exact k2
    | 3, hq => cases hq; exact k3
    | 4, hq => cases hq; exact k4
    | 5, hq => cases hq; exact k5
    | k + 6, hq => simp [cls_] at hq
  · match k, hq with
    | 0, hq => cases hq; exact ⟨x0, y0⟩
    | 1, hq => cases hq; exact ⟨x1, y1⟩
    | 2, hq => cases hq; exact ⟨x2, y2⟩
    | 3, hq => cases hq; exact ⟨fun n z => ⟨fun k h => (by cases h), q3, z3, comp3, z4⟩, q3, comp3, z3, z4, z1, z5⟩
    | 4, hq => cases hq; exact ⟨fun n z => ⟨fun k h => (by cases h), q4, v3, comp4, v4⟩, v5⟩
    | k + 5, hq => simp [tyl] at hq
theorem X_of {s : State} {A : Array Value} (hts : ∀ w ∈ lw_tbl, w.before A s = true) (hgv : (Jvm.Cond.and given_1 narrow_1).before A s = true) : XX s := by
  have hs := flat_of_before _ hgv
  have hA : ∀ a : Nat, a < s.heap.size → ¬ AA s a := fun a h => Nat.not_le.mpr h
  obtain ⟨t, ht, hT⟩ := va_Tof (tm := .static "TraceBuilder" "PARTS_NEEDED" "[I") (ty := .int) (N := 10) (f := fun j => .int (pneed j)) (by omega) (hs (.arrayOf (.static "TraceBuilder" "PARTS_NEEDED" "[I") .int) (by decide +kernel)) (va_eqt (hs (.eq (.length (.static "TraceBuilder" "PARTS_NEEDED" "[I")) (.int 10)) (by decide +kernel))) (fun j hj => by
    rcases (show j = 0 ∨ j = 1 ∨ j = 2 ∨ j = 3 ∨ j = 4 ∨ j = 5 ∨ j = 6 ∨ j = 7 ∨ j = 8 ∨ j = 9 by omega) with rfl | rfl | rfl | rfl | rfl | rfl | rfl | rfl | rfl | rfl
    · exact va_eqt (hs (.eq (.elem (.static "TraceBuilder" "PARTS_NEEDED" "[I") (.int 0)) (.int 0)) (by decide +kernel))
    · exact va_eqt (hs (.eq (.elem (.static "TraceBuilder" "PARTS_NEEDED" "[I") (.int 1)) (.int 0)) (by decide +kernel))
    · exact va_eqt (hs (.eq (.elem (.static "TraceBuilder" "PARTS_NEEDED" "[I") (.int 2)) (.int 3)) (by decide +kernel))
    · exact va_eqt (hs (.eq (.elem (.static "TraceBuilder" "PARTS_NEEDED" "[I") (.int 3)) (.int 2)) (by decide +kernel))
    · exact va_eqt (hs (.eq (.elem (.static "TraceBuilder" "PARTS_NEEDED" "[I") (.int 4)) (.int 1)) (by decide +kernel))
    · exact va_eqt (hs (.eq (.elem (.static "TraceBuilder" "PARTS_NEEDED" "[I") (.int 5)) (.int 2)) (by decide +kernel))
    · exact va_eqt (hs (.eq (.elem (.static "TraceBuilder" "PARTS_NEEDED" "[I") (.int 6)) (.int 0)) (by decide +kernel))
    · exact va_eqt (hs (.eq (.elem (.static "TraceBuilder" "PARTS_NEEDED" "[I") (.int 7)) (.int 2)) (by decide +kernel))
    · exact va_eqt (hs (.eq (.elem (.static "TraceBuilder" "PARTS_NEEDED" "[I") (.int 8)) (.int 1)) (by decide +kernel))
    · exact va_eqt (hs (.eq (.elem (.static "TraceBuilder" "PARTS_NEEDED" "[I") (.int 9)) (.int 2)) (by decide +kernel))) hA
  refine ⟨vx_Zqof (hts (.laysStatic Bundle.tN "UNASSIGNED_STACK" Bundle.steD) (by decide +kernel)) (hts (.initialized Bundle.tN) (by decide +kernel)) (hs (.isRef (.static Bundle.tN "UNASSIGNED_STACK" Bundle.steD)) (by decide +kernel)) hA, vx_Zqof (hts (.laysStatic Bundle.tN "SUPPRESSED_SENTINEL" Bundle.listD) (by decide +kernel)) (hts (.initialized Bundle.tN) (by decide +kernel)) (hs (.isRef (.static Bundle.tN "SUPPRESSED_SENTINEL" Bundle.listD)) (by decide +kernel)) hA, ⟨t, va_Zof (hts (.laysStatic "TraceBuilder" "PARTS_NEEDED" "[I") (by decide +kernel)) (hts (.initialized "TraceBuilder") (by decide +kernel)) ht hA, hT⟩, fun q hq => ?_⟩
  have hn : ∀ q ∈ ncs, Cond.not (.castable q.1 q.2) ∈ flatC (Jvm.Cond.and given_1 narrow_1) := by decide +kernel
  exact va_Nc.of (hs _ (hn q hq))
theorem EE.rf (s : State) : EE s s := ⟨State.WarmedH.refl s, Nat.le_refl _, fun _ _ _ => rfl⟩
set_option maxHeartbeats 4000000 in
set_option maxRecDepth 100000 in
theorem law_loop {p : Program} {l : Launch} {e : Env} {s : State} {m : MethodId} {below : List Frame} {meth : Method} {c : Code} {dC : Nat → ClassId} {dI : Nat → Nat → Nat} {dA : Nat → ClassId} {b L : Nat} {xs : Nat → Int32} {AD md : Nat → Nat} {ou : Nat} (C : LX p l s m meth c dC dI dA b L xs AD md ou) : ∀ (n i cells slots : Nat), 1 ≤ n → L < i + 6 * n → i ≤ 4000 → cells + 37 * n ≤ 601024 → slots + 138 * n ≤ 7293034 → ∀ (w : fw_W) (β : BS) (H : Heap) (locs : List Loc) (ls : Array Slot), LSt dA AD md ou w β → fw_P (dC, dI) cls_ (AA s) w H → va_S (AA s) s.heap H locs → lv_has ls 8 (LLoc AD md ou b i) → W p l e room_1 s m #[Value.ref b] below meth c H locs cells slots (lw_Z below #[Value.ref b] s) (F0 m 23 ls []) := by
  have C9 := C
  obtain ⟨X, B0, X0, hlt, hX, hbl, hL, hDJ⟩ := C9
  obtain ⟨hx, hb, hr, hml, hown, hg, hK, hn, hE, hlocks, hA⟩ := X
  intro n
  induction n with
  | zero => intro i cells slots h1; exact absurd h1 (by omega)
  | succ n ih =>
    intro i cells slots _ h1 h2 h3 h4 w β H locs ls S0 hP hS hl
    have hl : lv_has ls 8 [(0, .ref b), (1, .ref (AD 27)), (2, .ref (md 36)), (3, .ref ou), (4, .int (nI i))] := hl
    refine lv_iload hx hb d_L_law_23 (lv_at hl 4 rfl) ?_
    refine lv_aload_n hx hb d_L_law_25 rfl (lv_at hl 0 rfl) ?_
    refine va_slen hx hb hX hbl (Nat.not_le.mpr hbl) hS d_L_law_26 ?_
    refine lv_bipush (v := (nI 6)) hx hb d_L_law_27 (by decide) ?_
    refine lv_isub hx hb d_L_law_29 ?_
    refine lv_icmp_gt (tgt := 800) hx hb d_L_law_30 (by decide) (fun c1 => ?_) (fun c1 => ?_)
    · refine lv_iconst (v := 1) hx hb d_L_law_800 (by decide) ?_
      refine va_forget (fun q hq => hS.2.2 q hq) ?_
      refine W.widen (k := 601024) (n := 7293034) (by omega) (by omega) ?_
      exact lw_ret hx hb hr hlocks d_L_law_801
    · have hi : i + 6 ≤ L := Nat.le_of_not_lt (fun h9 => c1 ((lt6 hL h2).mpr h9))
      have kk : KK p l e s m below meth c dC dI dA b AD md ou i (cells + 37) (slots + 138) := by
        intro w β H locs ls S0 hP hS hl
        have hl : lv_has ls 8 [(0, .ref b), (1, .ref (AD 27)), (2, .ref (md 36)), (3, .ref ou), (4, .int (nI i))] := hl
        refine lv_iinc (v := nI (i + 6)) (lv' := [(4, .int (nI (i + 6))), (0, .ref b), (1, .ref (AD 27)), (2, .ref (md 36)), (3, .ref ou)]) hx hb d_L_law_794 hl (k := 4) rfl (nI_add _ 6) (by decide) rfl (fun ls hl => ?_)
        refine lv_goto (tgt := 23) hx hb d_L_law_797 (by decide) ?_
        exact ih (i + 6) (cells + 37) (slots + 138) (by omega) (by omega) (by omega) (by omega) (by omega) w β H locs ls S0 hP hS (lv_sub hl [1, 2, 3, 4, 0] rfl)
      refine lv_aload_n hx hb d_L_law_33 rfl (lv_at hl 0 rfl) ?_
      refine lv_iload hx hb d_L_law_34 (lv_at hl 4 rfl) ?_
      refine sl_ld (v := (xs i)) hx hb hX hbl hS (by omega) hL rfl d_L_law_36 ?_
      refine lv_bipush (v := (nI 15)) hx hb d_L_law_37 (by decide) ?_
      refine lv_iand hx hb d_L_law_39 ?_
      by_cases hsw : ∃ j, j ≤ 10 ∧ (xs i &&& nI 15) = nI j
      · obtain ⟨j, hj10, hje⟩ := hsw
        rw [hje]
        rcases (show j = 0 ∨ j = 1 ∨ j = 2 ∨ j = 3 ∨ j = 4 ∨ j = 5 ∨ j = 6 ∨ j = 7 ∨ j = 8 ∨ j = 9 ∨ j = 10 by omega) with rfl | rfl | rfl | rfl | rfl | rfl | rfl | rfl | rfl | rfl | rfl
        · refine lv_tableIn (tgt := 100) hx hb d_L_law_40 (by decide) (by decide) rfl (by decide) ?_
          exact lo_input C (by omega) (by omega) hi S0 hP hS (lv_sub hl [0, 1, 2, 3, 4] rfl) kk
        · refine lv_tableIn (tgt := 180) hx hb d_L_law_40 (by decide) (by decide) rfl (by decide) ?_
          exact lo_task C (by omega) (by omega) hi S0 hP hS (lv_sub hl [0, 1, 2, 3, 4] rfl) kk
        · refine lv_tableIn (tgt := 264) hx hb d_L_law_40 (by decide) (by decide) rfl (by decide) ?_
          exact lo_remove C (by omega) (by omega) hi S0 hP hS (lv_sub hl [0, 1, 2, 3, 4] rfl) kk
        · refine lv_tableIn (tgt := 300) hx hb d_L_law_40 (by decide) (by decide) rfl (by decide) ?_
          exact lo_build C (by omega) (by omega) hi S0 hP hS (lv_sub hl [0, 1, 2, 3, 4] rfl) kk
        · refine lv_tableIn (tgt := 367) hx hb d_L_law_40 (by decide) (by decide) rfl (by decide) ?_
          exact lo_forget C (by omega) (by omega) hi S0 hP hS (lv_sub hl [0, 1, 2, 3, 4] rfl) kk
        · refine lv_tableIn (tgt := 423) hx hb d_L_law_40 (by decide) (by decide) rfl (by decide) ?_
          exact lo_shrink C (by omega) (by omega) hi S0 hP hS (lv_sub hl [0, 1, 2, 3, 4] rfl) kk
        · refine lv_tableIn (tgt := 479) hx hb d_L_law_40 (by decide) (by decide) rfl (by decide) ?_
          exact lo_trace C (by omega) (by omega) hi S0 hP hS (lv_sub hl [0, 1, 2, 3, 4] rfl) kk
        · refine lv_tableIn (tgt := 559) hx hb d_L_law_40 (by decide) (by decide) rfl (by decide) ?_
          exact lo_traced C (by omega) (by omega) hi S0 hP hS (lv_sub hl [0, 1, 2, 3, 4] rfl) kk
        · refine lv_tableIn (tgt := 638) hx hb d_L_law_40 (by decide) (by decide) rfl (by decide) ?_
          exact lo_stale C (by omega) (by omega) hi S0 hP hS (lv_sub hl [0, 1, 2, 3, 4] rfl) kk
        · refine lv_tableIn (tgt := 713) hx hb d_L_law_40 (by decide) (by decide) rfl (by decide) ?_
          exact lo_cached C (by omega) (by omega) hi S0 hP hS (lv_sub hl [0, 1, 2, 3, 4] rfl) kk
        · refine lv_tableIn (tgt := 769) hx hb d_L_law_40 (by decide) (by decide) rfl (by decide) ?_
          exact lo_count C (by omega) (by omega) hi S0 hP hS (lv_sub hl [0, 1, 2, 3, 4] rfl) kk
      · refine lv_tableOut (tgt := 794) hx hb d_L_law_40 (sw_out hsw) (by decide) ?_
        refine W.widen (k := cells + 37) (n := slots + 138) (by omega) (by omega) ?_
        exact kk w β H locs ls S0 hP hS (lv_sub hl [0, 1, 2, 3, 4] rfl)
set_option maxHeartbeats 4000000 in
set_option maxRecDepth 100000 in
theorem whole_start {p : Program} {e : Env} {s : State} {m : MethodId} {below : List Frame} {meth : Method} {c : Code} (l : Launch) (hlt : l.stackTraces = false) {b L : Nat} {xs : Nat → Int32} (hL : L ≤ 3072) (C0 : lw_At p s m meth c b L xs) : W p l e room_1 s m #[Value.ref b] below meth c s.heap [] 0 0 (lw_Z below #[Value.ref b] s) (entryFrame m ([Value.ref b] : List Value).toArray 8) := by
  obtain ⟨hx, hb, hr, hml, hown, hts, hX, hbl, hlocks, hgv⟩ := C0
  obtain ⟨dC, dI, dA, hK⟩ := K_of hts
  have X0 : XX s := X_of hts hgv
  have B0 : BB s dC dI dA := ⟨⟨_, hts⟩, hK⟩
  have hE : EE s s := EE.rf s
  have X : CX s dC dI dA R_L b_L_law 8 ret p s m #[Value.ref b] meth c := ⟨hx, hb, hr, hml, hown, hE.gw B0, hK, hE.nw B0, hE, hlocks, fun q h => h⟩
  have X9 := X
  obtain ⟨hx, hb, hr, hml, hown, hg, hK, hn, hE, hlocks, hA⟩ := X9
  have hS : va_S (AA s) s.heap s.heap [] := va_S.rf
  obtain ⟨w, hw0⟩ : ∃ w : fw_W, w = fun _ => none := ⟨_, rfl⟩
  have hP : fw_P (dC, dI) cls_ (AA s) w s.heap := fun q e9 hq => by rw [hw0] at hq; cases hq
  have hl := lv_entry ([.ref b]) (n := 8) (Nat.le_of_ble_eq_true rfl)
  rw [lg_entry_eq]
  generalize (lg_sl ([.ref b]) ++ List.replicate (8 - (lg_sl ([.ref b])).length) Slot.unset).toArray = ls at hl ⊢
  have hl : lv_has ls 8 [(0, .ref b)] := hl
  refine fw_new (D := (dC, dI)) (ci := 4) (fs := [.null, .null, .null, .null]) (C := R_B) (T := F_B) (N := 4) hx hb hg in_B ft_B ft_B_ok hown (hg _ k_68) (hg _ k_69) (hg _ k_54) hK hP hS hA rfl (fun j hj => by rcases (show j = 0 ∨ j = 1 ∨ j = 2 ∨ j = 3 by omega) with rfl | rfl | rfl | rfl <;> rfl) (Nat.le_of_ble_eq_true rfl) (Nat.le_of_ble_eq_true rfl) d_L_law_0 (fun q1 w2 H hn4 ew3 hP hS => ?_)
  have f5 : w2 q1 = some (.inr (4, [.null, .null, .null, .null])) := by rw [ew3]; exact va_up_self _ _ _
  refine lv_dup hx hb d_L_law_3 rfl ?_
  refine va_callv (rn_I (n := 0) (As := []) (rest := [.ref q1]) X hP hS (c_B_init B0 w2 q1 f5) k_70 k_71 k_54 k_72 rfl (by decide +kernel) rfl rfl ⟨Nat.le_of_ble_eq_true rfl, Nat.le_of_ble_eq_true rfl⟩ rfl hl.1 rfl (Nat.le_of_ble_eq_true rfl) d_L_law_4 ⟨Nat.le_of_ble_eq_true rfl, Nat.le_of_ble_eq_true rfl⟩) hS (fun q _ h => h) (fun q h => h) (fun w6 tS H locs ht hvm hw hB hz1 hk1 hS => ?_)
  have hP : fw_P (dC, dI) cls_ (AA s) w6 H := by rw [← ht]; exact hB
  obtain ⟨AD, hinj, e27, hnone, hRB, hkeep⟩ := hw
  clear hnone hkeep f5
  subst e27
  refine lv_astore_n (lv' := [(1, .ref (AD 27)), (0, .ref b)]) hx hb d_L_law_7 rfl hl (by decide) rfl (fun ls hl => ?_)
  refine fw_new (D := (dC, dI)) (ci := 5) (fs := [.null, .null, .null, .null, .null, .null, .null, .null, .null, .null, .null, .null, .null, .null, .null, .null, .int 0, .int 0, .int 0, .int 0, .int 0, .int 0, .int 0, .null, .null, .null, .null, .null, .null, .null, .null, .null, .null, .null, .null, .int 0]) (C := R_D) (T := F_D) (N := 36) hx hb hg in_D ft_D ft_D_ok hown (hg _ k_585) (hg _ k_586) (hg _ k_58) hK hP hS hA rfl (fun j hj => by rcases (show j = 0 ∨ j = 1 ∨ j = 2 ∨ j = 3 ∨ j = 4 ∨ j = 5 ∨ j = 6 ∨ j = 7 ∨ j = 8 ∨ j = 9 ∨ j = 10 ∨ j = 11 ∨ j = 12 ∨ j = 13 ∨ j = 14 ∨ j = 15 ∨ j = 16 ∨ j = 17 ∨ j = 18 ∨ j = 19 ∨ j = 20 ∨ j = 21 ∨ j = 22 ∨ j = 23 ∨ j = 24 ∨ j = 25 ∨ j = 26 ∨ j = 27 ∨ j = 28 ∨ j = 29 ∨ j = 30 ∨ j = 31 ∨ j = 32 ∨ j = 33 ∨ j = 34 ∨ j = 35 by omega) with rfl | rfl | rfl | rfl | rfl | rfl | rfl | rfl | rfl | rfl | rfl | rfl | rfl | rfl | rfl | rfl | rfl | rfl | rfl | rfl | rfl | rfl | rfl | rfl | rfl | rfl | rfl | rfl | rfl | rfl | rfl | rfl | rfl | rfl | rfl | rfl <;> rfl) (Nat.le_of_ble_eq_true rfl) (Nat.le_of_ble_eq_true rfl) d_L_law_8 (fun q7 w8 H hn10 ew9 hP hS => ?_)
  have f11 : w8 q7 = some (.inr (5, [.null, .null, .null, .null, .null, .null, .null, .null, .null, .null, .null, .null, .null, .null, .null, .null, .int 0, .int 0, .int 0, .int 0, .int 0, .int 0, .int 0, .null, .null, .null, .null, .null, .null, .null, .null, .null, .null, .null, .null, .int 0])) := by rw [ew9]; exact va_up_self _ _ _
  refine lv_dup hx hb d_L_law_11 rfl ?_
  refine va_callv (rn_I (n := 0) (As := []) (rest := [.ref q7]) X hP hS (c_D_init B0 w8 q7 f11) k_587 k_588 k_58 k_589 rfl (by decide +kernel) rfl rfl ⟨Nat.le_of_ble_eq_true rfl, Nat.le_of_ble_eq_true rfl⟩ rfl hl.1 rfl (Nat.le_of_ble_eq_true rfl) d_L_law_12 ⟨Nat.le_of_ble_eq_true rfl, Nat.le_of_ble_eq_true rfl⟩) hS (fun q _ h => h) (fun q h => h) (fun w12 tS H locs ht hvm hw hB hz1 hk1 hS => ?_)
  have hP : fw_P (dC, dI) cls_ (AA s) w12 H := by rw [← ht]; exact hB
  obtain ⟨md, μ, hj, e36, hno, hD, hQ, hkeep⟩ := hw
  clear f11
  subst e36
  refine lv_astore_n (lv' := [(2, .ref (md 36)), (1, .ref (AD 27)), (0, .ref b)]) hx hb d_L_law_15 rfl hl (by decide) rfl (fun ls hl => ?_)
  refine lv_iconst (v := (nI 1)) hx hb d_L_law_16 (by decide) ?_
  refine fw_newa (tys := tyl dA) (atype := .long) (N' := 1) (a0 := (1, .inr (.inl (fun _ => 0)))) hx hb (hg _ k_107) rfl hK hP hS hA 1 rfl (fun _ => rfl) (by decide) (by decide) (by decide) (Nat.le_of_ble_eq_true rfl) (Nat.le_of_ble_eq_true rfl) d_L_law_17 (fun q13 w14 H hn16 ew15 hP hS => ?_)
  have f17 : w14 q13 = some (.inl (dA 1, 1, .inr (.inl (fun _ => 0)))) := by rw [ew15]; exact va_up_self _ _ _
  refine lv_astore_n (lv' := [(3, .ref q13), (2, .ref (md 36)), (1, .ref (AD 27)), (0, .ref b)]) hx hb d_L_law_19 rfl hl (by decide) rfl (fun ls hl => ?_)
  refine lv_iconst (v := (nI 0)) hx hb d_L_law_20 (by decide) ?_
  refine lv_istore (lv' := [(4, .int (nI 0)), (3, .ref q13), (2, .ref (md 36)), (1, .ref (AD 27)), (0, .ref b)]) hx hb d_L_law_21 hl (by decide) rfl (fun ls hl => ?_)
  obtain ⟨hDJ, hLS⟩ := start_ok hinj hRB hn10 ew9 hj hno hD hQ hkeep hn16 ew15
  exact law_loop ⟨X, B0, X0, hlt, hX, hbl, hL, hDJ⟩ 513 0 _ _ (by omega) (by omega) (by omega) (Nat.le_of_ble_eq_true rfl) (Nat.le_of_ble_eq_true rfl) _ _ _ _ ls hLS hP hS (lv_sub hl [4, 3, 2, 1, 0] rfl)
set_option maxHeartbeats 4000000 in
theorem lw_walk (l : Launch) (hlt : l.stackTraces = false) (b : Addr) (xs : List Int32) : MetFree l x (headSpec (Jvm.Cond.code x code maxLocals ret :: tables_1) room_1) (lw_P b xs) (fun _ _ _ _ _ => True) lw_Q := by
  refine MetFree.of_bodyS (code := code) (maxLocals := maxLocals) (ret := ret) (by decide) ?_ ?_
  · intro args s m h hn
    obtain ⟨meth, c, h1, h2, h3, h4, h5, h6, -, -⟩ := Cond.code_spec hn (atoms_spec (ws := Jvm.Cond.code x code maxLocals ret :: tables_1) h _ List.mem_cons_self)
    exact ⟨meth, c, h1, h2, h3, h4, h5, h6⟩
  · intro p e s m args below meth c s₁ B hml0 hP _
    obtain ⟨rfl, hx, hbd, hgv⟩ := hP
    obtain ⟨scr, harrAt, hlist, hof, hsmall⟩ := hx
    obtain ⟨hcb, hkn, -, -⟩ := State.arrayAt?_spec harrAt
    have hown : s.vm.findClass R_law = some m.cls := findClass_of_methodNamed B.named
    have hts0 : ∀ c ∈ (Jvm.Cond.code x code maxLocals ret :: tables_1), c.before #[Value.ref b] s = true := atoms_spec (ws := Jvm.Cond.code x code maxLocals ret :: tables_1) B.pre
    have hts : ∀ w ∈ lw_tbl, w.before #[Value.ref b] s = true := k2_hts_sels lw_privs (fun w hw => hts0 w (List.mem_cons_of_mem _ hw)) lw_privs_ok
    have hml : c.maxLocals = 8 := B.maxLocals_eq (hts0 _ List.mem_cons_self)
    have X₀ : Stand p l e room_1 s m #[Value.ref b] below meth c s₁ [] 0 0 := Stand.of_body B
    have hh0 : s₁.heap = s.heap := by rw [B.state]; rfl
    have hsz : scr.slots.size = xs.length := by rw [← Array.length_toList, hlist, List.length_map]
    have hval : ∀ j : Nat, j < xs.length → scr.slots[j]? = some (.int (xs.getD j 0)) := fun j hj => by
      rw [← Array.getElem?_toList, hlist]
      simp [hj]
    have hbl : b < s.heap.size := (Array.getElem?_eq_some_iff.mp hcb).1
    have hX : va_X b xs.length (fun j => xs.getD j 0) s s.heap := ⟨scr, hcb, hof, hkn, hsz, hval⟩
    have K : W p l e room_1 s m #[Value.ref b] below meth c s₁.heap [] 0 0 (lw_Z below #[Value.ref b] s) (entryFrame m ([Value.ref b] : List Value).toArray 8) := by
      rw [hh0]
      exact whole_start l hlt hbd ⟨B.exec, B.bytes, B.returns, hml, hown, hts, hX, hbl, B.notSynchronized, hgv⟩
    obtain ⟨t, a1, o, b1, b2, b3⟩ := K s₁ rfl X₀
    exact ⟨t, o, a1, b1, b2, b3⟩
theorem lw_pre_spec {args : Array Value} {s : State} (h : (Jvm.Cond.and given_1 narrow_1).before args s = true) (hr : rest_1_c.before args s = true) : ∃ (b : Addr) (xs : List Int32), lw_P b xs args s := by
  have hs := flat_of_before _ h
  have hq := flat_of_before _ hr
  have hc : (Cond.count 1).before args s = true := hs _ (by decide +kernel)
  have harr : (Cond.arrayOf (.arg 0) .int).before args s = true := hs _ (by decide +kernel)
  have hle : (Cond.le (.length (.arg 0)) (.int 3072)).before args s = true := hs _ (by decide +kernel)
  have hlen : (Cond.isInt (.length (.arg 0))).before args s = true := hq _ (by decide +kernel)
  have hall : (Cond.all (.arg 0) (.isInt (.elem (.arg 0) (.index 0)))).before args s = true := hq _ (by decide +kernel)
  obtain ⟨b, xs, hb, hx⟩ := State.ints_of_pre rfl harr hlen hall
  have hsm : xs.length < 2 ^ 31 := hx.choose_spec.2.2.2
  have hev : (Term.length (.arg 0)).eval args s none [] s = some (.int xs.length.toInt32) := hx.length_eval hb
  have hv := Cond.le_ints hev (show (Term.int 3072).eval args s none [] s = some (.int 3072) from rfl)
  have hd : xs.length.toInt32 ≤ 3072 := by
    simpa [Cond.before, Cond.holds, hv] using hle
  have hN : xs.length ≤ 3072 := (Int32.ofNat_le_ofNat hsm (by decide)).mp (show Int32.ofNat xs.length ≤ Int32.ofNat 3072 from hd)
  exact ⟨b, xs, Cond.one_arg hc (show args[0]? = some (.ref b) from hb), hx, hN, h⟩
theorem lw_comes (l : Launch) (hlt : l.stackTraces = false) : Comes l x (Jvm.Cond.code x code maxLocals ret :: tables_1) room_1 (fun tb e args s => Calls_1 tb e args s ∧ rest_1 tb e args s ∧ Pre_1 tb e args s)
    (fun _ _ args s o t => lw_Q args s o t) := by
  intro p e ha hc hk s m args below hf hfit hheap happ hpre
  obtain ⟨b, xs, hP⟩ := lw_pre_spec hpre.2.2 hpre.2.1
  obtain ⟨k, o, h1, h2, h3, hQ⟩ := lw_walk l hlt b xs p e ha hc hk s m args below hf ((Spec.applies_iff_loose hf).mp happ).1 hP trivial
  exact ⟨k, o, h1, h2, h3, hQ⟩
theorem lw_frame {s t : State} {o : Outcome} {args : Array Value} (h : Framed s o t [] 601024 7293034) :
    Framed s o t (fieldLocs frame_1_writes args s ++ arrayLocs frame_1_arrays args s ++ staticLocs frame_1_statics s) 601024 7293034 := h
theorem lw_limb (L : Cond) (hL : ∀ (args : Array Value) (s t : State), L.after args s (.returned (some (.int 1))) t = true) :
    ArmFor flags0 classFile x code maxLocals ret World_1 tables_1 room_1 Calls_1 rest_1 Pre_1
      (fun tb e a s o t => postC L tb e a s o t ∧ Framed s o t (fieldLocs frame_1_writes a s ++ arrayLocs frame_1_arrays a s ++ staticLocs frame_1_statics s) 601024 7293034) := by
  intro l hfl _ _ p e ha hc hk s m args below hf hfit hheap happ hpre
  obtain ⟨k, o, h1, h2, h3, rfl, hF⟩ := lw_comes l (by unfold Launch.stackTraces; rw [hfl]; decide +kernel) p e ha hc hk s m args below hf hfit hheap happ hpre
  exact ⟨k, _, h1, h2, h3, hL args s _, lw_frame hF⟩
theorem i_vc : Claimed_1_1 ∧ Claimed_1_2 := ⟨lw_limb limb_1_1 (fun args s t => by simp [limb_1_1, Cond.after, Cond.holds, Cond.value]), lw_limb limb_1_2 (fun args s t => Cond.after_iff.mpr (by
  first | (rw [show limb_1_2 = Cond.eq .result (.int 1) from rfl, Cond.eq_ints (x := 1) (y := 1) rfl rfl]; simp; done) | (simp [limb_1_2, Cond.value, Term.eval]; done)))⟩
