def slotL (x : Int32) : List Nat := if x < 0 then [] else [x.toNatClampNeg]
def mkT (a b : Nat → Int32) : Nat → List Nat
  | 0 => []
  | n + 1 => slotL (b n) ++ (slotL (a n) ++ mkT a b n)
def mkF (cc cand ph mk : Nat → Nat) (M : List Nat) : Nat → List Nat
  | 0 => M
  | f + 1 => (if 1 < ph f then [mk f] else []) ++ (lstN (fun j => cand (16 * f + j)) (cc f) ++ mkF cc cand ph mk M f)
def mk3 (μ : MS) : List Nat := lstN (m_occh μ) (m_ocached μ) ++ (lstN (m_cch μ) (m_cached μ) ++ mkT (m_trc μ) (m_otrc μ) 24)
def marks (μ : MS) : List Nat := mkF (m_cc μ) (m_cand μ) (m_ph μ) (m_mk μ) (mk3 μ) (m_hgt μ)
/-- a slot or none -/
def sl1 (x : Int32) : Prop := x = -1 ∨ ∃ t, t < 320 ∧ x = nI t
theorem sl1_nn {x : Int32} (h : sl1 x) (hx : ¬ x < 0) : ∃ t, t < 320 ∧ x = nI t := h.resolve_left (fun e => hx (by rw [e]; decide))
theorem slotL_nI {t : Nat} (ht : t < 320) : slotL (nI t) = [t] := by
  unfold slotL
  rw [if_neg (nI_nn (by omega)), nI_clamp (by omega)]
theorem slotL_len (x : Int32) : (slotL x).length ≤ 1 := by
  unfold slotL
  split
  · exact Nat.zero_le 1
  · exact Nat.le_refl 1
theorem mkT_len (a b : Nat → Int32) : ∀ n, (mkT a b n).length ≤ 2 * n
  | 0 => Nat.le_refl 0
  | n + 1 => by
    have h := mkT_len a b n
    have h1 := slotL_len (a n)
    have h2 := slotL_len (b n)
    unfold mkT
    rw [List.length_append, List.length_append]
    omega
theorem mkF_len (cc cand ph mk : Nat → Nat) (M : List Nat) : ∀ n, (∀ f, f < n → cc f ≤ 16) → (mkF cc cand ph mk M n).length ≤ 17 * n + M.length
  | 0, _ => by unfold mkF; omega
  | n + 1, hc => by
    have h := mkF_len cc cand ph mk M n (fun f hf => hc f (by omega))
    have h1 := hc n (by omega)
    unfold mkF
    rw [List.length_append, List.length_append, lstN_len]
    split
    · rw [List.length_singleton]; omega
    · rw [List.length_nil]; omega
theorem pigeon : ∀ (n : Nat) (M : List Nat), (∀ t, t < n → t ∈ M) → n ≤ M.length
  | 0, _, _ => Nat.zero_le _
  | n + 1, M, h => by
    have hm := h n (by omega)
    have h2 := pigeon n (M.erase n) (fun t ht => (List.mem_erase_of_ne (by omega)).mpr (h t (by omega)))
    have h3 := List.length_erase_of_mem hm
    have h4 : 0 < M.length := List.length_pos_of_mem hm
    omega
theorem mem_up {u : Nat → Bool} {M : List Nat} {a : Nat} (hu : ∀ t, t < 320 → (u t = true ↔ t ∈ M)) : ∀ t, t < 320 → (va_up u a true t = true ↔ t ∈ a :: M) := by
  intro t ht
  by_cases e : t = a
  · rw [e, va_up_self]
    exact ⟨fun _ => List.mem_cons_self, fun _ => rfl⟩
  · rw [va_up_ne _ _ e, List.mem_cons]
    exact ⟨fun h => Or.inr ((hu t ht).mp h), fun h => (hu t ht).mpr (h.resolve_left e)⟩
theorem mem_lst {u : Nat → Bool} {M : List Nat} {x : Nat → Nat} {i : Nat} (hu : ∀ t, t < 320 → (u t = true ↔ t ∈ lstN x i ++ M)) : ∀ t, t < 320 → (va_up u (x i) true t = true ↔ t ∈ lstN x (i + 1) ++ M) := by
  intro t ht
  rw [mem_up hu t ht, lstN_s, List.mem_cons, List.mem_append, List.mem_append, List.mem_append, List.mem_singleton]
  exact ⟨fun h => h.elim (fun a => Or.inl (Or.inr a)) (fun a => a.elim (fun b => Or.inl (Or.inl b)) Or.inr), fun h => h.elim (fun a => a.elim (fun b => Or.inr (Or.inl b)) Or.inl) (fun b => Or.inr (Or.inr b))⟩
/-- what is owed of the slots -/
def sOK (μ : MS) : Prop := (∀ i, i < 24 → sl1 (m_trc μ i) ∧ sl1 (m_otrc μ i)) ∧ m_cached μ ≤ 17 ∧ m_ocached μ ≤ 17 ∧ (∀ i, i < m_cached μ → m_cch μ i < 320) ∧ (∀ i, i < m_ocached μ → m_occh μ i < 320) ∧ m_hgt μ ≤ 12 ∧ ∀ f, f < m_hgt μ → m_cc μ f ≤ 16 ∧ m_ph μ f < 4 ∧ (∀ i, i < m_cc μ f → m_cand μ (16 * f + i) < 320) ∧ (1 < m_ph μ f → m_mk μ f < 320)
theorem free_ex {μ : MS} (h : sOK μ) {u : Nat → Bool} (hu : ∀ t, t < 320 → (u t = true ↔ t ∈ marks μ)) : ∃ t, t < 320 ∧ u t = false := by
  refine Classical.byContradiction (fun hn => ?_)
  have hall : ∀ t, t < 320 → t ∈ marks μ := fun t ht => (hu t ht).mp (by
    cases h9 : u t with
    | true => rfl
    | false => exact absurd ⟨t, ht, h9⟩ hn)
  have h1 := pigeon 320 (marks μ) hall
  have h2 := mkF_len (m_cc μ) (m_cand μ) (m_ph μ) (m_mk μ) (mk3 μ) (m_hgt μ) (fun f hf => (h.2.2.2.2.2.2 f hf).1)
  have h3 := mkT_len (m_trc μ) (m_otrc μ) 24
  have h4 : (mk3 μ).length = m_ocached μ + (m_cached μ + (mkT (m_trc μ) (m_otrc μ) 24).length) := by
    unfold mk3
    rw [List.length_append, List.length_append, lstN_len, lstN_len]
  have h5 := h.2.1
  have h6 := h.2.2.1
  have h7 := h.2.2.2.2.2.1
  unfold marks at h1
  omega
set_option maxHeartbeats 4000000 in
set_option maxRecDepth 100000 in
theorem c_D_freeTrace {l : Launch} {s0 : State} {dC : Nat → ClassId} {dI : Nat → Nat → Nat} {dA : Nat → ClassId} (B0 : BB s0 dC dI dA) (w : fw_W) (md : Nat → Nat) (μ : MS) (hj : Inj37 md) (hD : RD dA md w μ) (hok : sOK μ) : Met l y_D_freeTrace [.code y_D_freeTrace b_D_freeTrace 3 (some .int)] ({ frames := 0, cells := 0, slots := 0, locals := 0 }) (mP s0 dC dI w [.ref (md 36)]) (mQi s0 dC dI (fun r w' => ∃ t, r = nI t ∧ t < 320 ∧ t ∉ marks μ ∧ RD dA md w' μ ∧ OutD md w w')) 0 0 (AA s0) := by
  have hok0 := hok
  obtain ⟨o1, o2, o3, o4, o5, o6, o7⟩ := hok0
  have o1b := o1
  have o7b := o7
  refine mt_ofW B0 (by decide) (Nat.le_of_ble_eq_true rfl) (fun p e s m args below meth c ls hargs X hin hl hP => ?_)
  have X9 := X
  obtain ⟨hx, hb, hr, hml, hown, hg, hK, hn, hE, hlocks, hA⟩ := X9
  have hS : va_S (AA s0) s.heap s.heap [] := va_S.rf
  have hl : lv_has ls 3 [(0, .ref (md 36))] := hl
  obtain ⟨r36, r0, r1, r2, r3, r4, r5, r6, r7, r8, ⟨u, r9⟩, r10, r11, r12, r13, r14, r15, r23, r24, r25, r26, r27, r28, r29, r30, r31, r32, r33, r34⟩ := (id hD)
  refine lv_iconst (v := (nI 0)) hx hb d_D_freeTrace_0 (by decide) ?_
  refine lv_istore_n (lv' := [(1, .int (nI 0)), (0, .ref (md 36))]) hx hb d_D_freeTrace_1 rfl hl (by decide) rfl (fun ls hl => ?_)
  suffices lp : ∀ (n : Nat) (i : Nat) (u : Nat → Bool), (i ≤ 320) → (∀ t, t < i → u t = false) → (320 < i + n) → ∀ (wl : fw_W) (H : Heap) (locs : List Loc), (RD dA md wl μ) → (wl (md 9) = some (.inl (dA 2, 320, .inl (zf u)))) → (OutD md w wl) → fw_P (dC, dI) cls_ (AA s0) wl H → va_S (AA s0) s.heap H locs → ∀ (ls : Array Slot), lv_has ls 3 [(0, .ref (md 36)), (1, .int (nI i))] → W p l e _ s m args below meth c H locs 0 0 (MQ below _ args s 0 0 (AA s0)) (F0 m 2 ls []) from lp 321 0 u (by omega) (fun t ht => absurd ht (by omega)) (by omega) _ _ _  (⟨r36, r0, r1, r2, r3, r4, r5, r6, r7, r8, ⟨_, r9⟩, r10, r11, r12, r13, r14, r15, r23, r24, r25, r26, r27, r28, r29, r30, r31, r32, r33, r34⟩) r9 OutD.rf hP hS ls (lv_sub hl [1, 0] rfl)
  intro n
  induction n with
  | zero => intro i u hi hu hbn; exact absurd hbn (by omega)
  | succ n ih =>
    intro i u hi hu hbn wl H locs  hR9 h9u ho9 hP hS ls hl
    obtain ⟨r36, r0, r1, r2, r3, r4, r5, r6, r7, r8, ⟨u9, r9⟩, r10, r11, r12, r13, r14, r15, r23, r24, r25, r26, r27, r28, r29, r30, r31, r32, r33, r34⟩ := (id hR9)
    refine lv_iload_n hx hb d_D_freeTrace_2 rfl (lv_at hl 1 rfl) ?_
    refine lv_sipush (v := (nI 320)) hx hb d_D_freeTrace_3 (by decide) ?_
    refine nu_ge (tgt := 22) hx hb (by omega) (by omega) d_D_freeTrace_6 (by decide) (fun c1 => ?_) (fun c1 => ?_)
    · refine lv_iconst (v := (nI 0)) hx hb d_D_freeTrace_22 (by decide) ?_
      refine lv_istore_n (lv' := [(1, .int (nI 0)), (0, .ref (md 36))]) hx hb d_D_freeTrace_23 rfl hl (by decide) rfl (fun ls hl => ?_)
      suffices lp : ∀ (n : Nat) (i : Nat) (u : Nat → Bool), (i ≤ 24) → (∀ t, t < 320 → (u t = true ↔ t ∈ mkT (m_trc μ) (m_otrc μ) i)) → (24 < i + n) → ∀ (wl : fw_W) (H : Heap) (locs : List Loc), (RD dA md wl μ) → (wl (md 9) = some (.inl (dA 2, 320, .inl (zf u)))) → (OutD md w wl) → fw_P (dC, dI) cls_ (AA s0) wl H → va_S (AA s0) s.heap H locs → ∀ (ls : Array Slot), lv_has ls 3 [(0, .ref (md 36)), (1, .int (nI i))] → W p l e _ s m args below meth c H locs 0 0 (MQ below _ args s 0 0 (AA s0)) (F0 m 24 ls []) from lp 25 0 u (by omega) (fun t ht => ⟨fun h9 => absurd h9 (by rw [hu t (by omega)]; simp), fun h9 => absurd h9 List.not_mem_nil⟩) (by omega) _ _ _  (⟨r36, r0, r1, r2, r3, r4, r5, r6, r7, r8, ⟨_, h9u⟩, r10, r11, r12, r13, r14, r15, r23, r24, r25, r26, r27, r28, r29, r30, r31, r32, r33, r34⟩) h9u ho9 hP hS ls (lv_sub hl [1, 0] rfl)
      intro n
      induction n with
      | zero => intro i u hi hu hbn; exact absurd hbn (by omega)
      | succ n ih =>
        intro i u hi hu hbn wl H locs  hR9 h9u ho9 hP hS ls hl
        obtain ⟨r36, r0, r1, r2, r3, r4, r5, r6, r7, r8, ⟨u9, r9⟩, r10, r11, r12, r13, r14, r15, r23, r24, r25, r26, r27, r28, r29, r30, r31, r32, r33, r34⟩ := (id hR9)
        refine lv_iload_n hx hb d_D_freeTrace_24 rfl (lv_at hl 1 rfl) ?_
        refine lv_bipush (v := (nI 24)) hx hb d_D_freeTrace_25 (by decide) ?_
        refine nu_ge (tgt := 78) hx hb (by omega) (by omega) d_D_freeTrace_27 (by decide) (fun c1 => ?_) (fun c1 => ?_)
        · have hi24 : i = 24 := by omega
          subst hi24
          refine lv_iconst (v := (nI 0)) hx hb d_D_freeTrace_78 (by decide) ?_
          refine lv_istore_n (lv' := [(1, .int (nI 0)), (0, .ref (md 36))]) hx hb d_D_freeTrace_79 rfl hl (by decide) rfl (fun ls hl => ?_)
          suffices lp : ∀ (n : Nat) (i : Nat) (u : Nat → Bool), (i ≤ m_cached μ) → (∀ t, t < 320 → (u t = true ↔ t ∈ lstN (m_cch μ) i ++ mkT (m_trc μ) (m_otrc μ) 24)) → (m_cached μ < i + n) → ∀ (wl : fw_W) (H : Heap) (locs : List Loc), (RD dA md wl μ) → (wl (md 9) = some (.inl (dA 2, 320, .inl (zf u)))) → (OutD md w wl) → fw_P (dC, dI) cls_ (AA s0) wl H → va_S (AA s0) s.heap H locs → ∀ (ls : Array Slot), lv_has ls 3 [(0, .ref (md 36)), (1, .int (nI i))] → W p l e _ s m args below meth c H locs 0 0 (MQ below _ args s 0 0 (AA s0)) (F0 m 80 ls []) from lp (m_cached μ + 1) 0 u (by omega) (fun t ht => by rw [lstN_0, List.nil_append]; exact hu t ht) (by omega) _ _ _  (⟨r36, r0, r1, r2, r3, r4, r5, r6, r7, r8, ⟨_, h9u⟩, r10, r11, r12, r13, r14, r15, r23, r24, r25, r26, r27, r28, r29, r30, r31, r32, r33, r34⟩) h9u ho9 hP hS ls (lv_sub hl [1, 0] rfl)
          intro n
          induction n with
          | zero => intro i u hi hu hbn; exact absurd hbn (by omega)
          | succ n ih =>
            intro i u hi hu hbn wl H locs  hR9 h9u ho9 hP hS ls hl
            obtain ⟨r36, r0, r1, r2, r3, r4, r5, r6, r7, r8, ⟨u9, r9⟩, r10, r11, r12, r13, r14, r15, r23, r24, r25, r26, r27, r28, r29, r30, r31, r32, r33, r34⟩ := (id hR9)
            refine lv_iload_n hx hb d_D_freeTrace_80 rfl (lv_at hl 1 rfl) ?_
            refine lv_aload_n hx hb d_D_freeTrace_81 rfl (lv_at hl 0 rfl) ?_
            have r36 : wl (md 36) = some (.inr (5, [.ref (md 0), .ref (md 1), .ref (md 2), .ref (md 3), .ref (md 4), .ref (md 5), .ref (md 6), .ref (md 7), .ref (md 8), .ref (md 9), .ref (md 10), .ref (md 11), .ref (md 12), .ref (md 13), .ref (md 14), .ref (md 15), .int (nI (m_cached μ)), .int (nI (m_ocached μ)), .int (m_circ μ), .int (m_ocirc μ), .int (nI (m_thr μ)), .int (nI (m_wkr μ)), .int (nI (m_ran μ).toNat), .ref (md 23), .ref (md 24), .ref (md 25), .ref (md 26), .ref (md 27), .ref (md 28), .ref (md 29), .ref (md 30), .ref (md 31), .ref (md 32), .ref (md 33), .ref (md 34), .int (nI (m_hgt μ))])) := r36
            refine va_get (D := (dC, dI)) (ci := 5) (v := .int (nI (m_cached μ))) (C := R_D) (T := F_D) (N := 36) hx hb hg in_D hown hK (hP.one r36) 0 rfl rfl 16 (by decide) (hg _ k_607) (fun _ h9 => h9) rfl d_D_freeTrace_82 ?_
            refine nu_ge (tgt := 106) hx hb (by omega) (by omega) d_D_freeTrace_85 (by decide) (fun c2 => ?_) (fun c2 => ?_)
            · have hiN : i = m_cached μ := by omega
              subst hiN
              refine lv_iconst (v := (nI 0)) hx hb d_D_freeTrace_106 (by decide) ?_
              refine lv_istore_n (lv' := [(1, .int (nI 0)), (0, .ref (md 36))]) hx hb d_D_freeTrace_107 rfl hl (by decide) rfl (fun ls hl => ?_)
              suffices lp : ∀ (n : Nat) (i : Nat) (u : Nat → Bool), (i ≤ m_ocached μ) → (∀ t, t < 320 → (u t = true ↔ t ∈ lstN (m_occh μ) i ++ (lstN (m_cch μ) (m_cached μ) ++ mkT (m_trc μ) (m_otrc μ) 24))) → (m_ocached μ < i + n) → ∀ (wl : fw_W) (H : Heap) (locs : List Loc), (RD dA md wl μ) → (wl (md 9) = some (.inl (dA 2, 320, .inl (zf u)))) → (OutD md w wl) → fw_P (dC, dI) cls_ (AA s0) wl H → va_S (AA s0) s.heap H locs → ∀ (ls : Array Slot), lv_has ls 3 [(0, .ref (md 36)), (1, .int (nI i))] → W p l e _ s m args below meth c H locs 0 0 (MQ below _ args s 0 0 (AA s0)) (F0 m 108 ls []) from lp (m_ocached μ + 1) 0 u (by omega) (fun t ht => by rw [lstN_0, List.nil_append]; exact hu t ht) (by omega) _ _ _  (⟨r36, r0, r1, r2, r3, r4, r5, r6, r7, r8, ⟨_, h9u⟩, r10, r11, r12, r13, r14, r15, r23, r24, r25, r26, r27, r28, r29, r30, r31, r32, r33, r34⟩) h9u ho9 hP hS ls (lv_sub hl [1, 0] rfl)
              intro n
              induction n with
              | zero => intro i u hi hu hbn; exact absurd hbn (by omega)
              | succ n ih =>
                intro i u hi hu hbn wl H locs  hR9 h9u ho9 hP hS ls hl
                obtain ⟨r36, r0, r1, r2, r3, r4, r5, r6, r7, r8, ⟨u9, r9⟩, r10, r11, r12, r13, r14, r15, r23, r24, r25, r26, r27, r28, r29, r30, r31, r32, r33, r34⟩ := (id hR9)
                refine lv_iload_n hx hb d_D_freeTrace_108 rfl (lv_at hl 1 rfl) ?_
                refine lv_aload_n hx hb d_D_freeTrace_109 rfl (lv_at hl 0 rfl) ?_
                have r36 : wl (md 36) = some (.inr (5, [.ref (md 0), .ref (md 1), .ref (md 2), .ref (md 3), .ref (md 4), .ref (md 5), .ref (md 6), .ref (md 7), .ref (md 8), .ref (md 9), .ref (md 10), .ref (md 11), .ref (md 12), .ref (md 13), .ref (md 14), .ref (md 15), .int (nI (m_cached μ)), .int (nI (m_ocached μ)), .int (m_circ μ), .int (m_ocirc μ), .int (nI (m_thr μ)), .int (nI (m_wkr μ)), .int (nI (m_ran μ).toNat), .ref (md 23), .ref (md 24), .ref (md 25), .ref (md 26), .ref (md 27), .ref (md 28), .ref (md 29), .ref (md 30), .ref (md 31), .ref (md 32), .ref (md 33), .ref (md 34), .int (nI (m_hgt μ))])) := r36
                refine va_get (D := (dC, dI)) (ci := 5) (v := .int (nI (m_ocached μ))) (C := R_D) (T := F_D) (N := 36) hx hb hg in_D hown hK (hP.one r36) 0 rfl rfl 17 (by decide) (hg _ k_608) (fun _ h9 => h9) rfl d_D_freeTrace_110 ?_
                refine nu_ge (tgt := 134) hx hb (by omega) (by omega) d_D_freeTrace_113 (by decide) (fun c2 => ?_) (fun c2 => ?_)
                · have hiN : i = m_ocached μ := by omega
                  subst hiN
                  refine lv_iconst (v := (nI 0)) hx hb d_D_freeTrace_134 (by decide) ?_
                  refine lv_istore_n (lv' := [(1, .int (nI 0)), (0, .ref (md 36))]) hx hb d_D_freeTrace_135 rfl hl (by decide) rfl (fun ls hl => ?_)
                  suffices lp : ∀ (n : Nat) (i : Nat) (u : Nat → Bool), (i ≤ m_hgt μ) → (∀ t, t < 320 → (u t = true ↔ t ∈ mkF (m_cc μ) (m_cand μ) (m_ph μ) (m_mk μ) (mk3 μ) i)) → (m_hgt μ < i + n) → ∀ (wl : fw_W) (H : Heap) (locs : List Loc), (RD dA md wl μ) → (wl (md 9) = some (.inl (dA 2, 320, .inl (zf u)))) → (OutD md w wl) → fw_P (dC, dI) cls_ (AA s0) wl H → va_S (AA s0) s.heap H locs → ∀ (ls : Array Slot), lv_has ls 3 [(0, .ref (md 36)), (1, .int (nI i))] → W p l e _ s m args below meth c H locs 0 0 (MQ below _ args s 0 0 (AA s0)) (F0 m 136 ls []) from lp (m_hgt μ + 1) 0 u (by omega) (fun t ht => by rw [show mkF (m_cc μ) (m_cand μ) (m_ph μ) (m_mk μ) (mk3 μ) 0 = mk3 μ from rfl]; unfold mk3; exact hu t ht) (by omega) _ _ _  (⟨r36, r0, r1, r2, r3, r4, r5, r6, r7, r8, ⟨_, h9u⟩, r10, r11, r12, r13, r14, r15, r23, r24, r25, r26, r27, r28, r29, r30, r31, r32, r33, r34⟩) h9u ho9 hP hS ls (lv_sub hl [1, 0] rfl)
                  intro n
                  induction n with
                  | zero => intro i u hi hu hbn; exact absurd hbn (by omega)
                  | succ n ih =>
                    intro i u hi hu hbn wl H locs  hR9 h9u ho9 hP hS ls hl
                    obtain ⟨r36, r0, r1, r2, r3, r4, r5, r6, r7, r8, ⟨u9, r9⟩, r10, r11, r12, r13, r14, r15, r23, r24, r25, r26, r27, r28, r29, r30, r31, r32, r33, r34⟩ := (id hR9)
                    refine lv_iload_n hx hb d_D_freeTrace_136 rfl (lv_at hl 1 rfl) ?_
                    refine lv_aload_n hx hb d_D_freeTrace_137 rfl (lv_at hl 0 rfl) ?_
                    have r36 : wl (md 36) = some (.inr (5, [.ref (md 0), .ref (md 1), .ref (md 2), .ref (md 3), .ref (md 4), .ref (md 5), .ref (md 6), .ref (md 7), .ref (md 8), .ref (md 9), .ref (md 10), .ref (md 11), .ref (md 12), .ref (md 13), .ref (md 14), .ref (md 15), .int (nI (m_cached μ)), .int (nI (m_ocached μ)), .int (m_circ μ), .int (m_ocirc μ), .int (nI (m_thr μ)), .int (nI (m_wkr μ)), .int (nI (m_ran μ).toNat), .ref (md 23), .ref (md 24), .ref (md 25), .ref (md 26), .ref (md 27), .ref (md 28), .ref (md 29), .ref (md 30), .ref (md 31), .ref (md 32), .ref (md 33), .ref (md 34), .int (nI (m_hgt μ))])) := r36
                    refine va_get (D := (dC, dI)) (ci := 5) (v := .int (nI (m_hgt μ))) (C := R_D) (T := F_D) (N := 36) hx hb hg in_D hown hK (hP.one r36) 0 rfl rfl 35 (by decide) (hg _ k_626) (fun _ h9 => h9) rfl d_D_freeTrace_138 ?_
                    refine nu_ge (tgt := 207) hx hb (by omega) (by omega) d_D_freeTrace_141 (by decide) (fun c2 => ?_) (fun c2 => ?_)
                    · have hiN : i = m_hgt μ := by omega
                      subst hiN
                      have hu : ∀ t, t < 320 → (u t = true ↔ t ∈ marks μ) := fun t ht => by unfold marks; exact hu t ht
                      obtain ⟨ts, hts, hus⟩ := free_ex hok hu
                      refine lv_iconst (v := (nI 0)) hx hb d_D_freeTrace_207 (by decide) ?_
                      refine lv_istore_n (lv' := [(1, .int (nI 0)), (0, .ref (md 36))]) hx hb d_D_freeTrace_208 rfl hl (by decide) rfl (fun ls hl => ?_)
                      suffices lp : ∀ (n : Nat) (i : Nat) (u : Nat → Bool), (i ≤ ts) → (u ts = false) → (∀ t, t < 320 → (u t = true ↔ t ∈ marks μ)) → (ts < i + n) → ∀ (wl : fw_W) (H : Heap) (locs : List Loc), (RD dA md wl μ) → (wl (md 9) = some (.inl (dA 2, 320, .inl (zf u)))) → (OutD md w wl) → fw_P (dC, dI) cls_ (AA s0) wl H → va_S (AA s0) s.heap H locs → ∀ (ls : Array Slot), lv_has ls 3 [(0, .ref (md 36)), (1, .int (nI i))] → W p l e _ s m args below meth c H locs 0 0 (MQ below _ args s 0 0 (AA s0)) (F0 m 209 ls []) from lp (ts + 1) 0 u (by omega) hus hu (by omega) _ _ _  (⟨r36, r0, r1, r2, r3, r4, r5, r6, r7, r8, ⟨_, h9u⟩, r10, r11, r12, r13, r14, r15, r23, r24, r25, r26, r27, r28, r29, r30, r31, r32, r33, r34⟩) h9u ho9 hP hS ls (lv_sub hl [1, 0] rfl)
                      intro n
                      induction n with
                      | zero => intro i u hi hus hu hbn; exact absurd hbn (by omega)
                      | succ n ih =>
                        intro i u hi hus hu hbn wl H locs  hR9 h9u ho9 hP hS ls hl
                        obtain ⟨r36, r0, r1, r2, r3, r4, r5, r6, r7, r8, ⟨u9, r9⟩, r10, r11, r12, r13, r14, r15, r23, r24, r25, r26, r27, r28, r29, r30, r31, r32, r33, r34⟩ := (id hR9)
                        refine lv_aload_n hx hb d_D_freeTrace_209 rfl (lv_at hl 0 rfl) ?_
                        have r36 : wl (md 36) = some (.inr (5, [.ref (md 0), .ref (md 1), .ref (md 2), .ref (md 3), .ref (md 4), .ref (md 5), .ref (md 6), .ref (md 7), .ref (md 8), .ref (md 9), .ref (md 10), .ref (md 11), .ref (md 12), .ref (md 13), .ref (md 14), .ref (md 15), .int (nI (m_cached μ)), .int (nI (m_ocached μ)), .int (m_circ μ), .int (m_ocirc μ), .int (nI (m_thr μ)), .int (nI (m_wkr μ)), .int (nI (m_ran μ).toNat), .ref (md 23), .ref (md 24), .ref (md 25), .ref (md 26), .ref (md 27), .ref (md 28), .ref (md 29), .ref (md 30), .ref (md 31), .ref (md 32), .ref (md 33), .ref (md 34), .int (nI (m_hgt μ))])) := r36
                        refine va_get (D := (dC, dI)) (ci := 5) (v := .ref (md 9)) (C := R_D) (T := F_D) (N := 36) hx hb hg in_D hown hK (hP.one r36) 0 rfl rfl 9 (by decide) (hg _ k_600) (fun _ h9 => h9) rfl d_D_freeTrace_210 ?_
                        refine lv_iload_n hx hb d_D_freeTrace_213 rfl (lv_at hl 1 rfl) ?_
                        refine fw_zald (tys := tyl dA) hx hb hK hP h9u 2 rfl (j := i) (by omega) (by decide) d_D_freeTrace_214 ?_
                        refine nu_ifeq (tgt := 224) hx hb d_D_freeTrace_215 (by decide) (fun c3 => ?_) (fun c3 => ?_)
                        · refine lv_iload_n hx hb d_D_freeTrace_224 rfl (lv_at hl 1 rfl) ?_
                          exact W.iret (v := (nI i)) hx hb hr (fun tS ht hW => ⟨⟨(nI i), wl, rfl, ⟨i, rfl, by omega, fun h8 => absurd ((hu i (by omega)).mpr h8) (by rw [c3]; simp), ⟨r36, r0, r1, r2, r3, r4, r5, r6, r7, r8, ⟨_, h9u⟩, r10, r11, r12, r13, r14, r15, r23, r24, r25, r26, r27, r28, r29, r30, r31, r32, r33, r34⟩, ho9⟩, mB_of ht hP⟩, hS.F ht⟩) hS.2.2 d_D_freeTrace_225
                        · have hne : i ≠ ts := fun e9 => by rw [e9, hus] at c3; cases c3
                          refine lv_iinc (v := nI (i + 1)) (lv' := [(1, .int (nI (i + 1))), (0, .ref (md 36))]) hx hb d_D_freeTrace_218 hl (k := 1) rfl (nI_add _ 1) (by decide) rfl (fun ls hl => ?_)
                          refine lv_goto (tgt := 209) hx hb d_D_freeTrace_221 (by decide) ?_
                          exact ih (i + 1) u (by omega) hus hu (by omega) _ _ _  (⟨r36, r0, r1, r2, r3, r4, r5, r6, r7, r8, ⟨_, h9u⟩, r10, r11, r12, r13, r14, r15, r23, r24, r25, r26, r27, r28, r29, r30, r31, r32, r33, r34⟩) h9u ho9 hP hS ls (lv_sub hl [1, 0] rfl)
                    · obtain ⟨p1, p2, p3, p4⟩ := o7b i (by omega)
                      have ih5 := ih
                      have hbn5 := hbn
                      refine lv_iconst (v := (nI 0)) hx hb d_D_freeTrace_144 (by decide) ?_
                      refine lv_istore_n (lv' := [(2, .int (nI 0)), (0, .ref (md 36)), (1, .int (nI i))]) hx hb d_D_freeTrace_145 rfl hl (by decide) rfl (fun ls hl => ?_)
                      suffices lp : ∀ (n : Nat) (j : Nat) (u : Nat → Bool), (j ≤ m_cc μ i) → (∀ t, t < 320 → (u t = true ↔ t ∈ lstN (fun j => m_cand μ (16 * i + j)) j ++ mkF (m_cc μ) (m_cand μ) (m_ph μ) (m_mk μ) (mk3 μ) i)) → (m_cc μ i < j + n) → ∀ (wl : fw_W) (H : Heap) (locs : List Loc), (RD dA md wl μ) → (wl (md 9) = some (.inl (dA 2, 320, .inl (zf u)))) → (OutD md w wl) → fw_P (dC, dI) cls_ (AA s0) wl H → va_S (AA s0) s.heap H locs → ∀ (ls : Array Slot), lv_has ls 3 [(0, .ref (md 36)), (1, .int (nI i)), (2, .int (nI j))] → W p l e _ s m args below meth c H locs 0 0 (MQ below _ args s 0 0 (AA s0)) (F0 m 146 ls []) from lp (m_cc μ i + 1) 0 u (by omega) (fun t ht => by rw [lstN_0, List.nil_append]; exact hu t ht) (by omega) _ _ _  (⟨r36, r0, r1, r2, r3, r4, r5, r6, r7, r8, ⟨_, h9u⟩, r10, r11, r12, r13, r14, r15, r23, r24, r25, r26, r27, r28, r29, r30, r31, r32, r33, r34⟩) h9u ho9 hP hS ls (lv_sub hl [1, 2, 0] rfl)
                      intro n
                      induction n with
                      | zero => intro j u hj0 hu hbn; exact absurd hbn (by omega)
                      | succ n ih =>
                        intro j u hj0 hu hbn wl H locs  hR9 h9u ho9 hP hS ls hl
                        obtain ⟨r36, r0, r1, r2, r3, r4, r5, r6, r7, r8, ⟨u9, r9⟩, r10, r11, r12, r13, r14, r15, r23, r24, r25, r26, r27, r28, r29, r30, r31, r32, r33, r34⟩ := (id hR9)
                        refine lv_iload_n hx hb d_D_freeTrace_146 rfl (lv_at hl 2 rfl) ?_
                        refine lv_aload_n hx hb d_D_freeTrace_147 rfl (lv_at hl 0 rfl) ?_
                        have r36 : wl (md 36) = some (.inr (5, [.ref (md 0), .ref (md 1), .ref (md 2), .ref (md 3), .ref (md 4), .ref (md 5), .ref (md 6), .ref (md 7), .ref (md 8), .ref (md 9), .ref (md 10), .ref (md 11), .ref (md 12), .ref (md 13), .ref (md 14), .ref (md 15), .int (nI (m_cached μ)), .int (nI (m_ocached μ)), .int (m_circ μ), .int (m_ocirc μ), .int (nI (m_thr μ)), .int (nI (m_wkr μ)), .int (nI (m_ran μ).toNat), .ref (md 23), .ref (md 24), .ref (md 25), .ref (md 26), .ref (md 27), .ref (md 28), .ref (md 29), .ref (md 30), .ref (md 31), .ref (md 32), .ref (md 33), .ref (md 34), .int (nI (m_hgt μ))])) := r36
                        refine va_get (D := (dC, dI)) (ci := 5) (v := .ref (md 30)) (C := R_D) (T := F_D) (N := 36) hx hb hg in_D hown hK (hP.one r36) 0 rfl rfl 30 (by decide) (hg _ k_621) (fun _ h9 => h9) rfl d_D_freeTrace_148 ?_
                        refine lv_iload_n hx hb d_D_freeTrace_151 rfl (lv_at hl 1 rfl) ?_
                        have r30 : wl (md 30) = some (.inl (dA 0, 13, .inl (nf (m_cc μ)))) := r30
                        refine fw_iald (tys := tyl dA) hx hb hK hP r30 0 rfl (j := i) (by omega) (by decide) d_D_freeTrace_152 ?_
                        refine nu_ge (tgt := 179) hx hb (by omega) (by omega) d_D_freeTrace_153 (by decide) (fun c3 => ?_) (fun c3 => ?_)
                        · have hjN : j = m_cc μ i := by omega
                          subst hjN
                          refine lv_aload_n hx hb d_D_freeTrace_179 rfl (lv_at hl 0 rfl) ?_
                          refine va_get (D := (dC, dI)) (ci := 5) (v := .ref (md 26)) (C := R_D) (T := F_D) (N := 36) hx hb hg in_D hown hK (hP.one r36) 0 rfl rfl 26 (by decide) (hg _ k_617) (fun _ h9 => h9) rfl d_D_freeTrace_180 ?_
                          refine lv_iload_n hx hb d_D_freeTrace_183 rfl (lv_at hl 1 rfl) ?_
                          have r26 : wl (md 26) = some (.inl (dA 0, 13, .inl (nf (m_ph μ)))) := r26
                          refine fw_iald (tys := tyl dA) hx hb hK hP r26 0 rfl (j := i) (by omega) (by decide) d_D_freeTrace_184 ?_
                          refine lv_iconst (v := (nI 1)) hx hb d_D_freeTrace_185 (by decide) ?_
                          refine nu_le (tgt := 201) hx hb (by omega) (by omega) d_D_freeTrace_186 (by decide) (fun c4 => ?_) (fun c4 => ?_)
                          · refine lv_iinc (v := nI (i + 1)) (lv' := [(1, .int (nI (i + 1))), (0, .ref (md 36)), (2, .int (nI (m_cc μ i)))]) hx hb d_D_freeTrace_201 hl (k := 1) rfl (nI_add _ 1) (by decide) rfl (fun ls hl => ?_)
                            refine lv_goto (tgt := 136) hx hb d_D_freeTrace_204 (by decide) ?_
                            exact ih5 (i + 1) u (by omega) (fun t ht => by rw [show mkF (m_cc μ) (m_cand μ) (m_ph μ) (m_mk μ) (mk3 μ) (i + 1) = (if 1 < m_ph μ i then [m_mk μ i] else []) ++ (lstN (fun j => m_cand μ (16 * i + j)) (m_cc μ i) ++ mkF (m_cc μ) (m_cand μ) (m_ph μ) (m_mk μ) (mk3 μ) i) from rfl, if_neg (by omega)]; exact hu t ht) (by omega) _ _ _  (⟨r36, r0, r1, r2, r3, r4, r5, r6, r7, r8, ⟨_, h9u⟩, r10, r11, r12, r13, r14, r15, r23, r24, r25, r26, r27, r28, r29, r30, r31, r32, r33, r34⟩) h9u ho9 hP hS ls (lv_sub hl [1, 0] rfl)
                          · have hb9 := p4 c4
                            refine lv_aload_n hx hb d_D_freeTrace_189 rfl (lv_at hl 0 rfl) ?_
                            refine va_get (D := (dC, dI)) (ci := 5) (v := .ref (md 9)) (C := R_D) (T := F_D) (N := 36) hx hb hg in_D hown hK (hP.one r36) 0 rfl rfl 9 (by decide) (hg _ k_600) (fun _ h9 => h9) rfl d_D_freeTrace_190 ?_
                            refine lv_aload_n hx hb d_D_freeTrace_193 rfl (lv_at hl 0 rfl) ?_
                            refine va_get (D := (dC, dI)) (ci := 5) (v := .ref (md 31)) (C := R_D) (T := F_D) (N := 36) hx hb hg in_D hown hK (hP.one r36) 0 rfl rfl 31 (by decide) (hg _ k_622) (fun _ h9 => h9) rfl d_D_freeTrace_194 ?_
                            refine lv_iload_n hx hb d_D_freeTrace_197 rfl (lv_at hl 1 rfl) ?_
                            have r31 : wl (md 31) = some (.inl (dA 0, 13, .inl (nf (m_mk μ)))) := r31
                            refine fw_iald (tys := tyl dA) hx hb hK hP r31 0 rfl (j := i) (by omega) (by decide) d_D_freeTrace_198 ?_
                            refine lv_iconst (v := (nI 1)) hx hb d_D_freeTrace_199 (by decide) ?_
                            refine fw_zast (tys := tyl dA) hx hb hK hP hS h9u 2 rfl (j := (m_mk μ) i) (x := (nI 1)) hb9 (by decide) d_D_freeTrace_200 (fun w1 H locs ew2 hP hS => ?_)
                            rw [show (nI 1) = nI (true).toNat from rfl] at ew2
                            rw [zf_up] at ew2
                            have h9u : w1 (md 9) = some (.inl (dA 2, 320, .inl (zf (va_up u ((m_mk μ) i) true)))) := by rw [ew2]; exact va_up_self _ _ _
                            have ho3 : OutD md w w1 := OutD.up ho9 ew2 (by decide)
                            refine lv_iinc (v := nI (i + 1)) (lv' := [(1, .int (nI (i + 1))), (0, .ref (md 36)), (2, .int (nI (m_cc μ i)))]) hx hb d_D_freeTrace_201 hl (k := 1) rfl (nI_add _ 1) (by decide) rfl (fun ls hl => ?_)
                            refine lv_goto (tgt := 136) hx hb d_D_freeTrace_204 (by decide) ?_
                            have hk4 : ∀ i, U37 i → i ∉ [9] → w1 (md i) = wl (md i) := fun i hi hn => by rw [ew2, va_up_ne _ _ (hj.ne hi (j := 9) (by decide) (fun e9 => hn (by rw [e9]; decide)))]
                            exact ih5 (i + 1) (va_up u (m_mk μ i) true) (by omega) (fun t ht => by rw [show mkF (m_cc μ) (m_cand μ) (m_ph μ) (m_mk μ) (mk3 μ) (i + 1) = (if 1 < m_ph μ i then [m_mk μ i] else []) ++ (lstN (fun j => m_cand μ (16 * i + j)) (m_cc μ i) ++ mkF (m_cc μ) (m_cand μ) (m_ph μ) (m_mk μ) (mk3 μ) i) from rfl, if_pos c4]; exact mem_up hu t ht) (by omega) _ _ _  (⟨(hk4 36 (by decide) (by decide)).trans r36, (hk4 0 (by decide) (by decide)).trans r0, (hk4 1 (by decide) (by decide)).trans r1, (hk4 2 (by decide) (by decide)).trans r2, (hk4 3 (by decide) (by decide)).trans r3, (hk4 4 (by decide) (by decide)).trans r4, (hk4 5 (by decide) (by decide)).trans r5, (hk4 6 (by decide) (by decide)).trans r6, (hk4 7 (by decide) (by decide)).trans r7, (hk4 8 (by decide) (by decide)).trans r8, ⟨_, h9u⟩, (hk4 10 (by decide) (by decide)).trans r10, (hk4 11 (by decide) (by decide)).trans r11, (hk4 12 (by decide) (by decide)).trans r12, (hk4 13 (by decide) (by decide)).trans r13, (hk4 14 (by decide) (by decide)).trans r14, (hk4 15 (by decide) (by decide)).trans r15, (hk4 23 (by decide) (by decide)).trans r23, (hk4 24 (by decide) (by decide)).trans r24, (hk4 25 (by decide) (by decide)).trans r25, (hk4 26 (by decide) (by decide)).trans r26, (hk4 27 (by decide) (by decide)).trans r27, (hk4 28 (by decide) (by decide)).trans r28, (hk4 29 (by decide) (by decide)).trans r29, (hk4 30 (by decide) (by decide)).trans r30, (hk4 31 (by decide) (by decide)).trans r31, (hk4 32 (by decide) (by decide)).trans r32, (hk4 33 (by decide) (by decide)).trans r33, (hk4 34 (by decide) (by decide)).trans r34⟩) h9u ho3 hP hS ls (lv_sub hl [1, 0] rfl)
                        · have hb9 := p3 j (by omega)
                          refine lv_aload_n hx hb d_D_freeTrace_156 rfl (lv_at hl 0 rfl) ?_
                          refine va_get (D := (dC, dI)) (ci := 5) (v := .ref (md 9)) (C := R_D) (T := F_D) (N := 36) hx hb hg in_D hown hK (hP.one r36) 0 rfl rfl 9 (by decide) (hg _ k_600) (fun _ h9 => h9) rfl d_D_freeTrace_157 ?_
                          refine lv_aload_n hx hb d_D_freeTrace_160 rfl (lv_at hl 0 rfl) ?_
                          refine va_get (D := (dC, dI)) (ci := 5) (v := .ref (md 29)) (C := R_D) (T := F_D) (N := 36) hx hb hg in_D hown hK (hP.one r36) 0 rfl rfl 29 (by decide) (hg _ k_620) (fun _ h9 => h9) rfl d_D_freeTrace_161 ?_
                          refine lv_iload_n hx hb d_D_freeTrace_164 rfl (lv_at hl 1 rfl) ?_
                          refine lv_bipush (v := (nI 16)) hx hb d_D_freeTrace_165 (by decide) ?_
                          refine nu_imul (r := 16 * i) hx hb d_D_freeTrace_167 (by omega) ?_
                          refine lv_iload_n hx hb d_D_freeTrace_168 rfl (lv_at hl 2 rfl) ?_
                          refine nu_iadd (r := 16 * i + j) hx hb d_D_freeTrace_169 (by omega) ?_
                          have r29 : wl (md 29) = some (.inl (dA 0, 208, .inl (nf (m_cand μ)))) := r29
                          refine fw_iald (tys := tyl dA) hx hb hK hP r29 0 rfl (j := 16 * i + j) (by omega) (by decide) d_D_freeTrace_170 ?_
                          refine lv_iconst (v := (nI 1)) hx hb d_D_freeTrace_171 (by decide) ?_
                          refine fw_zast (tys := tyl dA) hx hb hK hP hS h9u 2 rfl (j := (m_cand μ) (16 * i + j)) (x := (nI 1)) hb9 (by decide) d_D_freeTrace_172 (fun w5 H locs ew6 hP hS => ?_)
                          rw [show (nI 1) = nI (true).toNat from rfl] at ew6
                          rw [zf_up] at ew6
                          have h9u : w5 (md 9) = some (.inl (dA 2, 320, .inl (zf (va_up u ((m_cand μ) (16 * i + j)) true)))) := by rw [ew6]; exact va_up_self _ _ _
                          have ho7 : OutD md w w5 := OutD.up ho9 ew6 (by decide)
                          refine lv_iinc (v := nI (j + 1)) (lv' := [(2, .int (nI (j + 1))), (0, .ref (md 36)), (1, .int (nI i))]) hx hb d_D_freeTrace_173 hl (k := 2) rfl (nI_add _ 1) (by decide) rfl (fun ls hl => ?_)
                          refine lv_goto (tgt := 146) hx hb d_D_freeTrace_176 (by decide) ?_
                          have hk8 : ∀ i, U37 i → i ∉ [9] → w5 (md i) = wl (md i) := fun i hi hn => by rw [ew6, va_up_ne _ _ (hj.ne hi (j := 9) (by decide) (fun e9 => hn (by rw [e9]; decide)))]
                          exact ih (j + 1) (va_up u (m_cand μ (16 * i + j)) true) (by omega) (mem_lst (x := fun j => m_cand μ (16 * i + j)) hu) (by omega) _ _ _  (⟨(hk8 36 (by decide) (by decide)).trans r36, (hk8 0 (by decide) (by decide)).trans r0, (hk8 1 (by decide) (by decide)).trans r1, (hk8 2 (by decide) (by decide)).trans r2, (hk8 3 (by decide) (by decide)).trans r3, (hk8 4 (by decide) (by decide)).trans r4, (hk8 5 (by decide) (by decide)).trans r5, (hk8 6 (by decide) (by decide)).trans r6, (hk8 7 (by decide) (by decide)).trans r7, (hk8 8 (by decide) (by decide)).trans r8, ⟨_, h9u⟩, (hk8 10 (by decide) (by decide)).trans r10, (hk8 11 (by decide) (by decide)).trans r11, (hk8 12 (by decide) (by decide)).trans r12, (hk8 13 (by decide) (by decide)).trans r13, (hk8 14 (by decide) (by decide)).trans r14, (hk8 15 (by decide) (by decide)).trans r15, (hk8 23 (by decide) (by decide)).trans r23, (hk8 24 (by decide) (by decide)).trans r24, (hk8 25 (by decide) (by decide)).trans r25, (hk8 26 (by decide) (by decide)).trans r26, (hk8 27 (by decide) (by decide)).trans r27, (hk8 28 (by decide) (by decide)).trans r28, (hk8 29 (by decide) (by decide)).trans r29, (hk8 30 (by decide) (by decide)).trans r30, (hk8 31 (by decide) (by decide)).trans r31, (hk8 32 (by decide) (by decide)).trans r32, (hk8 33 (by decide) (by decide)).trans r33, (hk8 34 (by decide) (by decide)).trans r34⟩) h9u ho7 hP hS ls (lv_sub hl [1, 2, 0] rfl)
                · have hb9 := o5 i (by omega)
                  refine lv_aload_n hx hb d_D_freeTrace_116 rfl (lv_at hl 0 rfl) ?_
                  refine va_get (D := (dC, dI)) (ci := 5) (v := .ref (md 9)) (C := R_D) (T := F_D) (N := 36) hx hb hg in_D hown hK (hP.one r36) 0 rfl rfl 9 (by decide) (hg _ k_600) (fun _ h9 => h9) rfl d_D_freeTrace_117 ?_
                  refine lv_aload_n hx hb d_D_freeTrace_120 rfl (lv_at hl 0 rfl) ?_
                  refine va_get (D := (dC, dI)) (ci := 5) (v := .ref (md 13)) (C := R_D) (T := F_D) (N := 36) hx hb hg in_D hown hK (hP.one r36) 0 rfl rfl 13 (by decide) (hg _ k_604) (fun _ h9 => h9) rfl d_D_freeTrace_121 ?_
                  refine lv_iload_n hx hb d_D_freeTrace_124 rfl (lv_at hl 1 rfl) ?_
                  have r13 : wl (md 13) = some (.inl (dA 0, 17, .inl (nf (m_occh μ)))) := r13
                  refine fw_iald (tys := tyl dA) hx hb hK hP r13 0 rfl (j := i) (by omega) (by decide) d_D_freeTrace_125 ?_
                  refine lv_iconst (v := (nI 1)) hx hb d_D_freeTrace_126 (by decide) ?_
                  refine fw_zast (tys := tyl dA) hx hb hK hP hS h9u 2 rfl (j := (m_occh μ) i) (x := (nI 1)) hb9 (by decide) d_D_freeTrace_127 (fun w9 H locs ew10 hP hS => ?_)
                  rw [show (nI 1) = nI (true).toNat from rfl] at ew10
                  rw [zf_up] at ew10
                  have h9u : w9 (md 9) = some (.inl (dA 2, 320, .inl (zf (va_up u ((m_occh μ) i) true)))) := by rw [ew10]; exact va_up_self _ _ _
                  have ho11 : OutD md w w9 := OutD.up ho9 ew10 (by decide)
                  refine lv_iinc (v := nI (i + 1)) (lv' := [(1, .int (nI (i + 1))), (0, .ref (md 36))]) hx hb d_D_freeTrace_128 hl (k := 1) rfl (nI_add _ 1) (by decide) rfl (fun ls hl => ?_)
                  refine lv_goto (tgt := 108) hx hb d_D_freeTrace_131 (by decide) ?_
                  have hk12 : ∀ i, U37 i → i ∉ [9] → w9 (md i) = wl (md i) := fun i hi hn => by rw [ew10, va_up_ne _ _ (hj.ne hi (j := 9) (by decide) (fun e9 => hn (by rw [e9]; decide)))]
                  exact ih (i + 1) (va_up u (m_occh μ i) true) (by omega) (mem_lst hu) (by omega) _ _ _  (⟨(hk12 36 (by decide) (by decide)).trans r36, (hk12 0 (by decide) (by decide)).trans r0, (hk12 1 (by decide) (by decide)).trans r1, (hk12 2 (by decide) (by decide)).trans r2, (hk12 3 (by decide) (by decide)).trans r3, (hk12 4 (by decide) (by decide)).trans r4, (hk12 5 (by decide) (by decide)).trans r5, (hk12 6 (by decide) (by decide)).trans r6, (hk12 7 (by decide) (by decide)).trans r7, (hk12 8 (by decide) (by decide)).trans r8, ⟨_, h9u⟩, (hk12 10 (by decide) (by decide)).trans r10, (hk12 11 (by decide) (by decide)).trans r11, (hk12 12 (by decide) (by decide)).trans r12, (hk12 13 (by decide) (by decide)).trans r13, (hk12 14 (by decide) (by decide)).trans r14, (hk12 15 (by decide) (by decide)).trans r15, (hk12 23 (by decide) (by decide)).trans r23, (hk12 24 (by decide) (by decide)).trans r24, (hk12 25 (by decide) (by decide)).trans r25, (hk12 26 (by decide) (by decide)).trans r26, (hk12 27 (by decide) (by decide)).trans r27, (hk12 28 (by decide) (by decide)).trans r28, (hk12 29 (by decide) (by decide)).trans r29, (hk12 30 (by decide) (by decide)).trans r30, (hk12 31 (by decide) (by decide)).trans r31, (hk12 32 (by decide) (by decide)).trans r32, (hk12 33 (by decide) (by decide)).trans r33, (hk12 34 (by decide) (by decide)).trans r34⟩) h9u ho11 hP hS ls (lv_sub hl [1, 0] rfl)
            · have hb9 := o4 i (by omega)
              refine lv_aload_n hx hb d_D_freeTrace_88 rfl (lv_at hl 0 rfl) ?_
              refine va_get (D := (dC, dI)) (ci := 5) (v := .ref (md 9)) (C := R_D) (T := F_D) (N := 36) hx hb hg in_D hown hK (hP.one r36) 0 rfl rfl 9 (by decide) (hg _ k_600) (fun _ h9 => h9) rfl d_D_freeTrace_89 ?_
              refine lv_aload_n hx hb d_D_freeTrace_92 rfl (lv_at hl 0 rfl) ?_
              refine va_get (D := (dC, dI)) (ci := 5) (v := .ref (md 12)) (C := R_D) (T := F_D) (N := 36) hx hb hg in_D hown hK (hP.one r36) 0 rfl rfl 12 (by decide) (hg _ k_603) (fun _ h9 => h9) rfl d_D_freeTrace_93 ?_
              refine lv_iload_n hx hb d_D_freeTrace_96 rfl (lv_at hl 1 rfl) ?_
              have r12 : wl (md 12) = some (.inl (dA 0, 17, .inl (nf (m_cch μ)))) := r12
              refine fw_iald (tys := tyl dA) hx hb hK hP r12 0 rfl (j := i) (by omega) (by decide) d_D_freeTrace_97 ?_
              refine lv_iconst (v := (nI 1)) hx hb d_D_freeTrace_98 (by decide) ?_
              refine fw_zast (tys := tyl dA) hx hb hK hP hS h9u 2 rfl (j := (m_cch μ) i) (x := (nI 1)) hb9 (by decide) d_D_freeTrace_99 (fun w13 H locs ew14 hP hS => ?_)
              rw [show (nI 1) = nI (true).toNat from rfl] at ew14
              rw [zf_up] at ew14
              have h9u : w13 (md 9) = some (.inl (dA 2, 320, .inl (zf (va_up u ((m_cch μ) i) true)))) := by rw [ew14]; exact va_up_self _ _ _
              have ho15 : OutD md w w13 := OutD.up ho9 ew14 (by decide)
              refine lv_iinc (v := nI (i + 1)) (lv' := [(1, .int (nI (i + 1))), (0, .ref (md 36))]) hx hb d_D_freeTrace_100 hl (k := 1) rfl (nI_add _ 1) (by decide) rfl (fun ls hl => ?_)
              refine lv_goto (tgt := 80) hx hb d_D_freeTrace_103 (by decide) ?_
              have hk16 : ∀ i, U37 i → i ∉ [9] → w13 (md i) = wl (md i) := fun i hi hn => by rw [ew14, va_up_ne _ _ (hj.ne hi (j := 9) (by decide) (fun e9 => hn (by rw [e9]; decide)))]
              exact ih (i + 1) (va_up u (m_cch μ i) true) (by omega) (mem_lst hu) (by omega) _ _ _  (⟨(hk16 36 (by decide) (by decide)).trans r36, (hk16 0 (by decide) (by decide)).trans r0, (hk16 1 (by decide) (by decide)).trans r1, (hk16 2 (by decide) (by decide)).trans r2, (hk16 3 (by decide) (by decide)).trans r3, (hk16 4 (by decide) (by decide)).trans r4, (hk16 5 (by decide) (by decide)).trans r5, (hk16 6 (by decide) (by decide)).trans r6, (hk16 7 (by decide) (by decide)).trans r7, (hk16 8 (by decide) (by decide)).trans r8, ⟨_, h9u⟩, (hk16 10 (by decide) (by decide)).trans r10, (hk16 11 (by decide) (by decide)).trans r11, (hk16 12 (by decide) (by decide)).trans r12, (hk16 13 (by decide) (by decide)).trans r13, (hk16 14 (by decide) (by decide)).trans r14, (hk16 15 (by decide) (by decide)).trans r15, (hk16 23 (by decide) (by decide)).trans r23, (hk16 24 (by decide) (by decide)).trans r24, (hk16 25 (by decide) (by decide)).trans r25, (hk16 26 (by decide) (by decide)).trans r26, (hk16 27 (by decide) (by decide)).trans r27, (hk16 28 (by decide) (by decide)).trans r28, (hk16 29 (by decide) (by decide)).trans r29, (hk16 30 (by decide) (by decide)).trans r30, (hk16 31 (by decide) (by decide)).trans r31, (hk16 32 (by decide) (by decide)).trans r32, (hk16 33 (by decide) (by decide)).trans r33, (hk16 34 (by decide) (by decide)).trans r34⟩) h9u ho15 hP hS ls (lv_sub hl [1, 0] rfl)
        · obtain ⟨q1, q2⟩ := o1b i (by omega)
          refine lv_aload_n hx hb d_D_freeTrace_30 rfl (lv_at hl 0 rfl) ?_
          have r36 : wl (md 36) = some (.inr (5, [.ref (md 0), .ref (md 1), .ref (md 2), .ref (md 3), .ref (md 4), .ref (md 5), .ref (md 6), .ref (md 7), .ref (md 8), .ref (md 9), .ref (md 10), .ref (md 11), .ref (md 12), .ref (md 13), .ref (md 14), .ref (md 15), .int (nI (m_cached μ)), .int (nI (m_ocached μ)), .int (m_circ μ), .int (m_ocirc μ), .int (nI (m_thr μ)), .int (nI (m_wkr μ)), .int (nI (m_ran μ).toNat), .ref (md 23), .ref (md 24), .ref (md 25), .ref (md 26), .ref (md 27), .ref (md 28), .ref (md 29), .ref (md 30), .ref (md 31), .ref (md 32), .ref (md 33), .ref (md 34), .int (nI (m_hgt μ))])) := r36
          refine va_get (D := (dC, dI)) (ci := 5) (v := .ref (md 10)) (C := R_D) (T := F_D) (N := 36) hx hb hg in_D hown hK (hP.one r36) 0 rfl rfl 10 (by decide) (hg _ k_601) (fun _ h9 => h9) rfl d_D_freeTrace_31 ?_
          refine lv_iload_n hx hb d_D_freeTrace_34 rfl (lv_at hl 1 rfl) ?_
          have r10 : wl (md 10) = some (.inl (dA 0, 24, .inl (m_trc μ))) := r10
          refine fw_iald (tys := tyl dA) hx hb hK hP r10 0 rfl (j := i) (by omega) (by decide) d_D_freeTrace_35 ?_
          refine lv_if_lt (tgt := 51) hx hb d_D_freeTrace_36 (by decide) (fun c2 => ?_) (fun c2 => ?_)
          · have h1 : ∀ t, t < 320 → (u t = true ↔ t ∈ slotL (m_trc μ i) ++ mkT (m_trc μ) (m_otrc μ) i) := by rw [show slotL (m_trc μ i) = [] from if_pos c2]; exact hu
            refine lv_aload_n hx hb d_D_freeTrace_51 rfl (lv_at hl 0 rfl) ?_
            refine va_get (D := (dC, dI)) (ci := 5) (v := .ref (md 11)) (C := R_D) (T := F_D) (N := 36) hx hb hg in_D hown hK (hP.one r36) 0 rfl rfl 11 (by decide) (hg _ k_602) (fun _ h9 => h9) rfl d_D_freeTrace_52 ?_
            refine lv_iload_n hx hb d_D_freeTrace_55 rfl (lv_at hl 1 rfl) ?_
            have r11 : wl (md 11) = some (.inl (dA 0, 24, .inl (m_otrc μ))) := r11
            refine fw_iald (tys := tyl dA) hx hb hK hP r11 0 rfl (j := i) (by omega) (by decide) d_D_freeTrace_56 ?_
            refine lv_if_lt (tgt := 72) hx hb d_D_freeTrace_57 (by decide) (fun c3 => ?_) (fun c3 => ?_)
            · refine lv_iinc (v := nI (i + 1)) (lv' := [(1, .int (nI (i + 1))), (0, .ref (md 36))]) hx hb d_D_freeTrace_72 hl (k := 1) rfl (nI_add _ 1) (by decide) rfl (fun ls hl => ?_)
              refine lv_goto (tgt := 24) hx hb d_D_freeTrace_75 (by decide) ?_
              exact ih (i + 1) u (by omega) (fun t ht => by rw [show mkT (m_trc μ) (m_otrc μ) (i + 1) = slotL (m_otrc μ i) ++ (slotL (m_trc μ i) ++ mkT (m_trc μ) (m_otrc μ) i) from rfl, show slotL (m_otrc μ i) = [] from if_pos c3]; exact h1 t ht) (by omega) _ _ _  (⟨r36, r0, r1, r2, r3, r4, r5, r6, r7, r8, ⟨_, h9u⟩, r10, r11, r12, r13, r14, r15, r23, r24, r25, r26, r27, r28, r29, r30, r31, r32, r33, r34⟩) h9u ho9 hP hS ls (lv_sub hl [1, 0] rfl)
            · obtain ⟨tb, htb, etb⟩ := sl1_nn q2 c3
              refine lv_aload_n hx hb d_D_freeTrace_60 rfl (lv_at hl 0 rfl) ?_
              refine va_get (D := (dC, dI)) (ci := 5) (v := .ref (md 9)) (C := R_D) (T := F_D) (N := 36) hx hb hg in_D hown hK (hP.one r36) 0 rfl rfl 9 (by decide) (hg _ k_600) (fun _ h9 => h9) rfl d_D_freeTrace_61 ?_
              refine lv_aload_n hx hb d_D_freeTrace_64 rfl (lv_at hl 0 rfl) ?_
              refine va_get (D := (dC, dI)) (ci := 5) (v := .ref (md 11)) (C := R_D) (T := F_D) (N := 36) hx hb hg in_D hown hK (hP.one r36) 0 rfl rfl 11 (by decide) (hg _ k_602) (fun _ h9 => h9) rfl d_D_freeTrace_65 ?_
              refine lv_iload_n hx hb d_D_freeTrace_68 rfl (lv_at hl 1 rfl) ?_
              refine fw_iald (tys := tyl dA) hx hb hK hP r11 0 rfl (j := i) (by omega) (by decide) d_D_freeTrace_69 ?_
              rw [etb]
              refine lv_iconst (v := (nI 1)) hx hb d_D_freeTrace_70 (by decide) ?_
              refine fw_zast (tys := tyl dA) hx hb hK hP hS h9u 2 rfl (j := tb) (x := (nI 1)) htb (by decide) d_D_freeTrace_71 (fun w17 H locs ew18 hP hS => ?_)
              rw [show (nI 1) = nI (true).toNat from rfl] at ew18
              rw [zf_up] at ew18
              have h9u : w17 (md 9) = some (.inl (dA 2, 320, .inl (zf (va_up u tb true)))) := by rw [ew18]; exact va_up_self _ _ _
              have ho19 : OutD md w w17 := OutD.up ho9 ew18 (by decide)
              refine lv_iinc (v := nI (i + 1)) (lv' := [(1, .int (nI (i + 1))), (0, .ref (md 36))]) hx hb d_D_freeTrace_72 hl (k := 1) rfl (nI_add _ 1) (by decide) rfl (fun ls hl => ?_)
              refine lv_goto (tgt := 24) hx hb d_D_freeTrace_75 (by decide) ?_
              have hk20 : ∀ i, U37 i → i ∉ [9] → w17 (md i) = wl (md i) := fun i hi hn => by rw [ew18, va_up_ne _ _ (hj.ne hi (j := 9) (by decide) (fun e9 => hn (by rw [e9]; decide)))]
              exact ih (i + 1) (va_up u tb true) (by omega) (fun t ht => by rw [show mkT (m_trc μ) (m_otrc μ) (i + 1) = slotL (m_otrc μ i) ++ (slotL (m_trc μ i) ++ mkT (m_trc μ) (m_otrc μ) i) from rfl, etb, slotL_nI htb]; exact mem_up h1 t ht) (by omega) _ _ _  (⟨(hk20 36 (by decide) (by decide)).trans r36, (hk20 0 (by decide) (by decide)).trans r0, (hk20 1 (by decide) (by decide)).trans r1, (hk20 2 (by decide) (by decide)).trans r2, (hk20 3 (by decide) (by decide)).trans r3, (hk20 4 (by decide) (by decide)).trans r4, (hk20 5 (by decide) (by decide)).trans r5, (hk20 6 (by decide) (by decide)).trans r6, (hk20 7 (by decide) (by decide)).trans r7, (hk20 8 (by decide) (by decide)).trans r8, ⟨_, h9u⟩, (hk20 10 (by decide) (by decide)).trans r10, (hk20 11 (by decide) (by decide)).trans r11, (hk20 12 (by decide) (by decide)).trans r12, (hk20 13 (by decide) (by decide)).trans r13, (hk20 14 (by decide) (by decide)).trans r14, (hk20 15 (by decide) (by decide)).trans r15, (hk20 23 (by decide) (by decide)).trans r23, (hk20 24 (by decide) (by decide)).trans r24, (hk20 25 (by decide) (by decide)).trans r25, (hk20 26 (by decide) (by decide)).trans r26, (hk20 27 (by decide) (by decide)).trans r27, (hk20 28 (by decide) (by decide)).trans r28, (hk20 29 (by decide) (by decide)).trans r29, (hk20 30 (by decide) (by decide)).trans r30, (hk20 31 (by decide) (by decide)).trans r31, (hk20 32 (by decide) (by decide)).trans r32, (hk20 33 (by decide) (by decide)).trans r33, (hk20 34 (by decide) (by decide)).trans r34⟩) h9u ho19 hP hS ls (lv_sub hl [1, 0] rfl)
          · obtain ⟨ta, hta, eta⟩ := sl1_nn q1 c2
            refine lv_aload_n hx hb d_D_freeTrace_39 rfl (lv_at hl 0 rfl) ?_
            refine va_get (D := (dC, dI)) (ci := 5) (v := .ref (md 9)) (C := R_D) (T := F_D) (N := 36) hx hb hg in_D hown hK (hP.one r36) 0 rfl rfl 9 (by decide) (hg _ k_600) (fun _ h9 => h9) rfl d_D_freeTrace_40 ?_
            refine lv_aload_n hx hb d_D_freeTrace_43 rfl (lv_at hl 0 rfl) ?_
            refine va_get (D := (dC, dI)) (ci := 5) (v := .ref (md 10)) (C := R_D) (T := F_D) (N := 36) hx hb hg in_D hown hK (hP.one r36) 0 rfl rfl 10 (by decide) (hg _ k_601) (fun _ h9 => h9) rfl d_D_freeTrace_44 ?_
            refine lv_iload_n hx hb d_D_freeTrace_47 rfl (lv_at hl 1 rfl) ?_
            refine fw_iald (tys := tyl dA) hx hb hK hP r10 0 rfl (j := i) (by omega) (by decide) d_D_freeTrace_48 ?_
            rw [eta]
            refine lv_iconst (v := (nI 1)) hx hb d_D_freeTrace_49 (by decide) ?_
            refine fw_zast (tys := tyl dA) hx hb hK hP hS h9u 2 rfl (j := ta) (x := (nI 1)) hta (by decide) d_D_freeTrace_50 (fun w21 H locs ew22 hP hS => ?_)
            rw [show (nI 1) = nI (true).toNat from rfl] at ew22
            rw [zf_up] at ew22
            have h9u : w21 (md 9) = some (.inl (dA 2, 320, .inl (zf (va_up u ta true)))) := by rw [ew22]; exact va_up_self _ _ _
            have ho23 : OutD md w w21 := OutD.up ho9 ew22 (by decide)
            have h1 : ∀ t, t < 320 → (va_up u ta true t = true ↔ t ∈ slotL (m_trc μ i) ++ mkT (m_trc μ) (m_otrc μ) i) := by rw [eta, slotL_nI hta]; exact mem_up hu
            refine lv_aload_n hx hb d_D_freeTrace_51 rfl (lv_at hl 0 rfl) ?_
            have r36 : w21 (md 36) = some (.inr (5, [.ref (md 0), .ref (md 1), .ref (md 2), .ref (md 3), .ref (md 4), .ref (md 5), .ref (md 6), .ref (md 7), .ref (md 8), .ref (md 9), .ref (md 10), .ref (md 11), .ref (md 12), .ref (md 13), .ref (md 14), .ref (md 15), .int (nI (m_cached μ)), .int (nI (m_ocached μ)), .int (m_circ μ), .int (m_ocirc μ), .int (nI (m_thr μ)), .int (nI (m_wkr μ)), .int (nI (m_ran μ).toNat), .ref (md 23), .ref (md 24), .ref (md 25), .ref (md 26), .ref (md 27), .ref (md 28), .ref (md 29), .ref (md 30), .ref (md 31), .ref (md 32), .ref (md 33), .ref (md 34), .int (nI (m_hgt μ))])) := by rw [ew22, va_up_ne _ _ (hj.ne (i := 36) (j := 9) (by decide) (by decide) (by decide))]; exact r36
            refine va_get (D := (dC, dI)) (ci := 5) (v := .ref (md 11)) (C := R_D) (T := F_D) (N := 36) hx hb hg in_D hown hK (hP.one r36) 0 rfl rfl 11 (by decide) (hg _ k_602) (fun _ h9 => h9) rfl d_D_freeTrace_52 ?_
            refine lv_iload_n hx hb d_D_freeTrace_55 rfl (lv_at hl 1 rfl) ?_
            have r11 : w21 (md 11) = some (.inl (dA 0, 24, .inl (m_otrc μ))) := by rw [ew22, va_up_ne _ _ (hj.ne (i := 11) (j := 9) (by decide) (by decide) (by decide))]; exact r11
            refine fw_iald (tys := tyl dA) hx hb hK hP r11 0 rfl (j := i) (by omega) (by decide) d_D_freeTrace_56 ?_
            refine lv_if_lt (tgt := 72) hx hb d_D_freeTrace_57 (by decide) (fun c3 => ?_) (fun c3 => ?_)
            · refine lv_iinc (v := nI (i + 1)) (lv' := [(1, .int (nI (i + 1))), (0, .ref (md 36))]) hx hb d_D_freeTrace_72 hl (k := 1) rfl (nI_add _ 1) (by decide) rfl (fun ls hl => ?_)
              refine lv_goto (tgt := 24) hx hb d_D_freeTrace_75 (by decide) ?_
              have hk24 : ∀ i, U37 i → i ∉ [9] → w21 (md i) = wl (md i) := fun i hi hn => by rw [ew22, va_up_ne _ _ (hj.ne hi (j := 9) (by decide) (fun e9 => hn (by rw [e9]; decide)))]
              exact ih (i + 1) (va_up u ta true) (by omega) (fun t ht => by rw [show mkT (m_trc μ) (m_otrc μ) (i + 1) = slotL (m_otrc μ i) ++ (slotL (m_trc μ i) ++ mkT (m_trc μ) (m_otrc μ) i) from rfl, show slotL (m_otrc μ i) = [] from if_pos c3]; exact h1 t ht) (by omega) _ _ _  (⟨r36, (hk24 0 (by decide) (by decide)).trans r0, (hk24 1 (by decide) (by decide)).trans r1, (hk24 2 (by decide) (by decide)).trans r2, (hk24 3 (by decide) (by decide)).trans r3, (hk24 4 (by decide) (by decide)).trans r4, (hk24 5 (by decide) (by decide)).trans r5, (hk24 6 (by decide) (by decide)).trans r6, (hk24 7 (by decide) (by decide)).trans r7, (hk24 8 (by decide) (by decide)).trans r8, ⟨_, h9u⟩, (hk24 10 (by decide) (by decide)).trans r10, r11, (hk24 12 (by decide) (by decide)).trans r12, (hk24 13 (by decide) (by decide)).trans r13, (hk24 14 (by decide) (by decide)).trans r14, (hk24 15 (by decide) (by decide)).trans r15, (hk24 23 (by decide) (by decide)).trans r23, (hk24 24 (by decide) (by decide)).trans r24, (hk24 25 (by decide) (by decide)).trans r25, (hk24 26 (by decide) (by decide)).trans r26, (hk24 27 (by decide) (by decide)).trans r27, (hk24 28 (by decide) (by decide)).trans r28, (hk24 29 (by decide) (by decide)).trans r29, (hk24 30 (by decide) (by decide)).trans r30, (hk24 31 (by decide) (by decide)).trans r31, (hk24 32 (by decide) (by decide)).trans r32, (hk24 33 (by decide) (by decide)).trans r33, (hk24 34 (by decide) (by decide)).trans r34⟩) h9u ho23 hP hS ls (lv_sub hl [1, 0] rfl)
            · obtain ⟨tb, htb, etb⟩ := sl1_nn q2 c3
              refine lv_aload_n hx hb d_D_freeTrace_60 rfl (lv_at hl 0 rfl) ?_
              refine va_get (D := (dC, dI)) (ci := 5) (v := .ref (md 9)) (C := R_D) (T := F_D) (N := 36) hx hb hg in_D hown hK (hP.one r36) 0 rfl rfl 9 (by decide) (hg _ k_600) (fun _ h9 => h9) rfl d_D_freeTrace_61 ?_
              refine lv_aload_n hx hb d_D_freeTrace_64 rfl (lv_at hl 0 rfl) ?_
              refine va_get (D := (dC, dI)) (ci := 5) (v := .ref (md 11)) (C := R_D) (T := F_D) (N := 36) hx hb hg in_D hown hK (hP.one r36) 0 rfl rfl 11 (by decide) (hg _ k_602) (fun _ h9 => h9) rfl d_D_freeTrace_65 ?_
              refine lv_iload_n hx hb d_D_freeTrace_68 rfl (lv_at hl 1 rfl) ?_
              refine fw_iald (tys := tyl dA) hx hb hK hP r11 0 rfl (j := i) (by omega) (by decide) d_D_freeTrace_69 ?_
              rw [etb]
              refine lv_iconst (v := (nI 1)) hx hb d_D_freeTrace_70 (by decide) ?_
              refine fw_zast (tys := tyl dA) hx hb hK hP hS h9u 2 rfl (j := tb) (x := (nI 1)) htb (by decide) d_D_freeTrace_71 (fun w25 H locs ew26 hP hS => ?_)
              rw [show (nI 1) = nI (true).toNat from rfl] at ew26
              rw [zf_up] at ew26
              have h9u : w25 (md 9) = some (.inl (dA 2, 320, .inl (zf (va_up (va_up u ta true) tb true)))) := by rw [ew26]; exact va_up_self _ _ _
              have ho27 : OutD md w w25 := OutD.up ho23 ew26 (by decide)
              refine lv_iinc (v := nI (i + 1)) (lv' := [(1, .int (nI (i + 1))), (0, .ref (md 36))]) hx hb d_D_freeTrace_72 hl (k := 1) rfl (nI_add _ 1) (by decide) rfl (fun ls hl => ?_)
              refine lv_goto (tgt := 24) hx hb d_D_freeTrace_75 (by decide) ?_
              have hk28 : ∀ i, U37 i → i ∉ [9] → w25 (md i) = w21 (md i) := fun i hi hn => by rw [ew26, va_up_ne _ _ (hj.ne hi (j := 9) (by decide) (fun e9 => hn (by rw [e9]; decide)))]
              have hk29 : ∀ i, U37 i → i ∉ [9] → w25 (md i) = wl (md i) := fun i hi hn => by rw [ew26, va_up_ne _ _ (hj.ne hi (j := 9) (by decide) (fun e9 => hn (by rw [e9]; decide))), ew22, va_up_ne _ _ (hj.ne hi (j := 9) (by decide) (fun e9 => hn (by rw [e9]; decide)))]
              exact ih (i + 1) (va_up (va_up u ta true) tb true) (by omega) (fun t ht => by rw [show mkT (m_trc μ) (m_otrc μ) (i + 1) = slotL (m_otrc μ i) ++ (slotL (m_trc μ i) ++ mkT (m_trc μ) (m_otrc μ) i) from rfl, etb, slotL_nI htb]; exact mem_up h1 t ht) (by omega) _ _ _  (⟨(hk28 36 (by decide) (by decide)).trans r36, (hk29 0 (by decide) (by decide)).trans r0, (hk29 1 (by decide) (by decide)).trans r1, (hk29 2 (by decide) (by decide)).trans r2, (hk29 3 (by decide) (by decide)).trans r3, (hk29 4 (by decide) (by decide)).trans r4, (hk29 5 (by decide) (by decide)).trans r5, (hk29 6 (by decide) (by decide)).trans r6, (hk29 7 (by decide) (by decide)).trans r7, (hk29 8 (by decide) (by decide)).trans r8, ⟨_, h9u⟩, (hk29 10 (by decide) (by decide)).trans r10, (hk28 11 (by decide) (by decide)).trans r11, (hk29 12 (by decide) (by decide)).trans r12, (hk29 13 (by decide) (by decide)).trans r13, (hk29 14 (by decide) (by decide)).trans r14, (hk29 15 (by decide) (by decide)).trans r15, (hk29 23 (by decide) (by decide)).trans r23, (hk29 24 (by decide) (by decide)).trans r24, (hk29 25 (by decide) (by decide)).trans r25, (hk29 26 (by decide) (by decide)).trans r26, (hk29 27 (by decide) (by decide)).trans r27, (hk29 28 (by decide) (by decide)).trans r28, (hk29 29 (by decide) (by decide)).trans r29, (hk29 30 (by decide) (by decide)).trans r30, (hk29 31 (by decide) (by decide)).trans r31, (hk29 32 (by decide) (by decide)).trans r32, (hk29 33 (by decide) (by decide)).trans r33, (hk29 34 (by decide) (by decide)).trans r34⟩) h9u ho27 hP hS ls (lv_sub hl [1, 0] rfl)
    · refine lv_aload_n hx hb d_D_freeTrace_9 rfl (lv_at hl 0 rfl) ?_
      have r36 : wl (md 36) = some (.inr (5, [.ref (md 0), .ref (md 1), .ref (md 2), .ref (md 3), .ref (md 4), .ref (md 5), .ref (md 6), .ref (md 7), .ref (md 8), .ref (md 9), .ref (md 10), .ref (md 11), .ref (md 12), .ref (md 13), .ref (md 14), .ref (md 15), .int (nI (m_cached μ)), .int (nI (m_ocached μ)), .int (m_circ μ), .int (m_ocirc μ), .int (nI (m_thr μ)), .int (nI (m_wkr μ)), .int (nI (m_ran μ).toNat), .ref (md 23), .ref (md 24), .ref (md 25), .ref (md 26), .ref (md 27), .ref (md 28), .ref (md 29), .ref (md 30), .ref (md 31), .ref (md 32), .ref (md 33), .ref (md 34), .int (nI (m_hgt μ))])) := r36
      refine va_get (D := (dC, dI)) (ci := 5) (v := .ref (md 9)) (C := R_D) (T := F_D) (N := 36) hx hb hg in_D hown hK (hP.one r36) 0 rfl rfl 9 (by decide) (hg _ k_600) (fun _ h9 => h9) rfl d_D_freeTrace_10 ?_
      refine lv_iload_n hx hb d_D_freeTrace_13 rfl (lv_at hl 1 rfl) ?_
      refine lv_iconst (v := (nI 0)) hx hb d_D_freeTrace_14 (by decide) ?_
      refine fw_zast (tys := tyl dA) hx hb hK hP hS h9u 2 rfl (j := i) (x := (nI 0)) (by omega) (by decide) d_D_freeTrace_15 (fun w30 H locs ew31 hP hS => ?_)
      rw [show (nI 0) = nI (false).toNat from rfl] at ew31
      rw [zf_up] at ew31
      have h9u : w30 (md 9) = some (.inl (dA 2, 320, .inl (zf (va_up u i false)))) := by rw [ew31]; exact va_up_self _ _ _
      have ho32 : OutD md w w30 := OutD.up ho9 ew31 (by decide)
      refine lv_iinc (v := nI (i + 1)) (lv' := [(1, .int (nI (i + 1))), (0, .ref (md 36))]) hx hb d_D_freeTrace_16 hl (k := 1) rfl (nI_add _ 1) (by decide) rfl (fun ls hl => ?_)
      refine lv_goto (tgt := 2) hx hb d_D_freeTrace_19 (by decide) ?_
      have hk33 : ∀ i, U37 i → i ∉ [9] → w30 (md i) = wl (md i) := fun i hi hn => by rw [ew31, va_up_ne _ _ (hj.ne hi (j := 9) (by decide) (fun e9 => hn (by rw [e9]; decide)))]
      exact ih (i + 1) (va_up u i false) (by omega) (fun t ht => by by_cases e9 : t = i; (rw [e9, va_up_self]); (rw [va_up_ne _ _ e9]; exact hu t (by omega))) (by omega) _ _ _  (⟨(hk33 36 (by decide) (by decide)).trans r36, (hk33 0 (by decide) (by decide)).trans r0, (hk33 1 (by decide) (by decide)).trans r1, (hk33 2 (by decide) (by decide)).trans r2, (hk33 3 (by decide) (by decide)).trans r3, (hk33 4 (by decide) (by decide)).trans r4, (hk33 5 (by decide) (by decide)).trans r5, (hk33 6 (by decide) (by decide)).trans r6, (hk33 7 (by decide) (by decide)).trans r7, (hk33 8 (by decide) (by decide)).trans r8, ⟨_, h9u⟩, (hk33 10 (by decide) (by decide)).trans r10, (hk33 11 (by decide) (by decide)).trans r11, (hk33 12 (by decide) (by decide)).trans r12, (hk33 13 (by decide) (by decide)).trans r13, (hk33 14 (by decide) (by decide)).trans r14, (hk33 15 (by decide) (by decide)).trans r15, (hk33 23 (by decide) (by decide)).trans r23, (hk33 24 (by decide) (by decide)).trans r24, (hk33 25 (by decide) (by decide)).trans r25, (hk33 26 (by decide) (by decide)).trans r26, (hk33 27 (by decide) (by decide)).trans r27, (hk33 28 (by decide) (by decide)).trans r28, (hk33 29 (by decide) (by decide)).trans r29, (hk33 30 (by decide) (by decide)).trans r30, (hk33 31 (by decide) (by decide)).trans r31, (hk33 32 (by decide) (by decide)).trans r32, (hk33 33 (by decide) (by decide)).trans r33, (hk33 34 (by decide) (by decide)).trans r34⟩) h9u ho32 hP hS ls (lv_sub hl [1, 0] rfl)
