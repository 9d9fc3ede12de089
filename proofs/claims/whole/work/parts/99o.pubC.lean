def tN (a b c : Int32) : Nat := if 0 ≤ c then 3 else if 0 ≤ b then 2 else if 0 ≤ a then 1 else 0
theorem tN_le (a b c : Int32) : tN a b c ≤ 3 := by
  unfold tN
  split
  · omega
  · split
    · omega
    · split <;> omega
def tF (x1 x2 a b c : Int32) : Prop := okK x1 ∧ (∃ r, r < 10 ∧ x2 = nI r) ∧ okPart a ∧ okPart b ∧ okPart c ∧ (tN a b c < 2 ∨ 0 ≤ a) ∧ (tN a b c < 3 ∨ 0 ≤ b)
def okT (x1 x2 a b c : Int32) : Prop := okK x1 ∧ ∃ r9, x2 = nI r9 ∧ okTask r9 a b c
theorem in_Pt (a : Int32) : (-1 ≤ a ∧ a ≤ nI 11) ↔ okPart a := by
  have e1 : (-1 : Int32).toInt = -1 := by decide
  constructor
  · rintro ⟨h1, h2⟩
    by_cases h0 : a < 0
    · left
      rw [Int32.le_iff_toInt_le] at h1
      rw [Int32.lt_iff_toInt_lt, Int32.toInt_zero] at h0
      apply Int32.toInt_inj.mp
      omega
    · right
      obtain ⟨j, hj, rfl⟩ := nI_of h0
      exact ⟨j, by have := (nI_leI hj (by omega)).mp h2; omega, rfl⟩
  · rintro (rfl | ⟨k, hk, rfl⟩)
    · decide
    · refine ⟨?_, (nI_leI (by omega) (by omega)).mpr (by omega)⟩
      rw [Int32.le_iff_toInt_le, nI_toInt (by omega), e1]; omega
theorem in_R (a : Int32) : (nI 0 ≤ a ∧ a ≤ nI 9) ↔ ∃ r, r < 10 ∧ a = nI r := (in_n (by omega) a).trans ⟨fun ⟨j, h, e⟩ => ⟨j, by omega, e⟩, fun ⟨j, h, e⟩ => ⟨j, by omega, e⟩⟩
theorem part_nn {a : Int32} (h : okPart a) : 0 ≤ a ↔ a ≠ -1 := by
  rcases h with rfl | ⟨k, hk, rfl⟩
  · decide
  · exact ⟨fun _ => nI_ne_m1 (by omega), fun _ => Int32.not_lt.mp (nI_nn (by omega))⟩
theorem tF_ok {x1 x2 a b c : Int32} {m : Nat} (hm : ∀ r, r < 10 → x2 = nI r → m = p_need r) : (tF x1 x2 a b c ∧ m ≤ tN a b c) ↔ okT x1 x2 a b c := by
  have key : okPart a → okPart b → okPart c → ((tN a b c < 2 ∨ 0 ≤ a) ∧ (tN a b c < 3 ∨ 0 ≤ b) ↔ ¬ (a = -1 ∧ b ≠ -1) ∧ ¬ (b = -1 ∧ c ≠ -1)) ∧ (¬ (a = -1 ∧ b ≠ -1) ∧ ¬ (b = -1 ∧ c ≠ -1) → tN a b c = pCount a b c) := by
    intro ha hb hc
    unfold tN pCount
    simp only [part_nn ha, part_nn hb, part_nn hc]
    by_cases e1 : a = -1 <;> by_cases e2 : b = -1 <;> by_cases e3 : c = -1 <;> simp [e1, e2, e3]
  constructor
  · rintro ⟨⟨h1, ⟨r, hr, rfl⟩, ha, hb, hc, h6, h7⟩, h8⟩
    obtain ⟨k1, k2⟩ := key ha hb hc
    obtain ⟨j1, j2⟩ := k1.mp ⟨h6, h7⟩
    rw [hm r hr rfl, k2 ⟨j1, j2⟩] at h8
    exact ⟨h1, r, rfl, hr, ha, hb, hc, j1, j2, h8⟩
  · rintro ⟨h1, r, rfl, hr, ha, hb, hc, j1, j2, h8⟩
    obtain ⟨k1, k2⟩ := key ha hb hc
    obtain ⟨h6, h7⟩ := k1.mpr ⟨j1, j2⟩
    refine ⟨⟨h1, ⟨r, hr, rfl⟩, ha, hb, hc, h6, h7⟩, ?_⟩
    rw [hm r hr rfl, k2 ⟨j1, j2⟩]; exact h8
set_option maxHeartbeats 4000000 in
set_option maxRecDepth 100000 in
theorem c_D_task {l : Launch} {s0 : State} {dC : Nat → ClassId} {dI : Nat → Nat → Nat} {dA : Nat → ClassId} (B0 : BB s0 dC dI dA) (w : fw_W) (md : Nat → Nat) (μ : MS) (β : BS) (x1 x2 a b c8 : Int32) (hj : Inj37 md) (hD : RD dA md w μ) (hQ : RQ β μ) (hp : p_ok (b_P β)) : Met l y_D_task [.code y_D_task b_D_task 9 none] ({ frames := 1, cells := 0, slots := 0, locals := 40 }) (mP s0 dC dI w [.ref (md 36), .int x1, .int x2, .int a, .int b, .int c8]) (mQv s0 dC dI (fun w' => (¬ okT x1 x2 a b c8 → MB dA md w w' β 1) ∧ ∀ k r9, k < 12 → x1 = nI k → x2 = nI r9 → okTask r9 a b c8 → MB dA md w w' (bTask k r9 a b c8 β) 0)) 0 0 (AA s0) := by
  refine mt_ofW B0 (by decide) (Nat.le_of_ble_eq_true rfl) (fun p e s m args below meth c ls hargs X hin hl hP => ?_)
  have X9 := X
  obtain ⟨hx, hb, hr, hml, hown, hg, hK, hn, hE, hlocks, hA⟩ := X9
  have hS : va_S (AA s0) s.heap s.heap [] := va_S.rf
  have hl : lv_has ls 9 [(0, .ref (md 36)), (1, .int x1), (2, .int x2), (3, .int a), (4, .int b), (5, .int c8)] := hl
  obtain ⟨r36, r0, r1, r2, r3, r4, r5, r6, r7, r8, ⟨u, r9⟩, r10, r11, r12, r13, r14, r15, r23, r24, r25, r26, r27, r28, r29, r30, r31, r32, r33, r34⟩ := (id hD)
  have t180 : ∀ (b10 : Bool), (b10 = true ↔ okT x1 x2 a b c8) → ∀ (H : Heap) (locs : List Loc), fw_P (dC, dI) cls_ (AA s0) w H → va_S (AA s0) s.heap H locs → ∀ (ls : Array Slot), lv_has ls 9 [(0, .ref (md 36)), (1, .int x1), (2, .int x2), (3, .int a), (4, .int b), (5, .int c8)] → W p l e ({ frames := 1, cells := 0, slots := 0, locals := 40 }) s m args below meth c H locs 0 0 (MQ below (mQv s0 dC dI (fun w' => (¬ okT x1 x2 a b c8 → MB dA md w w' β 1) ∧ ∀ k r9, k < 12 → x1 = nI k → x2 = nI r9 → okTask r9 a b c8 → MB dA md w w' (bTask k r9 a b c8 β) 0)) args s 0 0 (AA s0)) (F0 m 180 ls [.int (nI b10.toNat), .ref (md 36)]) := by
    intro b10 hb10 H locs hP hS ls hl
    rcases b10 with _ | _
    · have hno : ¬ okT x1 x2 a b c8 := fun h9 => Bool.noConfusion (hb10.mpr h9)
      refine va_calli (rn_V (n := 1) (As := [.int (nI false.toNat)]) (rest := []) (C := R_D) (T := F_D) (N := 36) (ci := 5) X hP hS (c_D_bad B0 w md μ false hj hD) k_711 k_713 k_38 k_58 k_714 (by decide +kernel) rfl rfl ⟨Nat.le_of_ble_eq_true rfl, Nat.le_of_ble_eq_true rfl⟩ r36 rfl rfl hl.1 rfl (Nat.le_of_ble_eq_true rfl) d_D_task_180 ⟨Nat.le_of_ble_eq_true rfl, Nat.le_of_ble_eq_true rfl⟩) hS (fun q _ h => h) (fun q h => h) (fun r w1 tS H locs ht hvm hw hB hz1 hk1 hS => ?_)
      have hP : fw_P (dC, dI) cls_ (AA s0) w1 H := by rw [← ht]; exact hB
      obtain ⟨rfl, hR8, ho8⟩ := hw
      have hD1 : RD dA md w1 (dThr 1 μ) := hR8
      have ho2 : OutD md w w1 := OutD.tr OutD.rf ho8
      obtain ⟨r36, r0, r1, r2, r3, r4, r5, r6, r7, r8, ⟨u, r9⟩, r10, r11, r12, r13, r14, r15, r23, r24, r25, r26, r27, r28, r29, r30, r31, r32, r33, r34⟩ := (id hD1)
      refine nu_ifeq (tgt := 187) hx hb d_D_task_183 (by decide) (fun c1 => ?_) (fun c1 => ?_)
      · exact absurd c1 (by decide)
      · exact W.vret hx hb hr (fun tS ht hW => ⟨⟨w1, rfl, ⟨fun _ => ⟨dThr 1 μ, hD1, hQ, rfl, ho2⟩, fun k ru hk9 e1 e2 e3 => absurd ⟨⟨k, hk9, e1⟩, ru, e2, e3⟩ hno⟩, mB_of ht hP⟩, hS.F ht⟩) hS.2.2 d_D_task_186
    · obtain ⟨⟨k, hk, e1⟩, ru, e2, hT9⟩ := hb10.mp rfl
      subst e1 e2
      have so3 := hQ.so3 hp hk
      obtain ⟨q1, -, q3⟩ := hQ.1 k hk
      have r10 := hT9.1
      have hrl : p_kd (b_P β) k = 2 → m_rule μ k < 10 := fun h9 => by rw [(q3 h9).1]; exact ((hp k hk).2 h9).1
      have fin9 : ∀ w', MB dA md w w' (bTask k ru a b c8 β) 0 → (¬ okT (nI k) (nI ru) a b c8 → MB dA md w w' β 1) ∧ ∀ k' r', k' < 12 → nI k = nI k' → nI ru = nI r' → okTask r' a b c8 → MB dA md w w' (bTask k' r' a b c8 β) 0 := fun w' h9 => ⟨fun h8 => absurd (hb10.mp rfl) h8, fun k' r' hk' e3 e4 ho' => by rw [← (nI_eq (by omega) (by omega)).mp e3, ← (nI_eq (by omega) (by have := ho'.1; omega)).mp e4]; exact h9⟩
      refine va_calli (rn_V (n := 1) (As := [.int (nI true.toNat)]) (rest := []) (C := R_D) (T := F_D) (N := 36) (ci := 5) X hP hS (c_D_bad B0 w md μ true hj hD) k_711 k_713 k_38 k_58 k_714 (by decide +kernel) rfl rfl ⟨Nat.le_of_ble_eq_true rfl, Nat.le_of_ble_eq_true rfl⟩ r36 rfl rfl hl.1 rfl (Nat.le_of_ble_eq_true rfl) d_D_task_180 ⟨Nat.le_of_ble_eq_true rfl, Nat.le_of_ble_eq_true rfl⟩) hS (fun q _ h => h) (fun q h => h) (fun r w3 tS H locs ht hvm hw hB hz1 hk1 hS => ?_)
      have hP : fw_P (dC, dI) cls_ (AA s0) w3 H := by rw [← ht]; exact hB
      obtain ⟨rfl, hR8, ho8⟩ := hw
      have hD1 : RD dA md w3 (dThr 0 μ) := hR8
      have ho4 : OutD md w w3 := OutD.tr OutD.rf ho8
      obtain ⟨r36, r0, r1, r2, r3, r4, r5, r6, r7, r8, ⟨u, r9⟩, r10, r11, r12, r13, r14, r15, r23, r24, r25, r26, r27, r28, r29, r30, r31, r32, r33, r34⟩ := (id hD1)
      refine nu_ifeq (tgt := 187) hx hb d_D_task_183 (by decide) (fun c1 => ?_) (fun c1 => ?_)
      · refine lv_aload_n hx hb d_D_task_187 rfl (lv_at hl 0 rfl) ?_
        have r36 : w3 (md 36) = some (.inr (5, [.ref (md 0), .ref (md 1), .ref (md 2), .ref (md 3), .ref (md 4), .ref (md 5), .ref (md 6), .ref (md 7), .ref (md 8), .ref (md 9), .ref (md 10), .ref (md 11), .ref (md 12), .ref (md 13), .ref (md 14), .ref (md 15), .int (nI (m_cached μ)), .int (nI (m_ocached μ)), .int (m_circ μ), .int (m_ocirc μ), .int (nI 0), .int (nI (m_wkr μ)), .int (nI (m_ran μ).toNat), .ref (md 23), .ref (md 24), .ref (md 25), .ref (md 26), .ref (md 27), .ref (md 28), .ref (md 29), .ref (md 30), .ref (md 31), .ref (md 32), .ref (md 33), .ref (md 34), .int (nI (m_hgt μ))])) := r36
        refine va_get (D := (dC, dI)) (ci := 5) (v := .ref (md 0)) (C := R_D) (T := F_D) (N := 36) hx hb hg in_D hown hK (hP.one r36) 0 rfl rfl 0 (by decide) (hg _ k_591) (fun _ h9 => h9) rfl d_D_task_188 ?_
        refine lv_iload_n hx hb d_D_task_191 rfl (lv_at hl 1 rfl) ?_
        have r0 : w3 (md 0) = some (.inl (dA 0, 12, .inl (nf (m_sort μ)))) := r0
        refine fw_iald (tys := tyl dA) hx hb hK hP r0 0 rfl (j := k) (by omega) (by decide) d_D_task_192 ?_
        refine lv_iconst (v := (nI 2)) hx hb d_D_task_193 (by decide) ?_
        refine nu_ne (tgt := 250) hx hb (by omega) (by omega) d_D_task_194 (by decide) (fun f1 => ?_) (fun f1 => ?_)
        · refine lv_aload_n hx hb d_D_task_250 rfl (lv_at hl 0 rfl) ?_
          refine lv_iload_n hx hb d_D_task_251 rfl (lv_at hl 1 rfl) ?_
          refine va_callv (rn_V (n := 1) (As := [.int (nI k)]) (rest := []) (C := R_D) (T := F_D) (N := 36) (ci := 5) X hP hS (c_D_forgetKey B0 w3 md (dThr 0 μ) k hj hD1 hk (by have := hQ.c16; show m_cached μ ≤ 17; omega) hQ.cs hQ.co) k_715 k_717 k_39 k_58 k_718 (by decide +kernel) rfl rfl ⟨Nat.le_of_ble_eq_true rfl, Nat.le_of_ble_eq_true rfl⟩ r36 rfl rfl hl.1 rfl (Nat.le_of_ble_eq_true rfl) d_D_task_252 ⟨Nat.le_of_ble_eq_true rfl, Nat.le_of_ble_eq_true rfl⟩) hS (fun q _ h => h) (fun q h => h) (fun w5 tS H locs ht hvm hw hB hz1 hk1 hS => ?_)
          have hP : fw_P (dC, dI) cls_ (AA s0) w5 H := by rw [← ht]; exact hB
          obtain ⟨x9, c9, hR7, hx9, ho7⟩ := hw
          have ho6 : OutD md w w5 := OutD.tr ho4 ho7
          obtain ⟨r36, r0, r1, r2, r3, r4, r5, r6, r7, r8, ⟨u, r9⟩, r10, r11, r12, r13, r14, r15, r23, r24, r25, r26, r27, r28, r29, r30, r31, r32, r33, r34⟩ := (id hR7)
          refine lv_aload_n hx hb d_D_task_255 rfl (lv_at hl 0 rfl) ?_
          have r36 : w5 (md 36) = some (.inr (5, [.ref (md 0), .ref (md 1), .ref (md 2), .ref (md 3), .ref (md 4), .ref (md 5), .ref (md 6), .ref (md 7), .ref (md 8), .ref (md 9), .ref (md 10), .ref (md 11), .ref (md 12), .ref (md 13), .ref (md 14), .ref (md 15), .int (nI c9), .int (nI (m_ocached μ)), .int (m_circ μ), .int (m_ocirc μ), .int (nI 0), .int (nI (m_wkr μ)), .int (nI (m_ran μ).toNat), .ref (md 23), .ref (md 24), .ref (md 25), .ref (md 26), .ref (md 27), .ref (md 28), .ref (md 29), .ref (md 30), .ref (md 31), .ref (md 32), .ref (md 33), .ref (md 34), .int (nI (m_hgt μ))])) := r36
          refine va_get (D := (dC, dI)) (ci := 5) (v := .ref (md 0)) (C := R_D) (T := F_D) (N := 36) hx hb hg in_D hown hK (hP.one r36) 0 rfl rfl 0 (by decide) (hg _ k_591) (fun _ h9 => h9) rfl d_D_task_256 ?_
          refine lv_iload_n hx hb d_D_task_259 rfl (lv_at hl 1 rfl) ?_
          refine lv_iconst (v := (nI 2)) hx hb d_D_task_260 (by decide) ?_
          have r0 : w5 (md 0) = some (.inl (dA 0, 12, .inl (nf (m_sort μ)))) := r0
          refine fw_iast (tys := tyl dA) hx hb hK hP hS r0 0 rfl (j := k) (x := (nI 2)) (by omega) (by decide) d_D_task_261 (fun w7 H locs ew8 hP hS => ?_)
          rw [nf_up] at ew8
          have r0 : w7 (md 0) = some (.inl (dA 0, 12, .inl (nf (va_up (m_sort μ) k 2)))) := by rw [ew8]; exact va_up_self _ _ _
          have ho9 : OutD md w w7 := OutD.up ho6 ew8 (by decide)
          refine lv_aload_n hx hb d_D_task_262 rfl (lv_at hl 0 rfl) ?_
          have r36 : w7 (md 36) = some (.inr (5, [.ref (md 0), .ref (md 1), .ref (md 2), .ref (md 3), .ref (md 4), .ref (md 5), .ref (md 6), .ref (md 7), .ref (md 8), .ref (md 9), .ref (md 10), .ref (md 11), .ref (md 12), .ref (md 13), .ref (md 14), .ref (md 15), .int (nI c9), .int (nI (m_ocached μ)), .int (m_circ μ), .int (m_ocirc μ), .int (nI 0), .int (nI (m_wkr μ)), .int (nI (m_ran μ).toNat), .ref (md 23), .ref (md 24), .ref (md 25), .ref (md 26), .ref (md 27), .ref (md 28), .ref (md 29), .ref (md 30), .ref (md 31), .ref (md 32), .ref (md 33), .ref (md 34), .int (nI (m_hgt μ))])) := by rw [ew8, va_up_ne _ _ (hj.ne (i := 36) (j := 0) (by decide) (by decide) (by decide))]; exact r36
          refine va_get (D := (dC, dI)) (ci := 5) (v := .ref (md 1)) (C := R_D) (T := F_D) (N := 36) hx hb hg in_D hown hK (hP.one r36) 0 rfl rfl 1 (by decide) (hg _ k_592) (fun _ h9 => h9) rfl d_D_task_263 ?_
          refine lv_iload_n hx hb d_D_task_266 rfl (lv_at hl 1 rfl) ?_
          refine lv_iload_n hx hb d_D_task_267 rfl (lv_at hl 2 rfl) ?_
          have r1 : w7 (md 1) = some (.inl (dA 0, 12, .inl (nf (m_rule μ)))) := by rw [ew8, va_up_ne _ _ (hj.ne (i := 1) (j := 0) (by decide) (by decide) (by decide))]; exact r1
          refine fw_iast (tys := tyl dA) hx hb hK hP hS r1 0 rfl (j := k) (x := (nI ru)) (by omega) (by decide) d_D_task_268 (fun w10 H locs ew11 hP hS => ?_)
          rw [nf_up] at ew11
          have r1 : w10 (md 1) = some (.inl (dA 0, 12, .inl (nf (va_up (m_rule μ) k ru)))) := by rw [ew11]; exact va_up_self _ _ _
          have ho12 : OutD md w w10 := OutD.up ho9 ew11 (by decide)
          refine lv_aload_n hx hb d_D_task_269 rfl (lv_at hl 0 rfl) ?_
          have r36 : w10 (md 36) = some (.inr (5, [.ref (md 0), .ref (md 1), .ref (md 2), .ref (md 3), .ref (md 4), .ref (md 5), .ref (md 6), .ref (md 7), .ref (md 8), .ref (md 9), .ref (md 10), .ref (md 11), .ref (md 12), .ref (md 13), .ref (md 14), .ref (md 15), .int (nI c9), .int (nI (m_ocached μ)), .int (m_circ μ), .int (m_ocirc μ), .int (nI 0), .int (nI (m_wkr μ)), .int (nI (m_ran μ).toNat), .ref (md 23), .ref (md 24), .ref (md 25), .ref (md 26), .ref (md 27), .ref (md 28), .ref (md 29), .ref (md 30), .ref (md 31), .ref (md 32), .ref (md 33), .ref (md 34), .int (nI (m_hgt μ))])) := by rw [ew11, va_up_ne _ _ (hj.ne (i := 36) (j := 1) (by decide) (by decide) (by decide))]; exact r36
          refine va_get (D := (dC, dI)) (ci := 5) (v := .ref (md 2)) (C := R_D) (T := F_D) (N := 36) hx hb hg in_D hown hK (hP.one r36) 0 rfl rfl 2 (by decide) (hg _ k_593) (fun _ h9 => h9) rfl d_D_task_270 ?_
          refine lv_iload_n hx hb d_D_task_273 rfl (lv_at hl 1 rfl) ?_
          refine lv_iconst (v := (nI 3)) hx hb d_D_task_274 (by decide) ?_
          refine nu_imul (r := 3 * k) hx hb d_D_task_275 (by omega) ?_
          refine lv_iload_n hx hb d_D_task_276 rfl (lv_at hl 3 rfl) ?_
          have r2 : w10 (md 2) = some (.inl (dA 0, 36, .inl (m_parts μ))) := by rw [ew11, va_up_ne _ _ (hj.ne (i := 2) (j := 1) (by decide) (by decide) (by decide)), ew8, va_up_ne _ _ (hj.ne (i := 2) (j := 0) (by decide) (by decide) (by decide))]; exact r2
          refine fw_iast (tys := tyl dA) hx hb hK hP hS r2 0 rfl (j := 3 * k) (x := a) (by omega) (by decide) d_D_task_277 (fun w13 H locs ew14 hP hS => ?_)
          have r2 : w13 (md 2) = some (.inl (dA 0, 36, .inl (upd (m_parts μ) (3 * k) a))) := by rw [ew14]; exact va_up_self _ _ _
          have ho15 : OutD md w w13 := OutD.up ho12 ew14 (by decide)
          refine lv_aload_n hx hb d_D_task_278 rfl (lv_at hl 0 rfl) ?_
          have r36 : w13 (md 36) = some (.inr (5, [.ref (md 0), .ref (md 1), .ref (md 2), .ref (md 3), .ref (md 4), .ref (md 5), .ref (md 6), .ref (md 7), .ref (md 8), .ref (md 9), .ref (md 10), .ref (md 11), .ref (md 12), .ref (md 13), .ref (md 14), .ref (md 15), .int (nI c9), .int (nI (m_ocached μ)), .int (m_circ μ), .int (m_ocirc μ), .int (nI 0), .int (nI (m_wkr μ)), .int (nI (m_ran μ).toNat), .ref (md 23), .ref (md 24), .ref (md 25), .ref (md 26), .ref (md 27), .ref (md 28), .ref (md 29), .ref (md 30), .ref (md 31), .ref (md 32), .ref (md 33), .ref (md 34), .int (nI (m_hgt μ))])) := by rw [ew14, va_up_ne _ _ (hj.ne (i := 36) (j := 2) (by decide) (by decide) (by decide))]; exact r36
          refine va_get (D := (dC, dI)) (ci := 5) (v := .ref (md 2)) (C := R_D) (T := F_D) (N := 36) hx hb hg in_D hown hK (hP.one r36) 0 rfl rfl 2 (by decide) (hg _ k_593) (fun _ h9 => h9) rfl d_D_task_279 ?_
          refine lv_iload_n hx hb d_D_task_282 rfl (lv_at hl 1 rfl) ?_
          refine lv_iconst (v := (nI 3)) hx hb d_D_task_283 (by decide) ?_
          refine nu_imul (r := 3 * k) hx hb d_D_task_284 (by omega) ?_
          refine lv_iconst (v := (nI 1)) hx hb d_D_task_285 (by decide) ?_
          refine nu_iadd (r := 3 * k + 1) hx hb d_D_task_286 (by omega) ?_
          refine lv_iload hx hb d_D_task_287 (lv_at hl 4 rfl) ?_
          refine fw_iast (tys := tyl dA) hx hb hK hP hS r2 0 rfl (j := 3 * k + 1) (x := b) (by omega) (by decide) d_D_task_289 (fun w16 H locs ew17 hP hS => ?_)
          have r2 : w16 (md 2) = some (.inl (dA 0, 36, .inl (upd (upd (m_parts μ) (3 * k) a) (3 * k + 1) b))) := by rw [ew17]; exact va_up_self _ _ _
          have ho18 : OutD md w w16 := OutD.up ho15 ew17 (by decide)
          refine lv_aload_n hx hb d_D_task_290 rfl (lv_at hl 0 rfl) ?_
          have r36 : w16 (md 36) = some (.inr (5, [.ref (md 0), .ref (md 1), .ref (md 2), .ref (md 3), .ref (md 4), .ref (md 5), .ref (md 6), .ref (md 7), .ref (md 8), .ref (md 9), .ref (md 10), .ref (md 11), .ref (md 12), .ref (md 13), .ref (md 14), .ref (md 15), .int (nI c9), .int (nI (m_ocached μ)), .int (m_circ μ), .int (m_ocirc μ), .int (nI 0), .int (nI (m_wkr μ)), .int (nI (m_ran μ).toNat), .ref (md 23), .ref (md 24), .ref (md 25), .ref (md 26), .ref (md 27), .ref (md 28), .ref (md 29), .ref (md 30), .ref (md 31), .ref (md 32), .ref (md 33), .ref (md 34), .int (nI (m_hgt μ))])) := by rw [ew17, va_up_ne _ _ (hj.ne (i := 36) (j := 2) (by decide) (by decide) (by decide))]; exact r36
          refine va_get (D := (dC, dI)) (ci := 5) (v := .ref (md 2)) (C := R_D) (T := F_D) (N := 36) hx hb hg in_D hown hK (hP.one r36) 0 rfl rfl 2 (by decide) (hg _ k_593) (fun _ h9 => h9) rfl d_D_task_291 ?_
          refine lv_iload_n hx hb d_D_task_294 rfl (lv_at hl 1 rfl) ?_
          refine lv_iconst (v := (nI 3)) hx hb d_D_task_295 (by decide) ?_
          refine nu_imul (r := 3 * k) hx hb d_D_task_296 (by omega) ?_
          refine lv_iconst (v := (nI 2)) hx hb d_D_task_297 (by decide) ?_
          refine nu_iadd (r := 3 * k + 2) hx hb d_D_task_298 (by omega) ?_
          refine lv_iload hx hb d_D_task_299 (lv_at hl 5 rfl) ?_
          refine fw_iast (tys := tyl dA) hx hb hK hP hS r2 0 rfl (j := 3 * k + 2) (x := c8) (by omega) (by decide) d_D_task_301 (fun w19 H locs ew20 hP hS => ?_)
          have r2 : w19 (md 2) = some (.inl (dA 0, 36, .inl (upd (upd (upd (m_parts μ) (3 * k) a) (3 * k + 1) b) (3 * k + 2) c8))) := by rw [ew20]; exact va_up_self _ _ _
          have ho21 : OutD md w w19 := OutD.up ho18 ew20 (by decide)
          have hB9 : bTask k ru a b c8 β = bDrop (pTask (b_P β) k ru a b c8) k β := if_neg (fun h9 => f1 (q1.trans h9.1))
          have hq9 : RQ (bTask k ru a b c8 β) (((va_up (m_sort μ) k 2), (va_up (m_rule μ) k ru), upd (upd (upd (m_parts μ) (3 * k) a) (3 * k + 1) b) (3 * k + 2) c8, m_inp μ), ((m_size μ), (m_keys μ), (m_own μ), m_got μ, m_came μ), (upd (upd (m_trc μ) k (-1)) (12 + k) (-1), x9, c9, m_cnt μ, (m_circ μ)), (m_otrc μ, (m_occh μ), m_ocached μ, m_ocnt μ, (m_ocirc μ)), (0, m_wkr μ, (m_ran μ), (m_st μ), m_val μ), ((m_key μ), (m_ph μ), m_chk μ, (m_at μ), (m_cand μ), (m_cc μ), (m_mk μ), (m_asked μ), m_first μ, m_sum μ, m_hgt μ)) := by rw [hB9]; exact rq_drop (μ := dThr 0 μ) hQ hk hx9 (pl := (va_up (m_sort μ) k 2, va_up (m_rule μ) k ru, upd (upd (upd (m_parts μ) (3 * k) a) (3 * k + 1) b) (3 * k + 2) c8, m_inp μ)) (plq_task (β := β) (μ := μ) hQ.1 rfl)
          have hk22 : ∀ i, U37 i → i ∉ [2] → w19 (md i) = w16 (md i) := fun i hi hn => by rw [ew20, va_up_ne _ _ (hj.ne hi (j := 2) (by decide) (fun e9 => hn (by rw [e9]; decide)))]
          have hk23 : ∀ i, U37 i → i ∉ [1, 2] → w19 (md i) = w7 (md i) := fun i hi hn => by rw [ew20, va_up_ne _ _ (hj.ne hi (j := 2) (by decide) (fun e9 => hn (by rw [e9]; decide))), ew17, va_up_ne _ _ (hj.ne hi (j := 2) (by decide) (fun e9 => hn (by rw [e9]; decide))), ew14, va_up_ne _ _ (hj.ne hi (j := 2) (by decide) (fun e9 => hn (by rw [e9]; decide))), ew11, va_up_ne _ _ (hj.ne hi (j := 1) (by decide) (fun e9 => hn (by rw [e9]; decide)))]
          have hk24 : ∀ i, U37 i → i ∉ [2] → w19 (md i) = w10 (md i) := fun i hi hn => by rw [ew20, va_up_ne _ _ (hj.ne hi (j := 2) (by decide) (fun e9 => hn (by rw [e9]; decide))), ew17, va_up_ne _ _ (hj.ne hi (j := 2) (by decide) (fun e9 => hn (by rw [e9]; decide))), ew14, va_up_ne _ _ (hj.ne hi (j := 2) (by decide) (fun e9 => hn (by rw [e9]; decide)))]
          have hk25 : ∀ i, U37 i → i ∉ [0, 1, 2] → w19 (md i) = w5 (md i) := fun i hi hn => by rw [ew20, va_up_ne _ _ (hj.ne hi (j := 2) (by decide) (fun e9 => hn (by rw [e9]; decide))), ew17, va_up_ne _ _ (hj.ne hi (j := 2) (by decide) (fun e9 => hn (by rw [e9]; decide))), ew14, va_up_ne _ _ (hj.ne hi (j := 2) (by decide) (fun e9 => hn (by rw [e9]; decide))), ew11, va_up_ne _ _ (hj.ne hi (j := 1) (by decide) (fun e9 => hn (by rw [e9]; decide))), ew8, va_up_ne _ _ (hj.ne hi (j := 0) (by decide) (fun e9 => hn (by rw [e9]; decide)))]
          exact W.vret hx hb hr (fun tS ht hW => ⟨⟨w19, rfl, (fin9 _ ⟨(((va_up (m_sort μ) k 2), (va_up (m_rule μ) k ru), upd (upd (upd (m_parts μ) (3 * k) a) (3 * k + 1) b) (3 * k + 2) c8, m_inp μ), ((m_size μ), (m_keys μ), (m_own μ), m_got μ, m_came μ), (upd (upd (m_trc μ) k (-1)) (12 + k) (-1), x9, c9, m_cnt μ, (m_circ μ)), (m_otrc μ, (m_occh μ), m_ocached μ, m_ocnt μ, (m_ocirc μ)), (0, m_wkr μ, (m_ran μ), (m_st μ), m_val μ), ((m_key μ), (m_ph μ), m_chk μ, (m_at μ), (m_cand μ), (m_cc μ), (m_mk μ), (m_asked μ), m_first μ, m_sum μ, m_hgt μ)), ⟨(hk22 36 (by decide) (by decide)).trans r36, (hk23 0 (by decide) (by decide)).trans r0, (hk24 1 (by decide) (by decide)).trans r1, r2, (hk25 3 (by decide) (by decide)).trans r3, (hk25 4 (by decide) (by decide)).trans r4, (hk25 5 (by decide) (by decide)).trans r5, (hk25 6 (by decide) (by decide)).trans r6, (hk25 7 (by decide) (by decide)).trans r7, (hk25 8 (by decide) (by decide)).trans r8, ⟨_, (hk25 9 (by decide) (by decide)).trans r9⟩, (hk25 10 (by decide) (by decide)).trans r10, (hk25 11 (by decide) (by decide)).trans r11, (hk25 12 (by decide) (by decide)).trans r12, (hk25 13 (by decide) (by decide)).trans r13, (hk25 14 (by decide) (by decide)).trans r14, (hk25 15 (by decide) (by decide)).trans r15, (hk25 23 (by decide) (by decide)).trans r23, (hk25 24 (by decide) (by decide)).trans r24, (hk25 25 (by decide) (by decide)).trans r25, (hk25 26 (by decide) (by decide)).trans r26, (hk25 27 (by decide) (by decide)).trans r27, (hk25 28 (by decide) (by decide)).trans r28, (hk25 29 (by decide) (by decide)).trans r29, (hk25 30 (by decide) (by decide)).trans r30, (hk25 31 (by decide) (by decide)).trans r31, (hk25 32 (by decide) (by decide)).trans r32, (hk25 33 (by decide) (by decide)).trans r33, (hk25 34 (by decide) (by decide)).trans r34⟩, hq9, rfl, ho21⟩), mB_of ht hP⟩, hS.F ht⟩) hS.2.2 d_D_task_302
        · have h2 : p_kd (b_P β) k = 2 := q1.symm.trans f1
          have hr3 := hrl h2
          obtain ⟨q4, q5⟩ := q3 h2
          refine lv_aload_n hx hb d_D_task_197 rfl (lv_at hl 0 rfl) ?_
          refine va_get (D := (dC, dI)) (ci := 5) (v := .ref (md 1)) (C := R_D) (T := F_D) (N := 36) hx hb hg in_D hown hK (hP.one r36) 0 rfl rfl 1 (by decide) (hg _ k_592) (fun _ h9 => h9) rfl d_D_task_198 ?_
          refine lv_iload_n hx hb d_D_task_201 rfl (lv_at hl 1 rfl) ?_
          have r1 : w3 (md 1) = some (.inl (dA 0, 12, .inl (nf (m_rule μ)))) := r1
          refine fw_iald (tys := tyl dA) hx hb hK hP r1 0 rfl (j := k) (by omega) (by decide) d_D_task_202 ?_
          refine lv_iload_n hx hb d_D_task_203 rfl (lv_at hl 2 rfl) ?_
          refine nu_ne (tgt := 250) hx hb (by omega) (by omega) d_D_task_204 (by decide) (fun f2 => ?_) (fun f2 => ?_)
          · refine lv_aload_n hx hb d_D_task_250 rfl (lv_at hl 0 rfl) ?_
            refine lv_iload_n hx hb d_D_task_251 rfl (lv_at hl 1 rfl) ?_
            refine va_callv (rn_V (n := 1) (As := [.int (nI k)]) (rest := []) (C := R_D) (T := F_D) (N := 36) (ci := 5) X hP hS (c_D_forgetKey B0 w3 md (dThr 0 μ) k hj hD1 hk (by have := hQ.c16; show m_cached μ ≤ 17; omega) hQ.cs hQ.co) k_715 k_717 k_39 k_58 k_718 (by decide +kernel) rfl rfl ⟨Nat.le_of_ble_eq_true rfl, Nat.le_of_ble_eq_true rfl⟩ r36 rfl rfl hl.1 rfl (Nat.le_of_ble_eq_true rfl) d_D_task_252 ⟨Nat.le_of_ble_eq_true rfl, Nat.le_of_ble_eq_true rfl⟩) hS (fun q _ h => h) (fun q h => h) (fun w26 tS H locs ht hvm hw hB hz1 hk1 hS => ?_)
            have hP : fw_P (dC, dI) cls_ (AA s0) w26 H := by rw [← ht]; exact hB
            obtain ⟨x9, c9, hR7, hx9, ho7⟩ := hw
            have ho27 : OutD md w w26 := OutD.tr ho4 ho7
            obtain ⟨r36, r0, r1, r2, r3, r4, r5, r6, r7, r8, ⟨u, r9⟩, r10, r11, r12, r13, r14, r15, r23, r24, r25, r26, r27, r28, r29, r30, r31, r32, r33, r34⟩ := (id hR7)
            refine lv_aload_n hx hb d_D_task_255 rfl (lv_at hl 0 rfl) ?_
            have r36 : w26 (md 36) = some (.inr (5, [.ref (md 0), .ref (md 1), .ref (md 2), .ref (md 3), .ref (md 4), .ref (md 5), .ref (md 6), .ref (md 7), .ref (md 8), .ref (md 9), .ref (md 10), .ref (md 11), .ref (md 12), .ref (md 13), .ref (md 14), .ref (md 15), .int (nI c9), .int (nI (m_ocached μ)), .int (m_circ μ), .int (m_ocirc μ), .int (nI 0), .int (nI (m_wkr μ)), .int (nI (m_ran μ).toNat), .ref (md 23), .ref (md 24), .ref (md 25), .ref (md 26), .ref (md 27), .ref (md 28), .ref (md 29), .ref (md 30), .ref (md 31), .ref (md 32), .ref (md 33), .ref (md 34), .int (nI (m_hgt μ))])) := r36
            refine va_get (D := (dC, dI)) (ci := 5) (v := .ref (md 0)) (C := R_D) (T := F_D) (N := 36) hx hb hg in_D hown hK (hP.one r36) 0 rfl rfl 0 (by decide) (hg _ k_591) (fun _ h9 => h9) rfl d_D_task_256 ?_
            refine lv_iload_n hx hb d_D_task_259 rfl (lv_at hl 1 rfl) ?_
            refine lv_iconst (v := (nI 2)) hx hb d_D_task_260 (by decide) ?_
            have r0 : w26 (md 0) = some (.inl (dA 0, 12, .inl (nf (m_sort μ)))) := r0
            refine fw_iast (tys := tyl dA) hx hb hK hP hS r0 0 rfl (j := k) (x := (nI 2)) (by omega) (by decide) d_D_task_261 (fun w28 H locs ew29 hP hS => ?_)
            rw [nf_up] at ew29
            have r0 : w28 (md 0) = some (.inl (dA 0, 12, .inl (nf (va_up (m_sort μ) k 2)))) := by rw [ew29]; exact va_up_self _ _ _
            have ho30 : OutD md w w28 := OutD.up ho27 ew29 (by decide)
            refine lv_aload_n hx hb d_D_task_262 rfl (lv_at hl 0 rfl) ?_
            have r36 : w28 (md 36) = some (.inr (5, [.ref (md 0), .ref (md 1), .ref (md 2), .ref (md 3), .ref (md 4), .ref (md 5), .ref (md 6), .ref (md 7), .ref (md 8), .ref (md 9), .ref (md 10), .ref (md 11), .ref (md 12), .ref (md 13), .ref (md 14), .ref (md 15), .int (nI c9), .int (nI (m_ocached μ)), .int (m_circ μ), .int (m_ocirc μ), .int (nI 0), .int (nI (m_wkr μ)), .int (nI (m_ran μ).toNat), .ref (md 23), .ref (md 24), .ref (md 25), .ref (md 26), .ref (md 27), .ref (md 28), .ref (md 29), .ref (md 30), .ref (md 31), .ref (md 32), .ref (md 33), .ref (md 34), .int (nI (m_hgt μ))])) := by rw [ew29, va_up_ne _ _ (hj.ne (i := 36) (j := 0) (by decide) (by decide) (by decide))]; exact r36
            refine va_get (D := (dC, dI)) (ci := 5) (v := .ref (md 1)) (C := R_D) (T := F_D) (N := 36) hx hb hg in_D hown hK (hP.one r36) 0 rfl rfl 1 (by decide) (hg _ k_592) (fun _ h9 => h9) rfl d_D_task_263 ?_
            refine lv_iload_n hx hb d_D_task_266 rfl (lv_at hl 1 rfl) ?_
            refine lv_iload_n hx hb d_D_task_267 rfl (lv_at hl 2 rfl) ?_
            have r1 : w28 (md 1) = some (.inl (dA 0, 12, .inl (nf (m_rule μ)))) := by rw [ew29, va_up_ne _ _ (hj.ne (i := 1) (j := 0) (by decide) (by decide) (by decide))]; exact r1
            refine fw_iast (tys := tyl dA) hx hb hK hP hS r1 0 rfl (j := k) (x := (nI ru)) (by omega) (by decide) d_D_task_268 (fun w31 H locs ew32 hP hS => ?_)
            rw [nf_up] at ew32
            have r1 : w31 (md 1) = some (.inl (dA 0, 12, .inl (nf (va_up (m_rule μ) k ru)))) := by rw [ew32]; exact va_up_self _ _ _
            have ho33 : OutD md w w31 := OutD.up ho30 ew32 (by decide)
            refine lv_aload_n hx hb d_D_task_269 rfl (lv_at hl 0 rfl) ?_
            have r36 : w31 (md 36) = some (.inr (5, [.ref (md 0), .ref (md 1), .ref (md 2), .ref (md 3), .ref (md 4), .ref (md 5), .ref (md 6), .ref (md 7), .ref (md 8), .ref (md 9), .ref (md 10), .ref (md 11), .ref (md 12), .ref (md 13), .ref (md 14), .ref (md 15), .int (nI c9), .int (nI (m_ocached μ)), .int (m_circ μ), .int (m_ocirc μ), .int (nI 0), .int (nI (m_wkr μ)), .int (nI (m_ran μ).toNat), .ref (md 23), .ref (md 24), .ref (md 25), .ref (md 26), .ref (md 27), .ref (md 28), .ref (md 29), .ref (md 30), .ref (md 31), .ref (md 32), .ref (md 33), .ref (md 34), .int (nI (m_hgt μ))])) := by rw [ew32, va_up_ne _ _ (hj.ne (i := 36) (j := 1) (by decide) (by decide) (by decide))]; exact r36
            refine va_get (D := (dC, dI)) (ci := 5) (v := .ref (md 2)) (C := R_D) (T := F_D) (N := 36) hx hb hg in_D hown hK (hP.one r36) 0 rfl rfl 2 (by decide) (hg _ k_593) (fun _ h9 => h9) rfl d_D_task_270 ?_
            refine lv_iload_n hx hb d_D_task_273 rfl (lv_at hl 1 rfl) ?_
            refine lv_iconst (v := (nI 3)) hx hb d_D_task_274 (by decide) ?_
            refine nu_imul (r := 3 * k) hx hb d_D_task_275 (by omega) ?_
            refine lv_iload_n hx hb d_D_task_276 rfl (lv_at hl 3 rfl) ?_
            have r2 : w31 (md 2) = some (.inl (dA 0, 36, .inl (m_parts μ))) := by rw [ew32, va_up_ne _ _ (hj.ne (i := 2) (j := 1) (by decide) (by decide) (by decide)), ew29, va_up_ne _ _ (hj.ne (i := 2) (j := 0) (by decide) (by decide) (by decide))]; exact r2
            refine fw_iast (tys := tyl dA) hx hb hK hP hS r2 0 rfl (j := 3 * k) (x := a) (by omega) (by decide) d_D_task_277 (fun w34 H locs ew35 hP hS => ?_)
            have r2 : w34 (md 2) = some (.inl (dA 0, 36, .inl (upd (m_parts μ) (3 * k) a))) := by rw [ew35]; exact va_up_self _ _ _
            have ho36 : OutD md w w34 := OutD.up ho33 ew35 (by decide)
            refine lv_aload_n hx hb d_D_task_278 rfl (lv_at hl 0 rfl) ?_
            have r36 : w34 (md 36) = some (.inr (5, [.ref (md 0), .ref (md 1), .ref (md 2), .ref (md 3), .ref (md 4), .ref (md 5), .ref (md 6), .ref (md 7), .ref (md 8), .ref (md 9), .ref (md 10), .ref (md 11), .ref (md 12), .ref (md 13), .ref (md 14), .ref (md 15), .int (nI c9), .int (nI (m_ocached μ)), .int (m_circ μ), .int (m_ocirc μ), .int (nI 0), .int (nI (m_wkr μ)), .int (nI (m_ran μ).toNat), .ref (md 23), .ref (md 24), .ref (md 25), .ref (md 26), .ref (md 27), .ref (md 28), .ref (md 29), .ref (md 30), .ref (md 31), .ref (md 32), .ref (md 33), .ref (md 34), .int (nI (m_hgt μ))])) := by rw [ew35, va_up_ne _ _ (hj.ne (i := 36) (j := 2) (by decide) (by decide) (by decide))]; exact r36
            refine va_get (D := (dC, dI)) (ci := 5) (v := .ref (md 2)) (C := R_D) (T := F_D) (N := 36) hx hb hg in_D hown hK (hP.one r36) 0 rfl rfl 2 (by decide) (hg _ k_593) (fun _ h9 => h9) rfl d_D_task_279 ?_
            refine lv_iload_n hx hb d_D_task_282 rfl (lv_at hl 1 rfl) ?_
            refine lv_iconst (v := (nI 3)) hx hb d_D_task_283 (by decide) ?_
            refine nu_imul (r := 3 * k) hx hb d_D_task_284 (by omega) ?_
            refine lv_iconst (v := (nI 1)) hx hb d_D_task_285 (by decide) ?_
            refine nu_iadd (r := 3 * k + 1) hx hb d_D_task_286 (by omega) ?_
            refine lv_iload hx hb d_D_task_287 (lv_at hl 4 rfl) ?_
            refine fw_iast (tys := tyl dA) hx hb hK hP hS r2 0 rfl (j := 3 * k + 1) (x := b) (by omega) (by decide) d_D_task_289 (fun w37 H locs ew38 hP hS => ?_)
            have r2 : w37 (md 2) = some (.inl (dA 0, 36, .inl (upd (upd (m_parts μ) (3 * k) a) (3 * k + 1) b))) := by rw [ew38]; exact va_up_self _ _ _
            have ho39 : OutD md w w37 := OutD.up ho36 ew38 (by decide)
            refine lv_aload_n hx hb d_D_task_290 rfl (lv_at hl 0 rfl) ?_
            have r36 : w37 (md 36) = some (.inr (5, [.ref (md 0), .ref (md 1), .ref (md 2), .ref (md 3), .ref (md 4), .ref (md 5), .ref (md 6), .ref (md 7), .ref (md 8), .ref (md 9), .ref (md 10), .ref (md 11), .ref (md 12), .ref (md 13), .ref (md 14), .ref (md 15), .int (nI c9), .int (nI (m_ocached μ)), .int (m_circ μ), .int (m_ocirc μ), .int (nI 0), .int (nI (m_wkr μ)), .int (nI (m_ran μ).toNat), .ref (md 23), .ref (md 24), .ref (md 25), .ref (md 26), .ref (md 27), .ref (md 28), .ref (md 29), .ref (md 30), .ref (md 31), .ref (md 32), .ref (md 33), .ref (md 34), .int (nI (m_hgt μ))])) := by rw [ew38, va_up_ne _ _ (hj.ne (i := 36) (j := 2) (by decide) (by decide) (by decide))]; exact r36
            refine va_get (D := (dC, dI)) (ci := 5) (v := .ref (md 2)) (C := R_D) (T := F_D) (N := 36) hx hb hg in_D hown hK (hP.one r36) 0 rfl rfl 2 (by decide) (hg _ k_593) (fun _ h9 => h9) rfl d_D_task_291 ?_
            refine lv_iload_n hx hb d_D_task_294 rfl (lv_at hl 1 rfl) ?_
            refine lv_iconst (v := (nI 3)) hx hb d_D_task_295 (by decide) ?_
            refine nu_imul (r := 3 * k) hx hb d_D_task_296 (by omega) ?_
            refine lv_iconst (v := (nI 2)) hx hb d_D_task_297 (by decide) ?_
            refine nu_iadd (r := 3 * k + 2) hx hb d_D_task_298 (by omega) ?_
            refine lv_iload hx hb d_D_task_299 (lv_at hl 5 rfl) ?_
            refine fw_iast (tys := tyl dA) hx hb hK hP hS r2 0 rfl (j := 3 * k + 2) (x := c8) (by omega) (by decide) d_D_task_301 (fun w40 H locs ew41 hP hS => ?_)
            have r2 : w40 (md 2) = some (.inl (dA 0, 36, .inl (upd (upd (upd (m_parts μ) (3 * k) a) (3 * k + 1) b) (3 * k + 2) c8))) := by rw [ew41]; exact va_up_self _ _ _
            have ho42 : OutD md w w40 := OutD.up ho39 ew41 (by decide)
            have hB9 : bTask k ru a b c8 β = bDrop (pTask (b_P β) k ru a b c8) k β := if_neg (fun h9 => f2 (q4.trans h9.2.1))
            have hq9 : RQ (bTask k ru a b c8 β) (((va_up (m_sort μ) k 2), (va_up (m_rule μ) k ru), upd (upd (upd (m_parts μ) (3 * k) a) (3 * k + 1) b) (3 * k + 2) c8, m_inp μ), ((m_size μ), (m_keys μ), (m_own μ), m_got μ, m_came μ), (upd (upd (m_trc μ) k (-1)) (12 + k) (-1), x9, c9, m_cnt μ, (m_circ μ)), (m_otrc μ, (m_occh μ), m_ocached μ, m_ocnt μ, (m_ocirc μ)), (0, m_wkr μ, (m_ran μ), (m_st μ), m_val μ), ((m_key μ), (m_ph μ), m_chk μ, (m_at μ), (m_cand μ), (m_cc μ), (m_mk μ), (m_asked μ), m_first μ, m_sum μ, m_hgt μ)) := by rw [hB9]; exact rq_drop (μ := dThr 0 μ) hQ hk hx9 (pl := (va_up (m_sort μ) k 2, va_up (m_rule μ) k ru, upd (upd (upd (m_parts μ) (3 * k) a) (3 * k + 1) b) (3 * k + 2) c8, m_inp μ)) (plq_task (β := β) (μ := μ) hQ.1 rfl)
            have hk43 : ∀ i, U37 i → i ∉ [2] → w40 (md i) = w37 (md i) := fun i hi hn => by rw [ew41, va_up_ne _ _ (hj.ne hi (j := 2) (by decide) (fun e9 => hn (by rw [e9]; decide)))]
            have hk44 : ∀ i, U37 i → i ∉ [1, 2] → w40 (md i) = w28 (md i) := fun i hi hn => by rw [ew41, va_up_ne _ _ (hj.ne hi (j := 2) (by decide) (fun e9 => hn (by rw [e9]; decide))), ew38, va_up_ne _ _ (hj.ne hi (j := 2) (by decide) (fun e9 => hn (by rw [e9]; decide))), ew35, va_up_ne _ _ (hj.ne hi (j := 2) (by decide) (fun e9 => hn (by rw [e9]; decide))), ew32, va_up_ne _ _ (hj.ne hi (j := 1) (by decide) (fun e9 => hn (by rw [e9]; decide)))]
            have hk45 : ∀ i, U37 i → i ∉ [2] → w40 (md i) = w31 (md i) := fun i hi hn => by rw [ew41, va_up_ne _ _ (hj.ne hi (j := 2) (by decide) (fun e9 => hn (by rw [e9]; decide))), ew38, va_up_ne _ _ (hj.ne hi (j := 2) (by decide) (fun e9 => hn (by rw [e9]; decide))), ew35, va_up_ne _ _ (hj.ne hi (j := 2) (by decide) (fun e9 => hn (by rw [e9]; decide)))]
            have hk46 : ∀ i, U37 i → i ∉ [0, 1, 2] → w40 (md i) = w26 (md i) := fun i hi hn => by rw [ew41, va_up_ne _ _ (hj.ne hi (j := 2) (by decide) (fun e9 => hn (by rw [e9]; decide))), ew38, va_up_ne _ _ (hj.ne hi (j := 2) (by decide) (fun e9 => hn (by rw [e9]; decide))), ew35, va_up_ne _ _ (hj.ne hi (j := 2) (by decide) (fun e9 => hn (by rw [e9]; decide))), ew32, va_up_ne _ _ (hj.ne hi (j := 1) (by decide) (fun e9 => hn (by rw [e9]; decide))), ew29, va_up_ne _ _ (hj.ne hi (j := 0) (by decide) (fun e9 => hn (by rw [e9]; decide)))]
            exact W.vret hx hb hr (fun tS ht hW => ⟨⟨w40, rfl, (fin9 _ ⟨(((va_up (m_sort μ) k 2), (va_up (m_rule μ) k ru), upd (upd (upd (m_parts μ) (3 * k) a) (3 * k + 1) b) (3 * k + 2) c8, m_inp μ), ((m_size μ), (m_keys μ), (m_own μ), m_got μ, m_came μ), (upd (upd (m_trc μ) k (-1)) (12 + k) (-1), x9, c9, m_cnt μ, (m_circ μ)), (m_otrc μ, (m_occh μ), m_ocached μ, m_ocnt μ, (m_ocirc μ)), (0, m_wkr μ, (m_ran μ), (m_st μ), m_val μ), ((m_key μ), (m_ph μ), m_chk μ, (m_at μ), (m_cand μ), (m_cc μ), (m_mk μ), (m_asked μ), m_first μ, m_sum μ, m_hgt μ)), ⟨(hk43 36 (by decide) (by decide)).trans r36, (hk44 0 (by decide) (by decide)).trans r0, (hk45 1 (by decide) (by decide)).trans r1, r2, (hk46 3 (by decide) (by decide)).trans r3, (hk46 4 (by decide) (by decide)).trans r4, (hk46 5 (by decide) (by decide)).trans r5, (hk46 6 (by decide) (by decide)).trans r6, (hk46 7 (by decide) (by decide)).trans r7, (hk46 8 (by decide) (by decide)).trans r8, ⟨_, (hk46 9 (by decide) (by decide)).trans r9⟩, (hk46 10 (by decide) (by decide)).trans r10, (hk46 11 (by decide) (by decide)).trans r11, (hk46 12 (by decide) (by decide)).trans r12, (hk46 13 (by decide) (by decide)).trans r13, (hk46 14 (by decide) (by decide)).trans r14, (hk46 15 (by decide) (by decide)).trans r15, (hk46 23 (by decide) (by decide)).trans r23, (hk46 24 (by decide) (by decide)).trans r24, (hk46 25 (by decide) (by decide)).trans r25, (hk46 26 (by decide) (by decide)).trans r26, (hk46 27 (by decide) (by decide)).trans r27, (hk46 28 (by decide) (by decide)).trans r28, (hk46 29 (by decide) (by decide)).trans r29, (hk46 30 (by decide) (by decide)).trans r30, (hk46 31 (by decide) (by decide)).trans r31, (hk46 32 (by decide) (by decide)).trans r32, (hk46 33 (by decide) (by decide)).trans r33, (hk46 34 (by decide) (by decide)).trans r34⟩, hq9, rfl, ho42⟩), mB_of ht hP⟩, hS.F ht⟩) hS.2.2 d_D_task_302
          · refine lv_aload_n hx hb d_D_task_207 rfl (lv_at hl 0 rfl) ?_
            refine va_get (D := (dC, dI)) (ci := 5) (v := .ref (md 2)) (C := R_D) (T := F_D) (N := 36) hx hb hg in_D hown hK (hP.one r36) 0 rfl rfl 2 (by decide) (hg _ k_593) (fun _ h9 => h9) rfl d_D_task_208 ?_
            refine lv_iload_n hx hb d_D_task_211 rfl (lv_at hl 1 rfl) ?_
            refine lv_iconst (v := (nI 3)) hx hb d_D_task_212 (by decide) ?_
            refine nu_imul (r := 3 * k) hx hb d_D_task_213 (by omega) ?_
            have r2 : w3 (md 2) = some (.inl (dA 0, 36, .inl (m_parts μ))) := r2
            refine fw_iald (tys := tyl dA) hx hb hK hP r2 0 rfl (j := 3 * k) (by omega) (by decide) d_D_task_214 ?_
            refine lv_iload_n hx hb d_D_task_215 rfl (lv_at hl 3 rfl) ?_
            refine lv_icmp_ne (tgt := 250) hx hb d_D_task_216 (by decide) (fun f3 => ?_) (fun f3 => ?_)
            · refine lv_aload_n hx hb d_D_task_250 rfl (lv_at hl 0 rfl) ?_
              refine lv_iload_n hx hb d_D_task_251 rfl (lv_at hl 1 rfl) ?_
              refine va_callv (rn_V (n := 1) (As := [.int (nI k)]) (rest := []) (C := R_D) (T := F_D) (N := 36) (ci := 5) X hP hS (c_D_forgetKey B0 w3 md (dThr 0 μ) k hj hD1 hk (by have := hQ.c16; show m_cached μ ≤ 17; omega) hQ.cs hQ.co) k_715 k_717 k_39 k_58 k_718 (by decide +kernel) rfl rfl ⟨Nat.le_of_ble_eq_true rfl, Nat.le_of_ble_eq_true rfl⟩ r36 rfl rfl hl.1 rfl (Nat.le_of_ble_eq_true rfl) d_D_task_252 ⟨Nat.le_of_ble_eq_true rfl, Nat.le_of_ble_eq_true rfl⟩) hS (fun q _ h => h) (fun q h => h) (fun w47 tS H locs ht hvm hw hB hz1 hk1 hS => ?_)
              have hP : fw_P (dC, dI) cls_ (AA s0) w47 H := by rw [← ht]; exact hB
              obtain ⟨x9, c9, hR7, hx9, ho7⟩ := hw
              have ho48 : OutD md w w47 := OutD.tr ho4 ho7
              obtain ⟨r36, r0, r1, r2, r3, r4, r5, r6, r7, r8, ⟨u, r9⟩, r10, r11, r12, r13, r14, r15, r23, r24, r25, r26, r27, r28, r29, r30, r31, r32, r33, r34⟩ := (id hR7)
              refine lv_aload_n hx hb d_D_task_255 rfl (lv_at hl 0 rfl) ?_
              have r36 : w47 (md 36) = some (.inr (5, [.ref (md 0), .ref (md 1), .ref (md 2), .ref (md 3), .ref (md 4), .ref (md 5), .ref (md 6), .ref (md 7), .ref (md 8), .ref (md 9), .ref (md 10), .ref (md 11), .ref (md 12), .ref (md 13), .ref (md 14), .ref (md 15), .int (nI c9), .int (nI (m_ocached μ)), .int (m_circ μ), .int (m_ocirc μ), .int (nI 0), .int (nI (m_wkr μ)), .int (nI (m_ran μ).toNat), .ref (md 23), .ref (md 24), .ref (md 25), .ref (md 26), .ref (md 27), .ref (md 28), .ref (md 29), .ref (md 30), .ref (md 31), .ref (md 32), .ref (md 33), .ref (md 34), .int (nI (m_hgt μ))])) := r36
              refine va_get (D := (dC, dI)) (ci := 5) (v := .ref (md 0)) (C := R_D) (T := F_D) (N := 36) hx hb hg in_D hown hK (hP.one r36) 0 rfl rfl 0 (by decide) (hg _ k_591) (fun _ h9 => h9) rfl d_D_task_256 ?_
              refine lv_iload_n hx hb d_D_task_259 rfl (lv_at hl 1 rfl) ?_
              refine lv_iconst (v := (nI 2)) hx hb d_D_task_260 (by decide) ?_
              have r0 : w47 (md 0) = some (.inl (dA 0, 12, .inl (nf (m_sort μ)))) := r0
              refine fw_iast (tys := tyl dA) hx hb hK hP hS r0 0 rfl (j := k) (x := (nI 2)) (by omega) (by decide) d_D_task_261 (fun w49 H locs ew50 hP hS => ?_)
              rw [nf_up] at ew50
              have r0 : w49 (md 0) = some (.inl (dA 0, 12, .inl (nf (va_up (m_sort μ) k 2)))) := by rw [ew50]; exact va_up_self _ _ _
              have ho51 : OutD md w w49 := OutD.up ho48 ew50 (by decide)
              refine lv_aload_n hx hb d_D_task_262 rfl (lv_at hl 0 rfl) ?_
              have r36 : w49 (md 36) = some (.inr (5, [.ref (md 0), .ref (md 1), .ref (md 2), .ref (md 3), .ref (md 4), .ref (md 5), .ref (md 6), .ref (md 7), .ref (md 8), .ref (md 9), .ref (md 10), .ref (md 11), .ref (md 12), .ref (md 13), .ref (md 14), .ref (md 15), .int (nI c9), .int (nI (m_ocached μ)), .int (m_circ μ), .int (m_ocirc μ), .int (nI 0), .int (nI (m_wkr μ)), .int (nI (m_ran μ).toNat), .ref (md 23), .ref (md 24), .ref (md 25), .ref (md 26), .ref (md 27), .ref (md 28), .ref (md 29), .ref (md 30), .ref (md 31), .ref (md 32), .ref (md 33), .ref (md 34), .int (nI (m_hgt μ))])) := by rw [ew50, va_up_ne _ _ (hj.ne (i := 36) (j := 0) (by decide) (by decide) (by decide))]; exact r36
              refine va_get (D := (dC, dI)) (ci := 5) (v := .ref (md 1)) (C := R_D) (T := F_D) (N := 36) hx hb hg in_D hown hK (hP.one r36) 0 rfl rfl 1 (by decide) (hg _ k_592) (fun _ h9 => h9) rfl d_D_task_263 ?_
              refine lv_iload_n hx hb d_D_task_266 rfl (lv_at hl 1 rfl) ?_
              refine lv_iload_n hx hb d_D_task_267 rfl (lv_at hl 2 rfl) ?_
              have r1 : w49 (md 1) = some (.inl (dA 0, 12, .inl (nf (m_rule μ)))) := by rw [ew50, va_up_ne _ _ (hj.ne (i := 1) (j := 0) (by decide) (by decide) (by decide))]; exact r1
              refine fw_iast (tys := tyl dA) hx hb hK hP hS r1 0 rfl (j := k) (x := (nI ru)) (by omega) (by decide) d_D_task_268 (fun w52 H locs ew53 hP hS => ?_)
              rw [nf_up] at ew53
              have r1 : w52 (md 1) = some (.inl (dA 0, 12, .inl (nf (va_up (m_rule μ) k ru)))) := by rw [ew53]; exact va_up_self _ _ _
              have ho54 : OutD md w w52 := OutD.up ho51 ew53 (by decide)
              refine lv_aload_n hx hb d_D_task_269 rfl (lv_at hl 0 rfl) ?_
              have r36 : w52 (md 36) = some (.inr (5, [.ref (md 0), .ref (md 1), .ref (md 2), .ref (md 3), .ref (md 4), .ref (md 5), .ref (md 6), .ref (md 7), .ref (md 8), .ref (md 9), .ref (md 10), .ref (md 11), .ref (md 12), .ref (md 13), .ref (md 14), .ref (md 15), .int (nI c9), .int (nI (m_ocached μ)), .int (m_circ μ), .int (m_ocirc μ), .int (nI 0), .int (nI (m_wkr μ)), .int (nI (m_ran μ).toNat), .ref (md 23), .ref (md 24), .ref (md 25), .ref (md 26), .ref (md 27), .ref (md 28), .ref (md 29), .ref (md 30), .ref (md 31), .ref (md 32), .ref (md 33), .ref (md 34), .int (nI (m_hgt μ))])) := by rw [ew53, va_up_ne _ _ (hj.ne (i := 36) (j := 1) (by decide) (by decide) (by decide))]; exact r36
              refine va_get (D := (dC, dI)) (ci := 5) (v := .ref (md 2)) (C := R_D) (T := F_D) (N := 36) hx hb hg in_D hown hK (hP.one r36) 0 rfl rfl 2 (by decide) (hg _ k_593) (fun _ h9 => h9) rfl d_D_task_270 ?_
              refine lv_iload_n hx hb d_D_task_273 rfl (lv_at hl 1 rfl) ?_
              refine lv_iconst (v := (nI 3)) hx hb d_D_task_274 (by decide) ?_
              refine nu_imul (r := 3 * k) hx hb d_D_task_275 (by omega) ?_
              refine lv_iload_n hx hb d_D_task_276 rfl (lv_at hl 3 rfl) ?_
              have r2 : w52 (md 2) = some (.inl (dA 0, 36, .inl (m_parts μ))) := by rw [ew53, va_up_ne _ _ (hj.ne (i := 2) (j := 1) (by decide) (by decide) (by decide)), ew50, va_up_ne _ _ (hj.ne (i := 2) (j := 0) (by decide) (by decide) (by decide))]; exact r2
              refine fw_iast (tys := tyl dA) hx hb hK hP hS r2 0 rfl (j := 3 * k) (x := a) (by omega) (by decide) d_D_task_277 (fun w55 H locs ew56 hP hS => ?_)
              have r2 : w55 (md 2) = some (.inl (dA 0, 36, .inl (upd (m_parts μ) (3 * k) a))) := by rw [ew56]; exact va_up_self _ _ _
              have ho57 : OutD md w w55 := OutD.up ho54 ew56 (by decide)
              refine lv_aload_n hx hb d_D_task_278 rfl (lv_at hl 0 rfl) ?_
              have r36 : w55 (md 36) = some (.inr (5, [.ref (md 0), .ref (md 1), .ref (md 2), .ref (md 3), .ref (md 4), .ref (md 5), .ref (md 6), .ref (md 7), .ref (md 8), .ref (md 9), .ref (md 10), .ref (md 11), .ref (md 12), .ref (md 13), .ref (md 14), .ref (md 15), .int (nI c9), .int (nI (m_ocached μ)), .int (m_circ μ), .int (m_ocirc μ), .int (nI 0), .int (nI (m_wkr μ)), .int (nI (m_ran μ).toNat), .ref (md 23), .ref (md 24), .ref (md 25), .ref (md 26), .ref (md 27), .ref (md 28), .ref (md 29), .ref (md 30), .ref (md 31), .ref (md 32), .ref (md 33), .ref (md 34), .int (nI (m_hgt μ))])) := by rw [ew56, va_up_ne _ _ (hj.ne (i := 36) (j := 2) (by decide) (by decide) (by decide))]; exact r36
              refine va_get (D := (dC, dI)) (ci := 5) (v := .ref (md 2)) (C := R_D) (T := F_D) (N := 36) hx hb hg in_D hown hK (hP.one r36) 0 rfl rfl 2 (by decide) (hg _ k_593) (fun _ h9 => h9) rfl d_D_task_279 ?_
              refine lv_iload_n hx hb d_D_task_282 rfl (lv_at hl 1 rfl) ?_
              refine lv_iconst (v := (nI 3)) hx hb d_D_task_283 (by decide) ?_
              refine nu_imul (r := 3 * k) hx hb d_D_task_284 (by omega) ?_
              refine lv_iconst (v := (nI 1)) hx hb d_D_task_285 (by decide) ?_
              refine nu_iadd (r := 3 * k + 1) hx hb d_D_task_286 (by omega) ?_
              refine lv_iload hx hb d_D_task_287 (lv_at hl 4 rfl) ?_
              refine fw_iast (tys := tyl dA) hx hb hK hP hS r2 0 rfl (j := 3 * k + 1) (x := b) (by omega) (by decide) d_D_task_289 (fun w58 H locs ew59 hP hS => ?_)
              have r2 : w58 (md 2) = some (.inl (dA 0, 36, .inl (upd (upd (m_parts μ) (3 * k) a) (3 * k + 1) b))) := by rw [ew59]; exact va_up_self _ _ _
              have ho60 : OutD md w w58 := OutD.up ho57 ew59 (by decide)
              refine lv_aload_n hx hb d_D_task_290 rfl (lv_at hl 0 rfl) ?_
              have r36 : w58 (md 36) = some (.inr (5, [.ref (md 0), .ref (md 1), .ref (md 2), .ref (md 3), .ref (md 4), .ref (md 5), .ref (md 6), .ref (md 7), .ref (md 8), .ref (md 9), .ref (md 10), .ref (md 11), .ref (md 12), .ref (md 13), .ref (md 14), .ref (md 15), .int (nI c9), .int (nI (m_ocached μ)), .int (m_circ μ), .int (m_ocirc μ), .int (nI 0), .int (nI (m_wkr μ)), .int (nI (m_ran μ).toNat), .ref (md 23), .ref (md 24), .ref (md 25), .ref (md 26), .ref (md 27), .ref (md 28), .ref (md 29), .ref (md 30), .ref (md 31), .ref (md 32), .ref (md 33), .ref (md 34), .int (nI (m_hgt μ))])) := by rw [ew59, va_up_ne _ _ (hj.ne (i := 36) (j := 2) (by decide) (by decide) (by decide))]; exact r36
              refine va_get (D := (dC, dI)) (ci := 5) (v := .ref (md 2)) (C := R_D) (T := F_D) (N := 36) hx hb hg in_D hown hK (hP.one r36) 0 rfl rfl 2 (by decide) (hg _ k_593) (fun _ h9 => h9) rfl d_D_task_291 ?_
              refine lv_iload_n hx hb d_D_task_294 rfl (lv_at hl 1 rfl) ?_
              refine lv_iconst (v := (nI 3)) hx hb d_D_task_295 (by decide) ?_
              refine nu_imul (r := 3 * k) hx hb d_D_task_296 (by omega) ?_
              refine lv_iconst (v := (nI 2)) hx hb d_D_task_297 (by decide) ?_
              refine nu_iadd (r := 3 * k + 2) hx hb d_D_task_298 (by omega) ?_
              refine lv_iload hx hb d_D_task_299 (lv_at hl 5 rfl) ?_
              refine fw_iast (tys := tyl dA) hx hb hK hP hS r2 0 rfl (j := 3 * k + 2) (x := c8) (by omega) (by decide) d_D_task_301 (fun w61 H locs ew62 hP hS => ?_)
              have r2 : w61 (md 2) = some (.inl (dA 0, 36, .inl (upd (upd (upd (m_parts μ) (3 * k) a) (3 * k + 1) b) (3 * k + 2) c8))) := by rw [ew62]; exact va_up_self _ _ _
              have ho63 : OutD md w w61 := OutD.up ho60 ew62 (by decide)
              have hB9 : bTask k ru a b c8 β = bDrop (pTask (b_P β) k ru a b c8) k β := if_neg (fun h9 => f3 ((q5 0 (by omega)).trans h9.2.2.1))
              have hq9 : RQ (bTask k ru a b c8 β) (((va_up (m_sort μ) k 2), (va_up (m_rule μ) k ru), upd (upd (upd (m_parts μ) (3 * k) a) (3 * k + 1) b) (3 * k + 2) c8, m_inp μ), ((m_size μ), (m_keys μ), (m_own μ), m_got μ, m_came μ), (upd (upd (m_trc μ) k (-1)) (12 + k) (-1), x9, c9, m_cnt μ, (m_circ μ)), (m_otrc μ, (m_occh μ), m_ocached μ, m_ocnt μ, (m_ocirc μ)), (0, m_wkr μ, (m_ran μ), (m_st μ), m_val μ), ((m_key μ), (m_ph μ), m_chk μ, (m_at μ), (m_cand μ), (m_cc μ), (m_mk μ), (m_asked μ), m_first μ, m_sum μ, m_hgt μ)) := by rw [hB9]; exact rq_drop (μ := dThr 0 μ) hQ hk hx9 (pl := (va_up (m_sort μ) k 2, va_up (m_rule μ) k ru, upd (upd (upd (m_parts μ) (3 * k) a) (3 * k + 1) b) (3 * k + 2) c8, m_inp μ)) (plq_task (β := β) (μ := μ) hQ.1 rfl)
              have hk64 : ∀ i, U37 i → i ∉ [2] → w61 (md i) = w58 (md i) := fun i hi hn => by rw [ew62, va_up_ne _ _ (hj.ne hi (j := 2) (by decide) (fun e9 => hn (by rw [e9]; decide)))]
              have hk65 : ∀ i, U37 i → i ∉ [1, 2] → w61 (md i) = w49 (md i) := fun i hi hn => by rw [ew62, va_up_ne _ _ (hj.ne hi (j := 2) (by decide) (fun e9 => hn (by rw [e9]; decide))), ew59, va_up_ne _ _ (hj.ne hi (j := 2) (by decide) (fun e9 => hn (by rw [e9]; decide))), ew56, va_up_ne _ _ (hj.ne hi (j := 2) (by decide) (fun e9 => hn (by rw [e9]; decide))), ew53, va_up_ne _ _ (hj.ne hi (j := 1) (by decide) (fun e9 => hn (by rw [e9]; decide)))]
              have hk66 : ∀ i, U37 i → i ∉ [2] → w61 (md i) = w52 (md i) := fun i hi hn => by rw [ew62, va_up_ne _ _ (hj.ne hi (j := 2) (by decide) (fun e9 => hn (by rw [e9]; decide))), ew59, va_up_ne _ _ (hj.ne hi (j := 2) (by decide) (fun e9 => hn (by rw [e9]; decide))), ew56, va_up_ne _ _ (hj.ne hi (j := 2) (by decide) (fun e9 => hn (by rw [e9]; decide)))]
              have hk67 : ∀ i, U37 i → i ∉ [0, 1, 2] → w61 (md i) = w47 (md i) := fun i hi hn => by rw [ew62, va_up_ne _ _ (hj.ne hi (j := 2) (by decide) (fun e9 => hn (by rw [e9]; decide))), ew59, va_up_ne _ _ (hj.ne hi (j := 2) (by decide) (fun e9 => hn (by rw [e9]; decide))), ew56, va_up_ne _ _ (hj.ne hi (j := 2) (by decide) (fun e9 => hn (by rw [e9]; decide))), ew53, va_up_ne _ _ (hj.ne hi (j := 1) (by decide) (fun e9 => hn (by rw [e9]; decide))), ew50, va_up_ne _ _ (hj.ne hi (j := 0) (by decide) (fun e9 => hn (by rw [e9]; decide)))]
              exact W.vret hx hb hr (fun tS ht hW => ⟨⟨w61, rfl, (fin9 _ ⟨(((va_up (m_sort μ) k 2), (va_up (m_rule μ) k ru), upd (upd (upd (m_parts μ) (3 * k) a) (3 * k + 1) b) (3 * k + 2) c8, m_inp μ), ((m_size μ), (m_keys μ), (m_own μ), m_got μ, m_came μ), (upd (upd (m_trc μ) k (-1)) (12 + k) (-1), x9, c9, m_cnt μ, (m_circ μ)), (m_otrc μ, (m_occh μ), m_ocached μ, m_ocnt μ, (m_ocirc μ)), (0, m_wkr μ, (m_ran μ), (m_st μ), m_val μ), ((m_key μ), (m_ph μ), m_chk μ, (m_at μ), (m_cand μ), (m_cc μ), (m_mk μ), (m_asked μ), m_first μ, m_sum μ, m_hgt μ)), ⟨(hk64 36 (by decide) (by decide)).trans r36, (hk65 0 (by decide) (by decide)).trans r0, (hk66 1 (by decide) (by decide)).trans r1, r2, (hk67 3 (by decide) (by decide)).trans r3, (hk67 4 (by decide) (by decide)).trans r4, (hk67 5 (by decide) (by decide)).trans r5, (hk67 6 (by decide) (by decide)).trans r6, (hk67 7 (by decide) (by decide)).trans r7, (hk67 8 (by decide) (by decide)).trans r8, ⟨_, (hk67 9 (by decide) (by decide)).trans r9⟩, (hk67 10 (by decide) (by decide)).trans r10, (hk67 11 (by decide) (by decide)).trans r11, (hk67 12 (by decide) (by decide)).trans r12, (hk67 13 (by decide) (by decide)).trans r13, (hk67 14 (by decide) (by decide)).trans r14, (hk67 15 (by decide) (by decide)).trans r15, (hk67 23 (by decide) (by decide)).trans r23, (hk67 24 (by decide) (by decide)).trans r24, (hk67 25 (by decide) (by decide)).trans r25, (hk67 26 (by decide) (by decide)).trans r26, (hk67 27 (by decide) (by decide)).trans r27, (hk67 28 (by decide) (by decide)).trans r28, (hk67 29 (by decide) (by decide)).trans r29, (hk67 30 (by decide) (by decide)).trans r30, (hk67 31 (by decide) (by decide)).trans r31, (hk67 32 (by decide) (by decide)).trans r32, (hk67 33 (by decide) (by decide)).trans r33, (hk67 34 (by decide) (by decide)).trans r34⟩, hq9, rfl, ho63⟩), mB_of ht hP⟩, hS.F ht⟩) hS.2.2 d_D_task_302
            · refine lv_aload_n hx hb d_D_task_219 rfl (lv_at hl 0 rfl) ?_
              refine va_get (D := (dC, dI)) (ci := 5) (v := .ref (md 2)) (C := R_D) (T := F_D) (N := 36) hx hb hg in_D hown hK (hP.one r36) 0 rfl rfl 2 (by decide) (hg _ k_593) (fun _ h9 => h9) rfl d_D_task_220 ?_
              refine lv_iload_n hx hb d_D_task_223 rfl (lv_at hl 1 rfl) ?_
              refine lv_iconst (v := (nI 3)) hx hb d_D_task_224 (by decide) ?_
              refine nu_imul (r := 3 * k) hx hb d_D_task_225 (by omega) ?_
              refine lv_iconst (v := (nI 1)) hx hb d_D_task_226 (by decide) ?_
              refine nu_iadd (r := 3 * k + 1) hx hb d_D_task_227 (by omega) ?_
              refine fw_iald (tys := tyl dA) hx hb hK hP r2 0 rfl (j := 3 * k + 1) (by omega) (by decide) d_D_task_228 ?_
              refine lv_iload hx hb d_D_task_229 (lv_at hl 4 rfl) ?_
              refine lv_icmp_ne (tgt := 250) hx hb d_D_task_231 (by decide) (fun f4 => ?_) (fun f4 => ?_)
              · refine lv_aload_n hx hb d_D_task_250 rfl (lv_at hl 0 rfl) ?_
                refine lv_iload_n hx hb d_D_task_251 rfl (lv_at hl 1 rfl) ?_
                refine va_callv (rn_V (n := 1) (As := [.int (nI k)]) (rest := []) (C := R_D) (T := F_D) (N := 36) (ci := 5) X hP hS (c_D_forgetKey B0 w3 md (dThr 0 μ) k hj hD1 hk (by have := hQ.c16; show m_cached μ ≤ 17; omega) hQ.cs hQ.co) k_715 k_717 k_39 k_58 k_718 (by decide +kernel) rfl rfl ⟨Nat.le_of_ble_eq_true rfl, Nat.le_of_ble_eq_true rfl⟩ r36 rfl rfl hl.1 rfl (Nat.le_of_ble_eq_true rfl) d_D_task_252 ⟨Nat.le_of_ble_eq_true rfl, Nat.le_of_ble_eq_true rfl⟩) hS (fun q _ h => h) (fun q h => h) (fun w68 tS H locs ht hvm hw hB hz1 hk1 hS => ?_)
                have hP : fw_P (dC, dI) cls_ (AA s0) w68 H := by rw [← ht]; exact hB
                obtain ⟨x9, c9, hR7, hx9, ho7⟩ := hw
                have ho69 : OutD md w w68 := OutD.tr ho4 ho7
                obtain ⟨r36, r0, r1, r2, r3, r4, r5, r6, r7, r8, ⟨u, r9⟩, r10, r11, r12, r13, r14, r15, r23, r24, r25, r26, r27, r28, r29, r30, r31, r32, r33, r34⟩ := (id hR7)
                refine lv_aload_n hx hb d_D_task_255 rfl (lv_at hl 0 rfl) ?_
                have r36 : w68 (md 36) = some (.inr (5, [.ref (md 0), .ref (md 1), .ref (md 2), .ref (md 3), .ref (md 4), .ref (md 5), .ref (md 6), .ref (md 7), .ref (md 8), .ref (md 9), .ref (md 10), .ref (md 11), .ref (md 12), .ref (md 13), .ref (md 14), .ref (md 15), .int (nI c9), .int (nI (m_ocached μ)), .int (m_circ μ), .int (m_ocirc μ), .int (nI 0), .int (nI (m_wkr μ)), .int (nI (m_ran μ).toNat), .ref (md 23), .ref (md 24), .ref (md 25), .ref (md 26), .ref (md 27), .ref (md 28), .ref (md 29), .ref (md 30), .ref (md 31), .ref (md 32), .ref (md 33), .ref (md 34), .int (nI (m_hgt μ))])) := r36
                refine va_get (D := (dC, dI)) (ci := 5) (v := .ref (md 0)) (C := R_D) (T := F_D) (N := 36) hx hb hg in_D hown hK (hP.one r36) 0 rfl rfl 0 (by decide) (hg _ k_591) (fun _ h9 => h9) rfl d_D_task_256 ?_
                refine lv_iload_n hx hb d_D_task_259 rfl (lv_at hl 1 rfl) ?_
                refine lv_iconst (v := (nI 2)) hx hb d_D_task_260 (by decide) ?_
                have r0 : w68 (md 0) = some (.inl (dA 0, 12, .inl (nf (m_sort μ)))) := r0
                refine fw_iast (tys := tyl dA) hx hb hK hP hS r0 0 rfl (j := k) (x := (nI 2)) (by omega) (by decide) d_D_task_261 (fun w70 H locs ew71 hP hS => ?_)
                rw [nf_up] at ew71
                have r0 : w70 (md 0) = some (.inl (dA 0, 12, .inl (nf (va_up (m_sort μ) k 2)))) := by rw [ew71]; exact va_up_self _ _ _
                have ho72 : OutD md w w70 := OutD.up ho69 ew71 (by decide)
                refine lv_aload_n hx hb d_D_task_262 rfl (lv_at hl 0 rfl) ?_
                have r36 : w70 (md 36) = some (.inr (5, [.ref (md 0), .ref (md 1), .ref (md 2), .ref (md 3), .ref (md 4), .ref (md 5), .ref (md 6), .ref (md 7), .ref (md 8), .ref (md 9), .ref (md 10), .ref (md 11), .ref (md 12), .ref (md 13), .ref (md 14), .ref (md 15), .int (nI c9), .int (nI (m_ocached μ)), .int (m_circ μ), .int (m_ocirc μ), .int (nI 0), .int (nI (m_wkr μ)), .int (nI (m_ran μ).toNat), .ref (md 23), .ref (md 24), .ref (md 25), .ref (md 26), .ref (md 27), .ref (md 28), .ref (md 29), .ref (md 30), .ref (md 31), .ref (md 32), .ref (md 33), .ref (md 34), .int (nI (m_hgt μ))])) := by rw [ew71, va_up_ne _ _ (hj.ne (i := 36) (j := 0) (by decide) (by decide) (by decide))]; exact r36
                refine va_get (D := (dC, dI)) (ci := 5) (v := .ref (md 1)) (C := R_D) (T := F_D) (N := 36) hx hb hg in_D hown hK (hP.one r36) 0 rfl rfl 1 (by decide) (hg _ k_592) (fun _ h9 => h9) rfl d_D_task_263 ?_
                refine lv_iload_n hx hb d_D_task_266 rfl (lv_at hl 1 rfl) ?_
                refine lv_iload_n hx hb d_D_task_267 rfl (lv_at hl 2 rfl) ?_
                have r1 : w70 (md 1) = some (.inl (dA 0, 12, .inl (nf (m_rule μ)))) := by rw [ew71, va_up_ne _ _ (hj.ne (i := 1) (j := 0) (by decide) (by decide) (by decide))]; exact r1
                refine fw_iast (tys := tyl dA) hx hb hK hP hS r1 0 rfl (j := k) (x := (nI ru)) (by omega) (by decide) d_D_task_268 (fun w73 H locs ew74 hP hS => ?_)
                rw [nf_up] at ew74
                have r1 : w73 (md 1) = some (.inl (dA 0, 12, .inl (nf (va_up (m_rule μ) k ru)))) := by rw [ew74]; exact va_up_self _ _ _
                have ho75 : OutD md w w73 := OutD.up ho72 ew74 (by decide)
                refine lv_aload_n hx hb d_D_task_269 rfl (lv_at hl 0 rfl) ?_
                have r36 : w73 (md 36) = some (.inr (5, [.ref (md 0), .ref (md 1), .ref (md 2), .ref (md 3), .ref (md 4), .ref (md 5), .ref (md 6), .ref (md 7), .ref (md 8), .ref (md 9), .ref (md 10), .ref (md 11), .ref (md 12), .ref (md 13), .ref (md 14), .ref (md 15), .int (nI c9), .int (nI (m_ocached μ)), .int (m_circ μ), .int (m_ocirc μ), .int (nI 0), .int (nI (m_wkr μ)), .int (nI (m_ran μ).toNat), .ref (md 23), .ref (md 24), .ref (md 25), .ref (md 26), .ref (md 27), .ref (md 28), .ref (md 29), .ref (md 30), .ref (md 31), .ref (md 32), .ref (md 33), .ref (md 34), .int (nI (m_hgt μ))])) := by rw [ew74, va_up_ne _ _ (hj.ne (i := 36) (j := 1) (by decide) (by decide) (by decide))]; exact r36
                refine va_get (D := (dC, dI)) (ci := 5) (v := .ref (md 2)) (C := R_D) (T := F_D) (N := 36) hx hb hg in_D hown hK (hP.one r36) 0 rfl rfl 2 (by decide) (hg _ k_593) (fun _ h9 => h9) rfl d_D_task_270 ?_
                refine lv_iload_n hx hb d_D_task_273 rfl (lv_at hl 1 rfl) ?_
                refine lv_iconst (v := (nI 3)) hx hb d_D_task_274 (by decide) ?_
                refine nu_imul (r := 3 * k) hx hb d_D_task_275 (by omega) ?_
                refine lv_iload_n hx hb d_D_task_276 rfl (lv_at hl 3 rfl) ?_
                have r2 : w73 (md 2) = some (.inl (dA 0, 36, .inl (m_parts μ))) := by rw [ew74, va_up_ne _ _ (hj.ne (i := 2) (j := 1) (by decide) (by decide) (by decide)), ew71, va_up_ne _ _ (hj.ne (i := 2) (j := 0) (by decide) (by decide) (by decide))]; exact r2
                refine fw_iast (tys := tyl dA) hx hb hK hP hS r2 0 rfl (j := 3 * k) (x := a) (by omega) (by decide) d_D_task_277 (fun w76 H locs ew77 hP hS => ?_)
                have r2 : w76 (md 2) = some (.inl (dA 0, 36, .inl (upd (m_parts μ) (3 * k) a))) := by rw [ew77]; exact va_up_self _ _ _
                have ho78 : OutD md w w76 := OutD.up ho75 ew77 (by decide)
                refine lv_aload_n hx hb d_D_task_278 rfl (lv_at hl 0 rfl) ?_
                have r36 : w76 (md 36) = some (.inr (5, [.ref (md 0), .ref (md 1), .ref (md 2), .ref (md 3), .ref (md 4), .ref (md 5), .ref (md 6), .ref (md 7), .ref (md 8), .ref (md 9), .ref (md 10), .ref (md 11), .ref (md 12), .ref (md 13), .ref (md 14), .ref (md 15), .int (nI c9), .int (nI (m_ocached μ)), .int (m_circ μ), .int (m_ocirc μ), .int (nI 0), .int (nI (m_wkr μ)), .int (nI (m_ran μ).toNat), .ref (md 23), .ref (md 24), .ref (md 25), .ref (md 26), .ref (md 27), .ref (md 28), .ref (md 29), .ref (md 30), .ref (md 31), .ref (md 32), .ref (md 33), .ref (md 34), .int (nI (m_hgt μ))])) := by rw [ew77, va_up_ne _ _ (hj.ne (i := 36) (j := 2) (by decide) (by decide) (by decide))]; exact r36
                refine va_get (D := (dC, dI)) (ci := 5) (v := .ref (md 2)) (C := R_D) (T := F_D) (N := 36) hx hb hg in_D hown hK (hP.one r36) 0 rfl rfl 2 (by decide) (hg _ k_593) (fun _ h9 => h9) rfl d_D_task_279 ?_
                refine lv_iload_n hx hb d_D_task_282 rfl (lv_at hl 1 rfl) ?_
                refine lv_iconst (v := (nI 3)) hx hb d_D_task_283 (by decide) ?_
                refine nu_imul (r := 3 * k) hx hb d_D_task_284 (by omega) ?_
                refine lv_iconst (v := (nI 1)) hx hb d_D_task_285 (by decide) ?_
                refine nu_iadd (r := 3 * k + 1) hx hb d_D_task_286 (by omega) ?_
                refine lv_iload hx hb d_D_task_287 (lv_at hl 4 rfl) ?_
                refine fw_iast (tys := tyl dA) hx hb hK hP hS r2 0 rfl (j := 3 * k + 1) (x := b) (by omega) (by decide) d_D_task_289 (fun w79 H locs ew80 hP hS => ?_)
                have r2 : w79 (md 2) = some (.inl (dA 0, 36, .inl (upd (upd (m_parts μ) (3 * k) a) (3 * k + 1) b))) := by rw [ew80]; exact va_up_self _ _ _
                have ho81 : OutD md w w79 := OutD.up ho78 ew80 (by decide)
                refine lv_aload_n hx hb d_D_task_290 rfl (lv_at hl 0 rfl) ?_
                have r36 : w79 (md 36) = some (.inr (5, [.ref (md 0), .ref (md 1), .ref (md 2), .ref (md 3), .ref (md 4), .ref (md 5), .ref (md 6), .ref (md 7), .ref (md 8), .ref (md 9), .ref (md 10), .ref (md 11), .ref (md 12), .ref (md 13), .ref (md 14), .ref (md 15), .int (nI c9), .int (nI (m_ocached μ)), .int (m_circ μ), .int (m_ocirc μ), .int (nI 0), .int (nI (m_wkr μ)), .int (nI (m_ran μ).toNat), .ref (md 23), .ref (md 24), .ref (md 25), .ref (md 26), .ref (md 27), .ref (md 28), .ref (md 29), .ref (md 30), .ref (md 31), .ref (md 32), .ref (md 33), .ref (md 34), .int (nI (m_hgt μ))])) := by rw [ew80, va_up_ne _ _ (hj.ne (i := 36) (j := 2) (by decide) (by decide) (by decide))]; exact r36
                refine va_get (D := (dC, dI)) (ci := 5) (v := .ref (md 2)) (C := R_D) (T := F_D) (N := 36) hx hb hg in_D hown hK (hP.one r36) 0 rfl rfl 2 (by decide) (hg _ k_593) (fun _ h9 => h9) rfl d_D_task_291 ?_
                refine lv_iload_n hx hb d_D_task_294 rfl (lv_at hl 1 rfl) ?_
                refine lv_iconst (v := (nI 3)) hx hb d_D_task_295 (by decide) ?_
                refine nu_imul (r := 3 * k) hx hb d_D_task_296 (by omega) ?_
                refine lv_iconst (v := (nI 2)) hx hb d_D_task_297 (by decide) ?_
                refine nu_iadd (r := 3 * k + 2) hx hb d_D_task_298 (by omega) ?_
                refine lv_iload hx hb d_D_task_299 (lv_at hl 5 rfl) ?_
                refine fw_iast (tys := tyl dA) hx hb hK hP hS r2 0 rfl (j := 3 * k + 2) (x := c8) (by omega) (by decide) d_D_task_301 (fun w82 H locs ew83 hP hS => ?_)
                have r2 : w82 (md 2) = some (.inl (dA 0, 36, .inl (upd (upd (upd (m_parts μ) (3 * k) a) (3 * k + 1) b) (3 * k + 2) c8))) := by rw [ew83]; exact va_up_self _ _ _
                have ho84 : OutD md w w82 := OutD.up ho81 ew83 (by decide)
                have hB9 : bTask k ru a b c8 β = bDrop (pTask (b_P β) k ru a b c8) k β := if_neg (fun h9 => f4 ((q5 1 (by omega)).trans h9.2.2.2.1))
                have hq9 : RQ (bTask k ru a b c8 β) (((va_up (m_sort μ) k 2), (va_up (m_rule μ) k ru), upd (upd (upd (m_parts μ) (3 * k) a) (3 * k + 1) b) (3 * k + 2) c8, m_inp μ), ((m_size μ), (m_keys μ), (m_own μ), m_got μ, m_came μ), (upd (upd (m_trc μ) k (-1)) (12 + k) (-1), x9, c9, m_cnt μ, (m_circ μ)), (m_otrc μ, (m_occh μ), m_ocached μ, m_ocnt μ, (m_ocirc μ)), (0, m_wkr μ, (m_ran μ), (m_st μ), m_val μ), ((m_key μ), (m_ph μ), m_chk μ, (m_at μ), (m_cand μ), (m_cc μ), (m_mk μ), (m_asked μ), m_first μ, m_sum μ, m_hgt μ)) := by rw [hB9]; exact rq_drop (μ := dThr 0 μ) hQ hk hx9 (pl := (va_up (m_sort μ) k 2, va_up (m_rule μ) k ru, upd (upd (upd (m_parts μ) (3 * k) a) (3 * k + 1) b) (3 * k + 2) c8, m_inp μ)) (plq_task (β := β) (μ := μ) hQ.1 rfl)
                have hk85 : ∀ i, U37 i → i ∉ [2] → w82 (md i) = w79 (md i) := fun i hi hn => by rw [ew83, va_up_ne _ _ (hj.ne hi (j := 2) (by decide) (fun e9 => hn (by rw [e9]; decide)))]
                have hk86 : ∀ i, U37 i → i ∉ [1, 2] → w82 (md i) = w70 (md i) := fun i hi hn => by rw [ew83, va_up_ne _ _ (hj.ne hi (j := 2) (by decide) (fun e9 => hn (by rw [e9]; decide))), ew80, va_up_ne _ _ (hj.ne hi (j := 2) (by decide) (fun e9 => hn (by rw [e9]; decide))), ew77, va_up_ne _ _ (hj.ne hi (j := 2) (by decide) (fun e9 => hn (by rw [e9]; decide))), ew74, va_up_ne _ _ (hj.ne hi (j := 1) (by decide) (fun e9 => hn (by rw [e9]; decide)))]
                have hk87 : ∀ i, U37 i → i ∉ [2] → w82 (md i) = w73 (md i) := fun i hi hn => by rw [ew83, va_up_ne _ _ (hj.ne hi (j := 2) (by decide) (fun e9 => hn (by rw [e9]; decide))), ew80, va_up_ne _ _ (hj.ne hi (j := 2) (by decide) (fun e9 => hn (by rw [e9]; decide))), ew77, va_up_ne _ _ (hj.ne hi (j := 2) (by decide) (fun e9 => hn (by rw [e9]; decide)))]
                have hk88 : ∀ i, U37 i → i ∉ [0, 1, 2] → w82 (md i) = w68 (md i) := fun i hi hn => by rw [ew83, va_up_ne _ _ (hj.ne hi (j := 2) (by decide) (fun e9 => hn (by rw [e9]; decide))), ew80, va_up_ne _ _ (hj.ne hi (j := 2) (by decide) (fun e9 => hn (by rw [e9]; decide))), ew77, va_up_ne _ _ (hj.ne hi (j := 2) (by decide) (fun e9 => hn (by rw [e9]; decide))), ew74, va_up_ne _ _ (hj.ne hi (j := 1) (by decide) (fun e9 => hn (by rw [e9]; decide))), ew71, va_up_ne _ _ (hj.ne hi (j := 0) (by decide) (fun e9 => hn (by rw [e9]; decide)))]
                exact W.vret hx hb hr (fun tS ht hW => ⟨⟨w82, rfl, (fin9 _ ⟨(((va_up (m_sort μ) k 2), (va_up (m_rule μ) k ru), upd (upd (upd (m_parts μ) (3 * k) a) (3 * k + 1) b) (3 * k + 2) c8, m_inp μ), ((m_size μ), (m_keys μ), (m_own μ), m_got μ, m_came μ), (upd (upd (m_trc μ) k (-1)) (12 + k) (-1), x9, c9, m_cnt μ, (m_circ μ)), (m_otrc μ, (m_occh μ), m_ocached μ, m_ocnt μ, (m_ocirc μ)), (0, m_wkr μ, (m_ran μ), (m_st μ), m_val μ), ((m_key μ), (m_ph μ), m_chk μ, (m_at μ), (m_cand μ), (m_cc μ), (m_mk μ), (m_asked μ), m_first μ, m_sum μ, m_hgt μ)), ⟨(hk85 36 (by decide) (by decide)).trans r36, (hk86 0 (by decide) (by decide)).trans r0, (hk87 1 (by decide) (by decide)).trans r1, r2, (hk88 3 (by decide) (by decide)).trans r3, (hk88 4 (by decide) (by decide)).trans r4, (hk88 5 (by decide) (by decide)).trans r5, (hk88 6 (by decide) (by decide)).trans r6, (hk88 7 (by decide) (by decide)).trans r7, (hk88 8 (by decide) (by decide)).trans r8, ⟨_, (hk88 9 (by decide) (by decide)).trans r9⟩, (hk88 10 (by decide) (by decide)).trans r10, (hk88 11 (by decide) (by decide)).trans r11, (hk88 12 (by decide) (by decide)).trans r12, (hk88 13 (by decide) (by decide)).trans r13, (hk88 14 (by decide) (by decide)).trans r14, (hk88 15 (by decide) (by decide)).trans r15, (hk88 23 (by decide) (by decide)).trans r23, (hk88 24 (by decide) (by decide)).trans r24, (hk88 25 (by decide) (by decide)).trans r25, (hk88 26 (by decide) (by decide)).trans r26, (hk88 27 (by decide) (by decide)).trans r27, (hk88 28 (by decide) (by decide)).trans r28, (hk88 29 (by decide) (by decide)).trans r29, (hk88 30 (by decide) (by decide)).trans r30, (hk88 31 (by decide) (by decide)).trans r31, (hk88 32 (by decide) (by decide)).trans r32, (hk88 33 (by decide) (by decide)).trans r33, (hk88 34 (by decide) (by decide)).trans r34⟩, hq9, rfl, ho84⟩), mB_of ht hP⟩, hS.F ht⟩) hS.2.2 d_D_task_302
              · refine lv_aload_n hx hb d_D_task_234 rfl (lv_at hl 0 rfl) ?_
                refine va_get (D := (dC, dI)) (ci := 5) (v := .ref (md 2)) (C := R_D) (T := F_D) (N := 36) hx hb hg in_D hown hK (hP.one r36) 0 rfl rfl 2 (by decide) (hg _ k_593) (fun _ h9 => h9) rfl d_D_task_235 ?_
                refine lv_iload_n hx hb d_D_task_238 rfl (lv_at hl 1 rfl) ?_
                refine lv_iconst (v := (nI 3)) hx hb d_D_task_239 (by decide) ?_
                refine nu_imul (r := 3 * k) hx hb d_D_task_240 (by omega) ?_
                refine lv_iconst (v := (nI 2)) hx hb d_D_task_241 (by decide) ?_
                refine nu_iadd (r := 3 * k + 2) hx hb d_D_task_242 (by omega) ?_
                refine fw_iald (tys := tyl dA) hx hb hK hP r2 0 rfl (j := 3 * k + 2) (by omega) (by decide) d_D_task_243 ?_
                refine lv_iload hx hb d_D_task_244 (lv_at hl 5 rfl) ?_
                refine lv_icmp_ne (tgt := 250) hx hb d_D_task_246 (by decide) (fun f5 => ?_) (fun f5 => ?_)
                · refine lv_aload_n hx hb d_D_task_250 rfl (lv_at hl 0 rfl) ?_
                  refine lv_iload_n hx hb d_D_task_251 rfl (lv_at hl 1 rfl) ?_
                  refine va_callv (rn_V (n := 1) (As := [.int (nI k)]) (rest := []) (C := R_D) (T := F_D) (N := 36) (ci := 5) X hP hS (c_D_forgetKey B0 w3 md (dThr 0 μ) k hj hD1 hk (by have := hQ.c16; show m_cached μ ≤ 17; omega) hQ.cs hQ.co) k_715 k_717 k_39 k_58 k_718 (by decide +kernel) rfl rfl ⟨Nat.le_of_ble_eq_true rfl, Nat.le_of_ble_eq_true rfl⟩ r36 rfl rfl hl.1 rfl (Nat.le_of_ble_eq_true rfl) d_D_task_252 ⟨Nat.le_of_ble_eq_true rfl, Nat.le_of_ble_eq_true rfl⟩) hS (fun q _ h => h) (fun q h => h) (fun w89 tS H locs ht hvm hw hB hz1 hk1 hS => ?_)
                  have hP : fw_P (dC, dI) cls_ (AA s0) w89 H := by rw [← ht]; exact hB
                  obtain ⟨x9, c9, hR7, hx9, ho7⟩ := hw
                  have ho90 : OutD md w w89 := OutD.tr ho4 ho7
                  obtain ⟨r36, r0, r1, r2, r3, r4, r5, r6, r7, r8, ⟨u, r9⟩, r10, r11, r12, r13, r14, r15, r23, r24, r25, r26, r27, r28, r29, r30, r31, r32, r33, r34⟩ := (id hR7)
                  refine lv_aload_n hx hb d_D_task_255 rfl (lv_at hl 0 rfl) ?_
                  have r36 : w89 (md 36) = some (.inr (5, [.ref (md 0), .ref (md 1), .ref (md 2), .ref (md 3), .ref (md 4), .ref (md 5), .ref (md 6), .ref (md 7), .ref (md 8), .ref (md 9), .ref (md 10), .ref (md 11), .ref (md 12), .ref (md 13), .ref (md 14), .ref (md 15), .int (nI c9), .int (nI (m_ocached μ)), .int (m_circ μ), .int (m_ocirc μ), .int (nI 0), .int (nI (m_wkr μ)), .int (nI (m_ran μ).toNat), .ref (md 23), .ref (md 24), .ref (md 25), .ref (md 26), .ref (md 27), .ref (md 28), .ref (md 29), .ref (md 30), .ref (md 31), .ref (md 32), .ref (md 33), .ref (md 34), .int (nI (m_hgt μ))])) := r36
                  refine va_get (D := (dC, dI)) (ci := 5) (v := .ref (md 0)) (C := R_D) (T := F_D) (N := 36) hx hb hg in_D hown hK (hP.one r36) 0 rfl rfl 0 (by decide) (hg _ k_591) (fun _ h9 => h9) rfl d_D_task_256 ?_
                  refine lv_iload_n hx hb d_D_task_259 rfl (lv_at hl 1 rfl) ?_
                  refine lv_iconst (v := (nI 2)) hx hb d_D_task_260 (by decide) ?_
                  have r0 : w89 (md 0) = some (.inl (dA 0, 12, .inl (nf (m_sort μ)))) := r0
                  refine fw_iast (tys := tyl dA) hx hb hK hP hS r0 0 rfl (j := k) (x := (nI 2)) (by omega) (by decide) d_D_task_261 (fun w91 H locs ew92 hP hS => ?_)
                  rw [nf_up] at ew92
                  have r0 : w91 (md 0) = some (.inl (dA 0, 12, .inl (nf (va_up (m_sort μ) k 2)))) := by rw [ew92]; exact va_up_self _ _ _
                  have ho93 : OutD md w w91 := OutD.up ho90 ew92 (by decide)
                  refine lv_aload_n hx hb d_D_task_262 rfl (lv_at hl 0 rfl) ?_
                  have r36 : w91 (md 36) = some (.inr (5, [.ref (md 0), .ref (md 1), .ref (md 2), .ref (md 3), .ref (md 4), .ref (md 5), .ref (md 6), .ref (md 7), .ref (md 8), .ref (md 9), .ref (md 10), .ref (md 11), .ref (md 12), .ref (md 13), .ref (md 14), .ref (md 15), .int (nI c9), .int (nI (m_ocached μ)), .int (m_circ μ), .int (m_ocirc μ), .int (nI 0), .int (nI (m_wkr μ)), .int (nI (m_ran μ).toNat), .ref (md 23), .ref (md 24), .ref (md 25), .ref (md 26), .ref (md 27), .ref (md 28), .ref (md 29), .ref (md 30), .ref (md 31), .ref (md 32), .ref (md 33), .ref (md 34), .int (nI (m_hgt μ))])) := by rw [ew92, va_up_ne _ _ (hj.ne (i := 36) (j := 0) (by decide) (by decide) (by decide))]; exact r36
                  refine va_get (D := (dC, dI)) (ci := 5) (v := .ref (md 1)) (C := R_D) (T := F_D) (N := 36) hx hb hg in_D hown hK (hP.one r36) 0 rfl rfl 1 (by decide) (hg _ k_592) (fun _ h9 => h9) rfl d_D_task_263 ?_
                  refine lv_iload_n hx hb d_D_task_266 rfl (lv_at hl 1 rfl) ?_
                  refine lv_iload_n hx hb d_D_task_267 rfl (lv_at hl 2 rfl) ?_
                  have r1 : w91 (md 1) = some (.inl (dA 0, 12, .inl (nf (m_rule μ)))) := by rw [ew92, va_up_ne _ _ (hj.ne (i := 1) (j := 0) (by decide) (by decide) (by decide))]; exact r1
                  refine fw_iast (tys := tyl dA) hx hb hK hP hS r1 0 rfl (j := k) (x := (nI ru)) (by omega) (by decide) d_D_task_268 (fun w94 H locs ew95 hP hS => ?_)
                  rw [nf_up] at ew95
                  have r1 : w94 (md 1) = some (.inl (dA 0, 12, .inl (nf (va_up (m_rule μ) k ru)))) := by rw [ew95]; exact va_up_self _ _ _
                  have ho96 : OutD md w w94 := OutD.up ho93 ew95 (by decide)
                  refine lv_aload_n hx hb d_D_task_269 rfl (lv_at hl 0 rfl) ?_
                  have r36 : w94 (md 36) = some (.inr (5, [.ref (md 0), .ref (md 1), .ref (md 2), .ref (md 3), .ref (md 4), .ref (md 5), .ref (md 6), .ref (md 7), .ref (md 8), .ref (md 9), .ref (md 10), .ref (md 11), .ref (md 12), .ref (md 13), .ref (md 14), .ref (md 15), .int (nI c9), .int (nI (m_ocached μ)), .int (m_circ μ), .int (m_ocirc μ), .int (nI 0), .int (nI (m_wkr μ)), .int (nI (m_ran μ).toNat), .ref (md 23), .ref (md 24), .ref (md 25), .ref (md 26), .ref (md 27), .ref (md 28), .ref (md 29), .ref (md 30), .ref (md 31), .ref (md 32), .ref (md 33), .ref (md 34), .int (nI (m_hgt μ))])) := by rw [ew95, va_up_ne _ _ (hj.ne (i := 36) (j := 1) (by decide) (by decide) (by decide))]; exact r36
                  refine va_get (D := (dC, dI)) (ci := 5) (v := .ref (md 2)) (C := R_D) (T := F_D) (N := 36) hx hb hg in_D hown hK (hP.one r36) 0 rfl rfl 2 (by decide) (hg _ k_593) (fun _ h9 => h9) rfl d_D_task_270 ?_
                  refine lv_iload_n hx hb d_D_task_273 rfl (lv_at hl 1 rfl) ?_
                  refine lv_iconst (v := (nI 3)) hx hb d_D_task_274 (by decide) ?_
                  refine nu_imul (r := 3 * k) hx hb d_D_task_275 (by omega) ?_
                  refine lv_iload_n hx hb d_D_task_276 rfl (lv_at hl 3 rfl) ?_
                  have r2 : w94 (md 2) = some (.inl (dA 0, 36, .inl (m_parts μ))) := by rw [ew95, va_up_ne _ _ (hj.ne (i := 2) (j := 1) (by decide) (by decide) (by decide)), ew92, va_up_ne _ _ (hj.ne (i := 2) (j := 0) (by decide) (by decide) (by decide))]; exact r2
                  refine fw_iast (tys := tyl dA) hx hb hK hP hS r2 0 rfl (j := 3 * k) (x := a) (by omega) (by decide) d_D_task_277 (fun w97 H locs ew98 hP hS => ?_)
                  have r2 : w97 (md 2) = some (.inl (dA 0, 36, .inl (upd (m_parts μ) (3 * k) a))) := by rw [ew98]; exact va_up_self _ _ _
                  have ho99 : OutD md w w97 := OutD.up ho96 ew98 (by decide)
                  refine lv_aload_n hx hb d_D_task_278 rfl (lv_at hl 0 rfl) ?_
                  have r36 : w97 (md 36) = some (.inr (5, [.ref (md 0), .ref (md 1), .ref (md 2), .ref (md 3), .ref (md 4), .ref (md 5), .ref (md 6), .ref (md 7), .ref (md 8), .ref (md 9), .ref (md 10), .ref (md 11), .ref (md 12), .ref (md 13), .ref (md 14), .ref (md 15), .int (nI c9), .int (nI (m_ocached μ)), .int (m_circ μ), .int (m_ocirc μ), .int (nI 0), .int (nI (m_wkr μ)), .int (nI (m_ran μ).toNat), .ref (md 23), .ref (md 24), .ref (md 25), .ref (md 26), .ref (md 27), .ref (md 28), .ref (md 29), .ref (md 30), .ref (md 31), .ref (md 32), .ref (md 33), .ref (md 34), .int (nI (m_hgt μ))])) := by rw [ew98, va_up_ne _ _ (hj.ne (i := 36) (j := 2) (by decide) (by decide) (by decide))]; exact r36
                  refine va_get (D := (dC, dI)) (ci := 5) (v := .ref (md 2)) (C := R_D) (T := F_D) (N := 36) hx hb hg in_D hown hK (hP.one r36) 0 rfl rfl 2 (by decide) (hg _ k_593) (fun _ h9 => h9) rfl d_D_task_279 ?_
                  refine lv_iload_n hx hb d_D_task_282 rfl (lv_at hl 1 rfl) ?_
                  refine lv_iconst (v := (nI 3)) hx hb d_D_task_283 (by decide) ?_
                  refine nu_imul (r := 3 * k) hx hb d_D_task_284 (by omega) ?_
                  refine lv_iconst (v := (nI 1)) hx hb d_D_task_285 (by decide) ?_
                  refine nu_iadd (r := 3 * k + 1) hx hb d_D_task_286 (by omega) ?_
                  refine lv_iload hx hb d_D_task_287 (lv_at hl 4 rfl) ?_
                  refine fw_iast (tys := tyl dA) hx hb hK hP hS r2 0 rfl (j := 3 * k + 1) (x := b) (by omega) (by decide) d_D_task_289 (fun w100 H locs ew101 hP hS => ?_)
                  have r2 : w100 (md 2) = some (.inl (dA 0, 36, .inl (upd (upd (m_parts μ) (3 * k) a) (3 * k + 1) b))) := by rw [ew101]; exact va_up_self _ _ _
                  have ho102 : OutD md w w100 := OutD.up ho99 ew101 (by decide)
                  refine lv_aload_n hx hb d_D_task_290 rfl (lv_at hl 0 rfl) ?_
                  have r36 : w100 (md 36) = some (.inr (5, [.ref (md 0), .ref (md 1), .ref (md 2), .ref (md 3), .ref (md 4), .ref (md 5), .ref (md 6), .ref (md 7), .ref (md 8), .ref (md 9), .ref (md 10), .ref (md 11), .ref (md 12), .ref (md 13), .ref (md 14), .ref (md 15), .int (nI c9), .int (nI (m_ocached μ)), .int (m_circ μ), .int (m_ocirc μ), .int (nI 0), .int (nI (m_wkr μ)), .int (nI (m_ran μ).toNat), .ref (md 23), .ref (md 24), .ref (md 25), .ref (md 26), .ref (md 27), .ref (md 28), .ref (md 29), .ref (md 30), .ref (md 31), .ref (md 32), .ref (md 33), .ref (md 34), .int (nI (m_hgt μ))])) := by rw [ew101, va_up_ne _ _ (hj.ne (i := 36) (j := 2) (by decide) (by decide) (by decide))]; exact r36
                  refine va_get (D := (dC, dI)) (ci := 5) (v := .ref (md 2)) (C := R_D) (T := F_D) (N := 36) hx hb hg in_D hown hK (hP.one r36) 0 rfl rfl 2 (by decide) (hg _ k_593) (fun _ h9 => h9) rfl d_D_task_291 ?_
                  refine lv_iload_n hx hb d_D_task_294 rfl (lv_at hl 1 rfl) ?_
                  refine lv_iconst (v := (nI 3)) hx hb d_D_task_295 (by decide) ?_
                  refine nu_imul (r := 3 * k) hx hb d_D_task_296 (by omega) ?_
                  refine lv_iconst (v := (nI 2)) hx hb d_D_task_297 (by decide) ?_
                  refine nu_iadd (r := 3 * k + 2) hx hb d_D_task_298 (by omega) ?_
                  refine lv_iload hx hb d_D_task_299 (lv_at hl 5 rfl) ?_
                  refine fw_iast (tys := tyl dA) hx hb hK hP hS r2 0 rfl (j := 3 * k + 2) (x := c8) (by omega) (by decide) d_D_task_301 (fun w103 H locs ew104 hP hS => ?_)
                  have r2 : w103 (md 2) = some (.inl (dA 0, 36, .inl (upd (upd (upd (m_parts μ) (3 * k) a) (3 * k + 1) b) (3 * k + 2) c8))) := by rw [ew104]; exact va_up_self _ _ _
                  have ho105 : OutD md w w103 := OutD.up ho102 ew104 (by decide)
                  have hB9 : bTask k ru a b c8 β = bDrop (pTask (b_P β) k ru a b c8) k β := if_neg (fun h9 => f5 ((q5 2 (by omega)).trans h9.2.2.2.2))
                  have hq9 : RQ (bTask k ru a b c8 β) (((va_up (m_sort μ) k 2), (va_up (m_rule μ) k ru), upd (upd (upd (m_parts μ) (3 * k) a) (3 * k + 1) b) (3 * k + 2) c8, m_inp μ), ((m_size μ), (m_keys μ), (m_own μ), m_got μ, m_came μ), (upd (upd (m_trc μ) k (-1)) (12 + k) (-1), x9, c9, m_cnt μ, (m_circ μ)), (m_otrc μ, (m_occh μ), m_ocached μ, m_ocnt μ, (m_ocirc μ)), (0, m_wkr μ, (m_ran μ), (m_st μ), m_val μ), ((m_key μ), (m_ph μ), m_chk μ, (m_at μ), (m_cand μ), (m_cc μ), (m_mk μ), (m_asked μ), m_first μ, m_sum μ, m_hgt μ)) := by rw [hB9]; exact rq_drop (μ := dThr 0 μ) hQ hk hx9 (pl := (va_up (m_sort μ) k 2, va_up (m_rule μ) k ru, upd (upd (upd (m_parts μ) (3 * k) a) (3 * k + 1) b) (3 * k + 2) c8, m_inp μ)) (plq_task (β := β) (μ := μ) hQ.1 rfl)
                  have hk106 : ∀ i, U37 i → i ∉ [2] → w103 (md i) = w100 (md i) := fun i hi hn => by rw [ew104, va_up_ne _ _ (hj.ne hi (j := 2) (by decide) (fun e9 => hn (by rw [e9]; decide)))]
                  have hk107 : ∀ i, U37 i → i ∉ [1, 2] → w103 (md i) = w91 (md i) := fun i hi hn => by rw [ew104, va_up_ne _ _ (hj.ne hi (j := 2) (by decide) (fun e9 => hn (by rw [e9]; decide))), ew101, va_up_ne _ _ (hj.ne hi (j := 2) (by decide) (fun e9 => hn (by rw [e9]; decide))), ew98, va_up_ne _ _ (hj.ne hi (j := 2) (by decide) (fun e9 => hn (by rw [e9]; decide))), ew95, va_up_ne _ _ (hj.ne hi (j := 1) (by decide) (fun e9 => hn (by rw [e9]; decide)))]
                  have hk108 : ∀ i, U37 i → i ∉ [2] → w103 (md i) = w94 (md i) := fun i hi hn => by rw [ew104, va_up_ne _ _ (hj.ne hi (j := 2) (by decide) (fun e9 => hn (by rw [e9]; decide))), ew101, va_up_ne _ _ (hj.ne hi (j := 2) (by decide) (fun e9 => hn (by rw [e9]; decide))), ew98, va_up_ne _ _ (hj.ne hi (j := 2) (by decide) (fun e9 => hn (by rw [e9]; decide)))]
                  have hk109 : ∀ i, U37 i → i ∉ [0, 1, 2] → w103 (md i) = w89 (md i) := fun i hi hn => by rw [ew104, va_up_ne _ _ (hj.ne hi (j := 2) (by decide) (fun e9 => hn (by rw [e9]; decide))), ew101, va_up_ne _ _ (hj.ne hi (j := 2) (by decide) (fun e9 => hn (by rw [e9]; decide))), ew98, va_up_ne _ _ (hj.ne hi (j := 2) (by decide) (fun e9 => hn (by rw [e9]; decide))), ew95, va_up_ne _ _ (hj.ne hi (j := 1) (by decide) (fun e9 => hn (by rw [e9]; decide))), ew92, va_up_ne _ _ (hj.ne hi (j := 0) (by decide) (fun e9 => hn (by rw [e9]; decide)))]
                  exact W.vret hx hb hr (fun tS ht hW => ⟨⟨w103, rfl, (fin9 _ ⟨(((va_up (m_sort μ) k 2), (va_up (m_rule μ) k ru), upd (upd (upd (m_parts μ) (3 * k) a) (3 * k + 1) b) (3 * k + 2) c8, m_inp μ), ((m_size μ), (m_keys μ), (m_own μ), m_got μ, m_came μ), (upd (upd (m_trc μ) k (-1)) (12 + k) (-1), x9, c9, m_cnt μ, (m_circ μ)), (m_otrc μ, (m_occh μ), m_ocached μ, m_ocnt μ, (m_ocirc μ)), (0, m_wkr μ, (m_ran μ), (m_st μ), m_val μ), ((m_key μ), (m_ph μ), m_chk μ, (m_at μ), (m_cand μ), (m_cc μ), (m_mk μ), (m_asked μ), m_first μ, m_sum μ, m_hgt μ)), ⟨(hk106 36 (by decide) (by decide)).trans r36, (hk107 0 (by decide) (by decide)).trans r0, (hk108 1 (by decide) (by decide)).trans r1, r2, (hk109 3 (by decide) (by decide)).trans r3, (hk109 4 (by decide) (by decide)).trans r4, (hk109 5 (by decide) (by decide)).trans r5, (hk109 6 (by decide) (by decide)).trans r6, (hk109 7 (by decide) (by decide)).trans r7, (hk109 8 (by decide) (by decide)).trans r8, ⟨_, (hk109 9 (by decide) (by decide)).trans r9⟩, (hk109 10 (by decide) (by decide)).trans r10, (hk109 11 (by decide) (by decide)).trans r11, (hk109 12 (by decide) (by decide)).trans r12, (hk109 13 (by decide) (by decide)).trans r13, (hk109 14 (by decide) (by decide)).trans r14, (hk109 15 (by decide) (by decide)).trans r15, (hk109 23 (by decide) (by decide)).trans r23, (hk109 24 (by decide) (by decide)).trans r24, (hk109 25 (by decide) (by decide)).trans r25, (hk109 26 (by decide) (by decide)).trans r26, (hk109 27 (by decide) (by decide)).trans r27, (hk109 28 (by decide) (by decide)).trans r28, (hk109 29 (by decide) (by decide)).trans r29, (hk109 30 (by decide) (by decide)).trans r30, (hk109 31 (by decide) (by decide)).trans r31, (hk109 32 (by decide) (by decide)).trans r32, (hk109 33 (by decide) (by decide)).trans r33, (hk109 34 (by decide) (by decide)).trans r34⟩, hq9, rfl, ho105⟩), mB_of ht hP⟩, hS.F ht⟩) hS.2.2 d_D_task_302
                · have hB9 : bTask k ru a b c8 β = β := if_pos ⟨h2, q4.symm.trans f2, (q5 0 (by omega)).symm.trans f3, (q5 1 (by omega)).symm.trans f4, (q5 2 (by omega)).symm.trans f5⟩
                  exact W.vret hx hb hr (fun tS ht hW => ⟨⟨w3, rfl, (fin9 _ (by rw [hB9]; exact ⟨dThr 0 μ, hD1, hQ, rfl, ho4⟩)), mB_of ht hP⟩, hS.F ht⟩) hS.2.2 d_D_task_249
      · exact absurd c1 (by decide)
  have t160 : ∀ (b7 : Bool), ∀ (m8 : Nat), (b7 = true ↔ tF x1 x2 a b c8) → (∀ r, r < 10 → x2 = nI r → m8 = p_need r) → (m8 ≤ 3) → ∀ (H : Heap) (locs : List Loc), fw_P (dC, dI) cls_ (AA s0) w H → va_S (AA s0) s.heap H locs → ∀ (ls : Array Slot), lv_has ls 9 [(0, .ref (md 36)), (1, .int x1), (2, .int x2), (3, .int a), (4, .int b), (5, .int c8), (6, .int (nI (tN a b c8))), (7, .int (nI b7.toNat))] → W p l e ({ frames := 1, cells := 0, slots := 0, locals := 40 }) s m args below meth c H locs 0 0 (MQ below (mQv s0 dC dI (fun w' => (¬ okT x1 x2 a b c8 → MB dA md w w' β 1) ∧ ∀ k r9, k < 12 → x1 = nI k → x2 = nI r9 → okTask r9 a b c8 → MB dA md w w' (bTask k r9 a b c8 β) 0)) args s 0 0 (AA s0)) (F0 m 160 ls [.int (nI m8)]) := by
    intro b7 m8 hb7 hm8 hm3 H locs hP hS ls hl
    have tl := tN_le a b c8
    refine lv_istore (lv' := [(8, .int (nI m8)), (0, .ref (md 36)), (1, .int x1), (2, .int x2), (3, .int a), (4, .int b), (5, .int c8), (6, .int (nI (tN a b c8))), (7, .int (nI b7.toNat))]) hx hb d_D_task_160 hl (by decide) rfl (fun ls hl => ?_)
    refine lv_aload_n hx hb d_D_task_162 rfl (lv_at hl 1 rfl) ?_
    refine lv_iload hx hb d_D_task_163 (lv_at hl 8 rfl) ?_
    refine nu_ifeq (tgt := 179) hx hb d_D_task_165 (by decide) (fun d1 => ?_) (fun d1 => ?_)
    · refine lv_iconst (v := (nI 0)) hx hb d_D_task_179 (by decide) ?_
      exact t180 false ⟨fun h9 => Bool.noConfusion h9, fun h9 => absurd (hb7.mpr ((tF_ok hm8).mpr h9).1) (by rw [d1]; decide)⟩ _ _ hP hS ls (lv_sub hl [1, 2, 3, 4, 5, 6] rfl)
    · refine lv_iload hx hb d_D_task_168 (lv_at hl 7 rfl) ?_
      refine lv_iload hx hb d_D_task_170 (lv_at hl 0 rfl) ?_
      refine nu_lt (tgt := 179) hx hb (by omega) (by omega) d_D_task_172 (by decide) (fun d2 => ?_) (fun d2 => ?_)
      · refine lv_iconst (v := (nI 0)) hx hb d_D_task_179 (by decide) ?_
        exact t180 false ⟨fun h9 => Bool.noConfusion h9, fun h9 => absurd ((tF_ok hm8).mpr h9).2 (by omega)⟩ _ _ hP hS ls (lv_sub hl [1, 2, 3, 4, 5, 6] rfl)
      · refine lv_iconst (v := (nI 1)) hx hb d_D_task_175 (by decide) ?_
        refine lv_goto (tgt := 180) hx hb d_D_task_176 (by decide) ?_
        exact t180 true ⟨fun _ => (tF_ok hm8).mp ⟨hb7.mp d1, by omega⟩, fun _ => rfl⟩ _ _ hP hS ls (lv_sub hl [1, 2, 3, 4, 5, 6] rfl)
  have t107 : ∀ (b7 : Bool), (b7 = true ↔ tF x1 x2 a b c8) → ∀ (H : Heap) (locs : List Loc), fw_P (dC, dI) cls_ (AA s0) w H → va_S (AA s0) s.heap H locs → ∀ (ls : Array Slot), lv_has ls 9 [(0, .ref (md 36)), (1, .int x1), (2, .int x2), (3, .int a), (4, .int b), (5, .int c8), (6, .int (nI (tN a b c8)))] → W p l e ({ frames := 1, cells := 0, slots := 0, locals := 40 }) s m args below meth c H locs 0 0 (MQ below (mQv s0 dC dI (fun w' => (¬ okT x1 x2 a b c8 → MB dA md w w' β 1) ∧ ∀ k r9, k < 12 → x1 = nI k → x2 = nI r9 → okTask r9 a b c8 → MB dA md w w' (bTask k r9 a b c8 β) 0)) args s 0 0 (AA s0)) (F0 m 107 ls [.int (nI b7.toNat)]) := by
    intro b7 hb7 H locs hP hS ls hl
    refine lv_istore (lv' := [(7, .int (nI b7.toNat)), (0, .ref (md 36)), (1, .int x1), (2, .int x2), (3, .int a), (4, .int b), (5, .int c8), (6, .int (nI (tN a b c8)))]) hx hb d_D_task_107 hl (by decide) rfl (fun ls hl => ?_)
    refine lv_iload_n hx hb d_D_task_109 rfl (lv_at hl 3 rfl) ?_
    refine lv_iconst (v := (nI 2)) hx hb d_D_task_110 (by decide) ?_
    refine lv_icmp_ne (tgt := 118) hx hb d_D_task_111 (by decide) (fun d1 => ?_) (fun d1 => ?_)
    · refine lv_iload_n hx hb d_D_task_118 rfl (lv_at hl 3 rfl) ?_
      refine lv_iconst (v := (nI 3)) hx hb d_D_task_119 (by decide) ?_
      refine lv_icmp_eq (tgt := 140) hx hb d_D_task_120 (by decide) (fun d2 => ?_) (fun d2 => ?_)
      · refine lv_iconst (v := (nI 2)) hx hb d_D_task_140 (by decide) ?_
        refine lv_goto (tgt := 160) hx hb d_D_task_141 (by decide) ?_
        exact t160 b7 2 hb7 (fun r h9 e9 => by have e3 : r = 3 := (nI_eq (by omega) (by omega)).mp (e9.symm.trans d2); unfold p_need; rw [if_neg (by omega), if_pos (by omega)]) (by omega) _ _ hP hS ls (lv_sub hl [1, 2, 3, 4, 5, 6, 7, 0] rfl)
      · refine lv_iload_n hx hb d_D_task_123 rfl (lv_at hl 3 rfl) ?_
        refine lv_iconst (v := (nI 5)) hx hb d_D_task_124 (by decide) ?_
        refine lv_icmp_eq (tgt := 140) hx hb d_D_task_125 (by decide) (fun d3 => ?_) (fun d3 => ?_)
        · refine lv_iconst (v := (nI 2)) hx hb d_D_task_140 (by decide) ?_
          refine lv_goto (tgt := 160) hx hb d_D_task_141 (by decide) ?_
          exact t160 b7 2 hb7 (fun r h9 e9 => by have e5 : r = 5 := (nI_eq (by omega) (by omega)).mp (e9.symm.trans d3); unfold p_need; rw [if_neg (by omega), if_pos (by omega)]) (by omega) _ _ hP hS ls (lv_sub hl [1, 2, 3, 4, 5, 6, 7, 0] rfl)
        · refine lv_iload_n hx hb d_D_task_128 rfl (lv_at hl 3 rfl) ?_
          refine lv_bipush (v := (nI 7)) hx hb d_D_task_129 (by decide) ?_
          refine lv_icmp_eq (tgt := 140) hx hb d_D_task_131 (by decide) (fun d4 => ?_) (fun d4 => ?_)
          · refine lv_iconst (v := (nI 2)) hx hb d_D_task_140 (by decide) ?_
            refine lv_goto (tgt := 160) hx hb d_D_task_141 (by decide) ?_
            exact t160 b7 2 hb7 (fun r h9 e9 => by have e7 : r = 7 := (nI_eq (by omega) (by omega)).mp (e9.symm.trans d4); unfold p_need; rw [if_neg (by omega), if_pos (by omega)]) (by omega) _ _ hP hS ls (lv_sub hl [1, 2, 3, 4, 5, 6, 7, 0] rfl)
          · refine lv_iload_n hx hb d_D_task_134 rfl (lv_at hl 3 rfl) ?_
            refine lv_bipush (v := (nI 9)) hx hb d_D_task_135 (by decide) ?_
            refine lv_icmp_ne (tgt := 144) hx hb d_D_task_137 (by decide) (fun d5 => ?_) (fun d5 => ?_)
            · refine lv_iload_n hx hb d_D_task_144 rfl (lv_at hl 3 rfl) ?_
              refine lv_iconst (v := (nI 4)) hx hb d_D_task_145 (by decide) ?_
              refine lv_icmp_eq (tgt := 155) hx hb d_D_task_146 (by decide) (fun d6 => ?_) (fun d6 => ?_)
              · refine lv_iconst (v := (nI 1)) hx hb d_D_task_155 (by decide) ?_
                refine lv_goto (tgt := 160) hx hb d_D_task_156 (by decide) ?_
                exact t160 b7 1 hb7 (fun r h9 e9 => by have e4 : r = 4 := (nI_eq (by omega) (by omega)).mp (e9.symm.trans d6); unfold p_need; rw [if_neg (by omega), if_neg (by omega), if_pos (by omega)]) (by omega) _ _ hP hS ls (lv_sub hl [1, 2, 3, 4, 5, 6, 7, 0] rfl)
              · refine lv_iload_n hx hb d_D_task_149 rfl (lv_at hl 3 rfl) ?_
                refine lv_bipush (v := (nI 8)) hx hb d_D_task_150 (by decide) ?_
                refine lv_icmp_ne (tgt := 159) hx hb d_D_task_152 (by decide) (fun d7 => ?_) (fun d7 => ?_)
                · refine lv_iconst (v := (nI 0)) hx hb d_D_task_159 (by decide) ?_
                  exact t160 b7 0 hb7 (fun r h9 e9 => by have n2 : r ≠ 2 := fun e => d1 (by rw [e9, e]); have n3 : r ≠ 3 := fun e => d2 (by rw [e9, e]); have n5 : r ≠ 5 := fun e => d3 (by rw [e9, e]); have n7 : r ≠ 7 := fun e => d4 (by rw [e9, e]); have n9 : r ≠ 9 := fun e => d5 (by rw [e9, e]); have n4 : r ≠ 4 := fun e => d6 (by rw [e9, e]); have n8 : r ≠ 8 := fun e => d7 (by rw [e9, e]); unfold p_need; rw [if_neg n2, if_neg (by omega), if_neg (by omega)]) (by omega) _ _ hP hS ls (lv_sub hl [1, 2, 3, 4, 5, 6, 7, 0] rfl)
                · refine lv_iconst (v := (nI 1)) hx hb d_D_task_155 (by decide) ?_
                  refine lv_goto (tgt := 160) hx hb d_D_task_156 (by decide) ?_
                  exact t160 b7 1 hb7 (fun r h9 e9 => by have e8 : r = 8 := (nI_eq (by omega) (by omega)).mp (e9.symm.trans d7); unfold p_need; rw [if_neg (by omega), if_neg (by omega), if_pos (by omega)]) (by omega) _ _ hP hS ls (lv_sub hl [1, 2, 3, 4, 5, 6, 7, 0] rfl)
            · refine lv_iconst (v := (nI 2)) hx hb d_D_task_140 (by decide) ?_
              refine lv_goto (tgt := 160) hx hb d_D_task_141 (by decide) ?_
              exact t160 b7 2 hb7 (fun r h9 e9 => by have e9 : r = 9 := (nI_eq (by omega) (by omega)).mp (e9.symm.trans d5); unfold p_need; rw [if_neg (by omega), if_pos (by omega)]) (by omega) _ _ hP hS ls (lv_sub hl [1, 2, 3, 4, 5, 6, 7, 0] rfl)
    · refine lv_iconst (v := (nI 3)) hx hb d_D_task_114 (by decide) ?_
      refine lv_goto (tgt := 160) hx hb d_D_task_115 (by decide) ?_
      exact t160 b7 3 hb7 (fun r h9 e9 => by have e2 : r = 2 := (nI_eq (by omega) (by omega)).mp (e9.symm.trans d1); unfold p_need; rw [if_pos e2]) (by omega) _ _ hP hS ls (lv_sub hl [1, 2, 3, 4, 5, 6, 7, 0] rfl)
  have t27 : ∀ (H : Heap) (locs : List Loc), fw_P (dC, dI) cls_ (AA s0) w H → va_S (AA s0) s.heap H locs → ∀ (ls : Array Slot), lv_has ls 9 [(0, .ref (md 36)), (1, .int x1), (2, .int x2), (3, .int a), (4, .int b), (5, .int c8)] → W p l e ({ frames := 1, cells := 0, slots := 0, locals := 40 }) s m args below meth c H locs 0 0 (MQ below (mQv s0 dC dI (fun w' => (¬ okT x1 x2 a b c8 → MB dA md w w' β 1) ∧ ∀ k r9, k < 12 → x1 = nI k → x2 = nI r9 → okTask r9 a b c8 → MB dA md w w' (bTask k r9 a b c8 β) 0)) args s 0 0 (AA s0)) (F0 m 27 ls [.int (nI (tN a b c8))]) := by
    intro   H locs hP hS ls hl
    have tl := tN_le a b c8
    refine lv_istore (lv' := [(6, .int (nI (tN a b c8))), (0, .ref (md 36)), (1, .int x1), (2, .int x2), (3, .int a), (4, .int b), (5, .int c8)]) hx hb d_D_task_27 hl (by decide) rfl (fun ls hl => ?_)
    refine lv_iload_n hx hb d_D_task_29 rfl (lv_at hl 2 rfl) ?_
    refine lv_iconst (v := (nI 0)) hx hb d_D_task_30 (by decide) ?_
    refine lv_bipush (v := (nI 11)) hx hb d_D_task_31 (by decide) ?_
    refine va_calli (rn_S (n := 3) (As := [.int x1, .int (nI 0), .int (nI 11)]) (rest := []) X hP hS (c_D_in B0 w x1 (nI 0) (nI 11)) k_708 k_709 k_58 k_710 (by decide +kernel) rfl rfl ⟨Nat.le_of_ble_eq_true rfl, Nat.le_of_ble_eq_true rfl⟩ rfl hl.1 rfl (Nat.le_of_ble_eq_true rfl) d_D_task_33 ⟨Nat.le_of_ble_eq_true rfl, Nat.le_of_ble_eq_true rfl⟩) hS (fun q _ h => h) (fun q h => h) (fun r w110 tS H locs ht hvm hw hB hz1 hk1 hS => ?_)
    have hP : fw_P (dC, dI) cls_ (AA s0) w110 H := by rw [← ht]; exact hB
    obtain ⟨e9, u1, rfl, iu1⟩ := hw
    rw [e9] at hP
    refine nu_ifeq (tgt := 106) hx hb d_D_task_36 (by decide) (fun gu1 => ?_) (fun gu1 => ?_)
    · refine lv_iconst (v := (nI 0)) hx hb d_D_task_106 (by decide) ?_
      exact t107 false ⟨fun h9 => Bool.noConfusion h9, fun h9 => absurd (iu1.mpr ((in_K x1).mpr h9.1)) (by rw [gu1]; decide)⟩ _ _ hP hS ls (lv_sub hl [1, 2, 3, 4, 5, 6, 0] rfl)
    · refine lv_iload_n hx hb d_D_task_39 rfl (lv_at hl 3 rfl) ?_
      refine lv_iconst (v := (nI 0)) hx hb d_D_task_40 (by decide) ?_
      refine lv_bipush (v := (nI 9)) hx hb d_D_task_41 (by decide) ?_
      refine va_calli (rn_S (n := 3) (As := [.int x2, .int (nI 0), .int (nI 9)]) (rest := []) X hP hS (c_D_in B0 w x2 (nI 0) (nI 9)) k_708 k_709 k_58 k_710 (by decide +kernel) rfl rfl ⟨Nat.le_of_ble_eq_true rfl, Nat.le_of_ble_eq_true rfl⟩ rfl hl.1 rfl (Nat.le_of_ble_eq_true rfl) d_D_task_43 ⟨Nat.le_of_ble_eq_true rfl, Nat.le_of_ble_eq_true rfl⟩) hS (fun q _ h => h) (fun q h => h) (fun r w111 tS H locs ht hvm hw hB hz1 hk1 hS => ?_)
      have hP : fw_P (dC, dI) cls_ (AA s0) w111 H := by rw [← ht]; exact hB
      obtain ⟨e9, u2, rfl, iu2⟩ := hw
      rw [e9] at hP
      refine nu_ifeq (tgt := 106) hx hb d_D_task_46 (by decide) (fun gu2 => ?_) (fun gu2 => ?_)
      · refine lv_iconst (v := (nI 0)) hx hb d_D_task_106 (by decide) ?_
        exact t107 false ⟨fun h9 => Bool.noConfusion h9, fun h9 => absurd (iu2.mpr ((in_R x2).mpr h9.2.1)) (by rw [gu2]; decide)⟩ _ _ hP hS ls (lv_sub hl [1, 2, 3, 4, 5, 6, 0] rfl)
      · refine lv_iload_n hx hb d_D_task_49 rfl (lv_at hl 4 rfl) ?_
        refine lv_iconst (v := (-1)) hx hb d_D_task_50 (by decide) ?_
        refine lv_bipush (v := (nI 11)) hx hb d_D_task_51 (by decide) ?_
        refine va_calli (rn_S (n := 3) (As := [.int a, .int (-1), .int (nI 11)]) (rest := []) X hP hS (c_D_in B0 w a (-1) (nI 11)) k_708 k_709 k_58 k_710 (by decide +kernel) rfl rfl ⟨Nat.le_of_ble_eq_true rfl, Nat.le_of_ble_eq_true rfl⟩ rfl hl.1 rfl (Nat.le_of_ble_eq_true rfl) d_D_task_53 ⟨Nat.le_of_ble_eq_true rfl, Nat.le_of_ble_eq_true rfl⟩) hS (fun q _ h => h) (fun q h => h) (fun r w112 tS H locs ht hvm hw hB hz1 hk1 hS => ?_)
        have hP : fw_P (dC, dI) cls_ (AA s0) w112 H := by rw [← ht]; exact hB
        obtain ⟨e9, u3, rfl, iu3⟩ := hw
        rw [e9] at hP
        refine nu_ifeq (tgt := 106) hx hb d_D_task_56 (by decide) (fun gu3 => ?_) (fun gu3 => ?_)
        · refine lv_iconst (v := (nI 0)) hx hb d_D_task_106 (by decide) ?_
          exact t107 false ⟨fun h9 => Bool.noConfusion h9, fun h9 => absurd (iu3.mpr ((in_Pt a).mpr h9.2.2.1)) (by rw [gu3]; decide)⟩ _ _ hP hS ls (lv_sub hl [1, 2, 3, 4, 5, 6, 0] rfl)
        · refine lv_iload hx hb d_D_task_59 (lv_at hl 5 rfl) ?_
          refine lv_iconst (v := (-1)) hx hb d_D_task_61 (by decide) ?_
          refine lv_bipush (v := (nI 11)) hx hb d_D_task_62 (by decide) ?_
          refine va_calli (rn_S (n := 3) (As := [.int b, .int (-1), .int (nI 11)]) (rest := []) X hP hS (c_D_in B0 w b (-1) (nI 11)) k_708 k_709 k_58 k_710 (by decide +kernel) rfl rfl ⟨Nat.le_of_ble_eq_true rfl, Nat.le_of_ble_eq_true rfl⟩ rfl hl.1 rfl (Nat.le_of_ble_eq_true rfl) d_D_task_64 ⟨Nat.le_of_ble_eq_true rfl, Nat.le_of_ble_eq_true rfl⟩) hS (fun q _ h => h) (fun q h => h) (fun r w113 tS H locs ht hvm hw hB hz1 hk1 hS => ?_)
          have hP : fw_P (dC, dI) cls_ (AA s0) w113 H := by rw [← ht]; exact hB
          obtain ⟨e9, u4, rfl, iu4⟩ := hw
          rw [e9] at hP
          refine nu_ifeq (tgt := 106) hx hb d_D_task_67 (by decide) (fun gu4 => ?_) (fun gu4 => ?_)
          · refine lv_iconst (v := (nI 0)) hx hb d_D_task_106 (by decide) ?_
            exact t107 false ⟨fun h9 => Bool.noConfusion h9, fun h9 => absurd (iu4.mpr ((in_Pt b).mpr h9.2.2.2.1)) (by rw [gu4]; decide)⟩ _ _ hP hS ls (lv_sub hl [1, 2, 3, 4, 5, 6, 0] rfl)
          · refine lv_iload hx hb d_D_task_70 (lv_at hl 6 rfl) ?_
            refine lv_iconst (v := (-1)) hx hb d_D_task_72 (by decide) ?_
            refine lv_bipush (v := (nI 11)) hx hb d_D_task_73 (by decide) ?_
            refine va_calli (rn_S (n := 3) (As := [.int c8, .int (-1), .int (nI 11)]) (rest := []) X hP hS (c_D_in B0 w c8 (-1) (nI 11)) k_708 k_709 k_58 k_710 (by decide +kernel) rfl rfl ⟨Nat.le_of_ble_eq_true rfl, Nat.le_of_ble_eq_true rfl⟩ rfl hl.1 rfl (Nat.le_of_ble_eq_true rfl) d_D_task_75 ⟨Nat.le_of_ble_eq_true rfl, Nat.le_of_ble_eq_true rfl⟩) hS (fun q _ h => h) (fun q h => h) (fun r w114 tS H locs ht hvm hw hB hz1 hk1 hS => ?_)
            have hP : fw_P (dC, dI) cls_ (AA s0) w114 H := by rw [← ht]; exact hB
            obtain ⟨e9, u5, rfl, iu5⟩ := hw
            rw [e9] at hP
            refine nu_ifeq (tgt := 106) hx hb d_D_task_78 (by decide) (fun gu5 => ?_) (fun gu5 => ?_)
            · refine lv_iconst (v := (nI 0)) hx hb d_D_task_106 (by decide) ?_
              exact t107 false ⟨fun h9 => Bool.noConfusion h9, fun h9 => absurd (iu5.mpr ((in_Pt c8).mpr h9.2.2.2.2.1)) (by rw [gu5]; decide)⟩ _ _ hP hS ls (lv_sub hl [1, 2, 3, 4, 5, 6, 0] rfl)
            · refine lv_iload hx hb d_D_task_81 (lv_at hl 0 rfl) ?_
              refine lv_iconst (v := (nI 2)) hx hb d_D_task_83 (by decide) ?_
              refine nu_lt (tgt := 91) hx hb (by omega) (by omega) d_D_task_84 (by decide) (fun g6 => ?_) (fun g6 => ?_)
              · refine lv_iload hx hb d_D_task_91 (lv_at hl 0 rfl) ?_
                refine lv_iconst (v := (nI 3)) hx hb d_D_task_93 (by decide) ?_
                refine nu_lt (tgt := 102) hx hb (by omega) (by omega) d_D_task_94 (by decide) (fun g7 => ?_) (fun g7 => ?_)
                · refine lv_iconst (v := (nI 1)) hx hb d_D_task_102 (by decide) ?_
                  refine lv_goto (tgt := 107) hx hb d_D_task_103 (by decide) ?_
                  exact t107 true ⟨fun _ => ⟨(in_K x1).mp (iu1.mp gu1), (in_R x2).mp (iu2.mp gu2), (in_Pt a).mp (iu3.mp gu3), (in_Pt b).mp (iu4.mp gu4), (in_Pt c8).mp (iu5.mp gu5), Or.inl g6, Or.inl g7⟩, fun _ => rfl⟩ _ _ hP hS ls (lv_sub hl [1, 2, 3, 4, 5, 6, 0] rfl)
                · refine lv_iload hx hb d_D_task_97 (lv_at hl 5 rfl) ?_
                  refine lv_if_lt (tgt := 106) hx hb d_D_task_99 (by decide) (fun g8 => ?_) (fun g8 => ?_)
                  · refine lv_iconst (v := (nI 0)) hx hb d_D_task_106 (by decide) ?_
                    exact t107 false ⟨fun h9 => Bool.noConfusion h9, fun h9 => h9.2.2.2.2.2.2.elim (fun h8 => absurd h8 (by omega)) (fun h8 => absurd g8 (Int32.not_lt.mpr h8))⟩ _ _ hP hS ls (lv_sub hl [1, 2, 3, 4, 5, 6, 0] rfl)
                  · refine lv_iconst (v := (nI 1)) hx hb d_D_task_102 (by decide) ?_
                    refine lv_goto (tgt := 107) hx hb d_D_task_103 (by decide) ?_
                    exact t107 true ⟨fun _ => ⟨(in_K x1).mp (iu1.mp gu1), (in_R x2).mp (iu2.mp gu2), (in_Pt a).mp (iu3.mp gu3), (in_Pt b).mp (iu4.mp gu4), (in_Pt c8).mp (iu5.mp gu5), Or.inl g6, Or.inr (Int32.not_lt.mp g8)⟩, fun _ => rfl⟩ _ _ hP hS ls (lv_sub hl [1, 2, 3, 4, 5, 6, 0] rfl)
              · refine lv_iload_n hx hb d_D_task_87 rfl (lv_at hl 4 rfl) ?_
                refine lv_if_lt (tgt := 106) hx hb d_D_task_88 (by decide) (fun g60 => ?_) (fun g60 => ?_)
                · refine lv_iconst (v := (nI 0)) hx hb d_D_task_106 (by decide) ?_
                  exact t107 false ⟨fun h9 => Bool.noConfusion h9, fun h9 => h9.2.2.2.2.2.1.elim (fun h8 => absurd h8 (by omega)) (fun h8 => absurd g60 (Int32.not_lt.mpr h8))⟩ _ _ hP hS ls (lv_sub hl [1, 2, 3, 4, 5, 6, 0] rfl)
                · refine lv_iload hx hb d_D_task_91 (lv_at hl 0 rfl) ?_
                  refine lv_iconst (v := (nI 3)) hx hb d_D_task_93 (by decide) ?_
                  refine nu_lt (tgt := 102) hx hb (by omega) (by omega) d_D_task_94 (by decide) (fun g7 => ?_) (fun g7 => ?_)
                  · refine lv_iconst (v := (nI 1)) hx hb d_D_task_102 (by decide) ?_
                    refine lv_goto (tgt := 107) hx hb d_D_task_103 (by decide) ?_
                    exact t107 true ⟨fun _ => ⟨(in_K x1).mp (iu1.mp gu1), (in_R x2).mp (iu2.mp gu2), (in_Pt a).mp (iu3.mp gu3), (in_Pt b).mp (iu4.mp gu4), (in_Pt c8).mp (iu5.mp gu5), Or.inr (Int32.not_lt.mp g60), Or.inl g7⟩, fun _ => rfl⟩ _ _ hP hS ls (lv_sub hl [1, 2, 3, 4, 5, 6, 0] rfl)
                  · refine lv_iload hx hb d_D_task_97 (lv_at hl 5 rfl) ?_
                    refine lv_if_lt (tgt := 106) hx hb d_D_task_99 (by decide) (fun g8 => ?_) (fun g8 => ?_)
                    · refine lv_iconst (v := (nI 0)) hx hb d_D_task_106 (by decide) ?_
                      exact t107 false ⟨fun h9 => Bool.noConfusion h9, fun h9 => h9.2.2.2.2.2.2.elim (fun h8 => absurd h8 (by omega)) (fun h8 => absurd g8 (Int32.not_lt.mpr h8))⟩ _ _ hP hS ls (lv_sub hl [1, 2, 3, 4, 5, 6, 0] rfl)
                    · refine lv_iconst (v := (nI 1)) hx hb d_D_task_102 (by decide) ?_
                      refine lv_goto (tgt := 107) hx hb d_D_task_103 (by decide) ?_
                      exact t107 true ⟨fun _ => ⟨(in_K x1).mp (iu1.mp gu1), (in_R x2).mp (iu2.mp gu2), (in_Pt a).mp (iu3.mp gu3), (in_Pt b).mp (iu4.mp gu4), (in_Pt c8).mp (iu5.mp gu5), Or.inr (Int32.not_lt.mp g60), Or.inr (Int32.not_lt.mp g8)⟩, fun _ => rfl⟩ _ _ hP hS ls (lv_sub hl [1, 2, 3, 4, 5, 6, 0] rfl)
  refine lv_iload hx hb d_D_task_0 (lv_at hl 5 rfl) ?_
  refine lv_if_lt (tgt := 9) hx hb d_D_task_2 (by decide) (fun k1 => ?_) (fun k1 => ?_)
  · refine lv_iload hx hb d_D_task_9 (lv_at hl 4 rfl) ?_
    refine lv_if_lt (tgt := 18) hx hb d_D_task_11 (by decide) (fun k2 => ?_) (fun k2 => ?_)
    · refine lv_iload_n hx hb d_D_task_18 rfl (lv_at hl 3 rfl) ?_
      refine lv_if_lt (tgt := 26) hx hb d_D_task_19 (by decide) (fun k3 => ?_) (fun k3 => ?_)
      · refine lv_iconst (v := (nI 0)) hx hb d_D_task_26 (by decide) ?_
        rw [show nI 0 = nI (tN a b c8) from congrArg nI (by unfold tN; rw [if_neg (Int32.not_le.mpr k1), if_neg (Int32.not_le.mpr k2), if_neg (Int32.not_le.mpr k3)])]
        exact t27  _ _ hP hS ls (lv_sub hl [0, 1, 2, 3, 4, 5] rfl)
      · refine lv_iconst (v := (nI 1)) hx hb d_D_task_22 (by decide) ?_
        refine lv_goto (tgt := 27) hx hb d_D_task_23 (by decide) ?_
        rw [show nI 1 = nI (tN a b c8) from congrArg nI (by unfold tN; rw [if_neg (Int32.not_le.mpr k1), if_neg (Int32.not_le.mpr k2), if_pos (Int32.not_lt.mp k3)])]
        exact t27  _ _ hP hS ls (lv_sub hl [0, 1, 2, 3, 4, 5] rfl)
    · refine lv_iconst (v := (nI 2)) hx hb d_D_task_14 (by decide) ?_
      refine lv_goto (tgt := 27) hx hb d_D_task_15 (by decide) ?_
      rw [show nI 2 = nI (tN a b c8) from congrArg nI (by unfold tN; rw [if_neg (Int32.not_le.mpr k1), if_pos (Int32.not_lt.mp k2)])]
      exact t27  _ _ hP hS ls (lv_sub hl [0, 1, 2, 3, 4, 5] rfl)
  · refine lv_iconst (v := (nI 3)) hx hb d_D_task_5 (by decide) ?_
    refine lv_goto (tgt := 27) hx hb d_D_task_6 (by decide) ?_
    rw [show nI 3 = nI (tN a b c8) from congrArg nI (by unfold tN; rw [if_pos (Int32.not_lt.mp k1)])]
    exact t27  _ _ hP hS ls (lv_sub hl [0, 1, 2, 3, 4, 5] rfl)
