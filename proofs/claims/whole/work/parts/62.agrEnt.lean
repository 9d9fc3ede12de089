set_option maxHeartbeats 4000000 in
set_option maxRecDepth 100000 in
theorem c_S_agrEntry {l : Launch} {s0 : State} {dC : Nat → ClassId} {dI : Nat → Nat → Nat} {dA : Nat → ClassId} (B0 : BB s0 dC dI dA) (w : fw_W) (ad : Nat → Nat) (Fz : Nat → Prop) (P : PD) (wk : Nat) (rows : Nat → Option Nat) (σ : SS) (k : Nat) (n0 : Nat) (IH : VO l s0 dC dI dA ad P wk n0) (hfr0 : fr12 σ ≤ n0) (hinj : Inj ad) (hR : RS dA ad Fz P wk rows w σ) (hk : k < 12) (hop : s_opn σ k = true) : Met l y_S_agreeingEntry [.code y_S_agreeingEntry b_S_agreeingEntry 6 (some (.object "TraceBuilder$Trace"))] ({ frames := 7 * n0 + 6, cells := 3 * (dm σ (candV (sv P wk (n0 + 1)) (entV k (s_cl σ)) σ).2), slots := 11 * (dm σ (candV (sv P wk (n0 + 1)) (entV k (s_cl σ)) σ).2), locals := 210 * n0 + 120 }) (mP s0 dC dI w [.ref (ad 0), .int (nI k)]) (mQq s0 dC dI (fun r w' => ∃ (Fz' : Nat → Prop) (rows' : Nat → Option Nat), VR dA ad P wk k Fz rows w σ Fz' rows' w' (candV (sv P wk (n0 + 1)) (entV k (s_cl σ)) σ).2 ∧ rT dA Fz' w' r (candV (sv P wk (n0 + 1)) (entV k (s_cl σ)) σ).1)) (3 * (dm σ (candV (sv P wk (n0 + 1)) (entV k (s_cl σ)) σ).2)) (11 * (dm σ (candV (sv P wk (n0 + 1)) (entV k (s_cl σ)) σ).2)) (AA s0) := by
  have hbk := hR.blk
  have hR0 := hR
  have hKf : Kp σ (candV (sv P wk (n0 + 1)) (entV k (s_cl σ)) σ).2 := Kp_cand (Kp_sv P wk (n0 + 1)) _ σ
  generalize hfin : candV (sv P wk (n0 + 1)) (entV k (s_cl σ)) σ = fin9 at hKf
  refine mt_ofW B0 (by decide) (Nat.le_of_ble_eq_true rfl) (fun p e s m args below meth c ls hargs X hin hl hP => ?_)
  have X9 := X
  obtain ⟨hx, hb, hr, hml, hown, hg, hK, hn, hE, hlocks, hA⟩ := X9
  have hS : va_S (AA s0) s.heap s.heap [] := va_S.rf
  have hl : lv_has ls 6 [(0, .ref (ad 0)), (1, .int (nI k))] := hl
  obtain ⟨⟨g0, g1, g2, ⟨vf, g3, hvf⟩, g4⟩, hM4, hP6, hnF, hfl⟩ := hR
  have hM4w := hM4
  obtain ⟨ft, pl, hM, hft, hpl⟩ := hM4w
  obtain ⟨fc, m1, -⟩ := id hM
  refine lv_iload_n hx hb d_S_agreeingEntry_0 rfl (lv_at hl 1 rfl) ?_
  refine lv_bipush (v := (nI 16)) hx hb d_S_agreeingEntry_1 (by decide) ?_
  refine nu_imul (r := 16 * k) hx hb d_S_agreeingEntry_3 (by omega) ?_
  refine lv_istore_n (lv' := [(2, .int (nI (16 * k))), (0, .ref (ad 0)), (1, .int (nI k))]) hx hb d_S_agreeingEntry_4 rfl hl (by decide) rfl (fun ls hl => ?_)
  refine lv_aload_n hx hb d_S_agreeingEntry_5 rfl (lv_at hl 1 rfl) ?_
  refine va_get (D := (dC, dI)) (ci := 2) (v := .ref (ad 5)) (C := R_S) (T := F_S) (N := 9) hx hb hg in_S hown hK (hP.one g0) 0 rfl rfl 1 (by decide) (hg _ k_140) (fun _ h9 => h9) rfl d_S_agreeingEntry_6 ?_
  refine lv_iload_n hx hb d_S_agreeingEntry_9 rfl (lv_at hl 2 rfl) ?_
  refine lv_aload_n hx hb d_S_agreeingEntry_10 rfl (lv_at hl 1 rfl) ?_
  refine va_get (D := (dC, dI)) (ci := 2) (v := .ref (ad 4)) (C := R_S) (T := F_S) (N := 9) hx hb hg in_S hown hK (hP.one g0) 0 rfl rfl 6 (by decide) (hg _ k_145) (fun _ h9 => h9) rfl d_S_agreeingEntry_11 ?_
  refine lv_iload_n hx hb d_S_agreeingEntry_14 rfl (lv_at hl 0 rfl) ?_
  refine va_calli (rn_VN (n := 3) (As := [.int (nI k), .ref (ad 4), .int (nI (16 * k))]) (rest := []) (C := R_M) (T := F_M) (N := 4) (ci := 0) X hP hS (c_M_copyE B0 w (ad 5) (ad 6) (ad 7) (ad 8) ft pl (s_ta σ) (owF w) k (ad 4) (16 * k) rows hM hpl.o hpl.o12 hk g4 (by omega)) u_385 k_387 k_18 k_56 k_388 (by decide +kernel) rfl rfl ⟨by dsimp only; omega, by dsimp only; omega⟩ m1 rfl rfl hl.1 rfl (Nat.le_of_ble_eq_true rfl) d_S_agreeingEntry_15 ⟨Nat.zero_le _, Nat.zero_le _⟩) hS (fun q _ h => h) (fun q h => h) (fun r w13 tS H locs ht hvm hw hB hz1 hk1 hS => ?_)
  have hP : fw_P (dC, dI) cls_ (AA s0) w13 H := by rw [← ht]; exact hB
  obtain ⟨rfl, ⟨rowsB, gB, hB1, hB2⟩, hB3⟩ := hw
  have hoB : Out ad w w13 := fun q hq => hB3 q (hq 4 (by decide))
  have hkB : ∀ i, i ≠ 4 → i < 27 → w13 (ad i) = w (ad i) := fun i h1 h2 => hB3 _ (hinj.ne h2 (by decide) h1)
  have hRB : RS dA ad Fz P wk rowsB w13 σ := ⟨⟨(hkB 0 (by decide) (by decide)).trans g0, (hkB 1 (by decide) (by decide)).trans g1, (hkB 2 (by decide) (by decide)).trans g2, ⟨vf, (hkB 3 (by decide) (by decide)).trans g3, hvf⟩, gB⟩, hM4.kept (fun i h1 h2 => hkB i (by omega) (by omega)) (hR0.fz hoB) (fun _ h => h), hP6.kept (fun i h1 h2 => hkB i (by omega) (by omega)), ⟨hnF.1, fd_kept (hR0.fz hoB) hnF.2⟩, hfl⟩
  have hVB : VR dA ad P wk k Fz rows w σ Fz rowsB w13 σ := ⟨hRB, fun _ h => h, fun _ h => Or.inl h, fun q e hq hn2 => (hoB q hn2).trans hq, fun z h1 h2 => hB2 z (by omega)⟩
  have hEL : poolL dA Fz w13 ((pl.filter (fun t => owF w t == k)).reverse) (entV k (s_cl σ)) := (hpl.filt (f := fun o => o == k)).rev.kept (hR0.fz hoB) (fun _ h => h)
  have hln : ((pl.filter (fun t => owF w t == k)).reverse).length ≤ 16 := Nat.le_trans (filt_rev_le pl _) (by obtain ⟨_, _, _, _, _, h9, _⟩ := hM; exact h9)
  generalize hRL : (pl.filter (fun t => owF w t == k)).reverse = RL at hB1 hEL hln ⊢
  generalize hELe : entV k (s_cl σ) = EL at hEL hfin
  obtain ⟨⟨g0, g1, g2, ⟨vf, g3, hvf⟩, g4⟩, hM4, hP6, hnF, hfl⟩ := (id hRB)
  refine lv_istore_n (lv' := [(3, .int (nI RL.length)), (2, .int (nI (16 * k))), (0, .ref (ad 0)), (1, .int (nI k))]) hx hb d_S_agreeingEntry_18 rfl hl (by decide) rfl (fun ls hl => ?_)
  refine lv_iconst (v := (nI 0)) hx hb d_S_agreeingEntry_19 (by decide) ?_
  refine lv_istore (lv' := [(4, .int (nI 0)), (3, .int (nI RL.length)), (2, .int (nI (16 * k))), (0, .ref (ad 0)), (1, .int (nI k))]) hx hb d_S_agreeingEntry_20 hl (by decide) rfl (fun ls hl => ?_)
  refine W.widen (k := 3 * dm σ σ) (n := 11 * dm σ σ) (Nat.zero_le _) (Nat.zero_le _) ?_
  suffices lp : ∀ (n : Nat) (i : Nat) (τ : SS) (Fz1 : Nat → Prop) (rows1 : Nat → Option Nat), (i ≤ RL.length) → (Kp σ τ) → (candV (sv P wk (n0 + 1)) (EL.drop i) τ = fin9) → (RL.length < i + n) → ∀ (wl : fw_W) (H : Heap) (locs : List Loc), (VQ dA ad P wk Fz rowsB w13 σ Fz1 rows1 wl τ) → fw_P (dC, dI) cls_ (AA s0) wl H → va_S (AA s0) s.heap H locs → ∀ (ls : Array Slot), lv_has ls 6 [(0, .ref (ad 0)), (1, .int (nI k)), (2, .int (nI (16 * k))), (3, .int (nI RL.length)), (4, .int (nI i))] → W p l e _ s m args below meth c H locs (3 * dm σ τ) (11 * dm σ τ) (MQ below _ args s (3 * dm σ fin9.2) (11 * dm σ fin9.2) (AA s0)) (F0 m 22 ls []) from lp (RL.length + 1) 0 σ Fz rowsB (Nat.zero_le _) (Kp.rf σ) (by rw [List.drop_zero]; exact hfin) (by omega) _ _ _  (VQ.rf hRB) hP hS ls (lv_sub hl [3, 4, 2, 1, 0] rfl)
  intro n
  induction n with
  | zero => intro i τ Fz1 rows1 hi hKp heq hbn; exact absurd hbn (by omega)
  | succ n ih =>
    intro i τ Fz1 rows1 hi hKp heq hbn wl H locs  hV hP hS ls hl
    have hRt := hV.1
    obtain ⟨⟨g0, g1, g2, ⟨vf, g3, hvf⟩, g4⟩, hM4, hP6, hnF, hfl⟩ := hRt
    have hVr := VR.tr hVB hV.r (fun _ h => h) hbk
    have hmd := hKp.2.2.1
    have hmd2 : s_md τ ≤ s_md fin9.2 := by rw [← heq]; exact (Kp_cand (Kp_sv P wk (n0 + 1)) _ τ).2.2.1
    refine lv_iload hx hb d_S_agreeingEntry_22 (lv_at hl 4 rfl) ?_
    refine lv_iload_n hx hb d_S_agreeingEntry_24 rfl (lv_at hl 3 rfl) ?_
    refine nu_ge (tgt := 69) hx hb (by omega) (by omega) d_S_agreeingEntry_25 (by decide) (fun c1 => ?_) (fun c1 => ?_)
    · rw [List.drop_eq_nil_of_le (by rw [← hEL.1]; omega)] at heq
      refine lv_null hx hb d_S_agreeingEntry_69 ?_
      refine W.widen (k := 3 * dm σ fin9.2) (n := 11 * dm σ fin9.2) (by unfold dm; omega) (by unfold dm; omega) ?_
      exact W.aret (v := .null) hx hb hr (Or.inl ⟨_, rfl⟩) (Or.inl rfl) (fun tS ht hW => ⟨⟨none, wl, rfl, ⟨Fz1, rows1, by rw [← heq]; exact hVr, by rw [← heq]; trivial⟩, mB_of ht hP⟩, hS.F ht⟩) hS.2.2 d_S_agreeingEntry_70
    · obtain ⟨t9, ht9⟩ : ∃ t, RL[i]? = some t := ⟨_, List.getElem?_eq_getElem c1⟩
      obtain ⟨T9, hT9⟩ : ∃ T, EL[i]? = some T := ⟨_, List.getElem?_eq_getElem (by rw [← hEL.1]; exact c1)⟩
      have hdr : EL.drop i = T9 :: EL.drop (i + 1) := by
        rw [List.drop_eq_getElem_cons (List.getElem?_eq_some_iff.mp hT9).1]; congr 1; exact (List.getElem?_eq_some_iff.mp hT9).2
      have hi9 := hV.isT hRB (hEL.2 i t9 T9 ht9 hT9)
      have hrow : rows1 (16 * k + i) = some t9 := (hV.2.2.2.2 _ (by rw [show (16 * k + i) / 16 = k by omega]; exact hop)).trans (hB1 i t9 ht9)
      refine lv_aload_n hx hb d_S_agreeingEntry_28 rfl (lv_at hl 0 rfl) ?_
      refine va_calli (rn_V (n := 0) (As := []) (rest := []) (C := R_S) (T := F_S) (N := 9) (ci := 2) X hP hS (c_S_hasFailed B0 wl ad Fz1 P wk rows1 τ hinj hV.1) k_377 k_379 k_16 k_57 k_380 (by decide +kernel) rfl rfl ⟨by dsimp only; omega, by dsimp only; omega⟩ g0 rfl rfl hl.1 rfl (Nat.le_of_ble_eq_true rfl) d_S_agreeingEntry_29 ⟨by unfold dm; dsimp only; omega, by unfold dm; dsimp only; omega⟩) hS (fun q _ h => h) (fun q h => h) (fun r w14 tS H locs ht hvm hw hB hz1 hk1 hS => ?_)
      have hP : fw_P (dC, dI) cls_ (AA s0) w14 H := by rw [← ht]; exact hB
      obtain ⟨ew8, b8, rfl, hb8⟩ := hw
      rw [ew8] at hP
      refine nu_ifne (tgt := 69) hx hb d_S_agreeingEntry_32 (by decide) (fun c2 => ?_) (fun c2 => ?_)
      · rw [hdr, candV, if_neg (hb8.mp c2)] at heq
        refine lv_null hx hb d_S_agreeingEntry_69 ?_
        refine W.widen (k := 3 * dm σ fin9.2) (n := 11 * dm σ fin9.2) (by unfold dm; omega) (by unfold dm; omega) ?_
        exact W.aret (v := .null) hx hb hr (Or.inl ⟨_, rfl⟩) (Or.inl rfl) (fun tS ht hW => ⟨⟨none, wl, rfl, ⟨Fz1, rows1, by rw [← heq]; exact hVr, by rw [← heq]; trivial⟩, mB_of ht hP⟩, hS.F ht⟩) hS.2.2 d_S_agreeingEntry_70
      · have hf0 : s_fl τ = 0 := Classical.byContradiction fun h => by rw [hb8.mpr h] at c2; cases c2
        rw [hdr, candV, if_pos hf0] at heq
        have hKs := Kp_agr (Kp_sv P wk (n0 + 1)) T9.2.1 τ
        have hmd3 : s_md (agrV (sv P wk (n0 + 1)) T9.2.1 τ).2 ≤ s_md fin9.2 := by
          rw [← heq]; split
          · exact Nat.le_refl _
          · exact (Kp_cand (Kp_sv P wk (n0 + 1)) _ _).2.2.1
        refine lv_aload_n hx hb d_S_agreeingEntry_35 rfl (lv_at hl 0 rfl) ?_
        refine va_get (D := (dC, dI)) (ci := 2) (v := .ref (ad 4)) (C := R_S) (T := F_S) (N := 9) hx hb hg in_S hown hK (hP.one g0) 0 rfl rfl 6 (by decide) (hg _ k_145) (fun _ h9 => h9) rfl d_S_agreeingEntry_36 ?_
        refine lv_iload_n hx hb d_S_agreeingEntry_39 rfl (lv_at hl 2 rfl) ?_
        refine lv_iload hx hb d_S_agreeingEntry_40 (lv_at hl 4 rfl) ?_
        refine nu_iadd (r := 16 * k + i) hx hb d_S_agreeingEntry_42 (by omega) ?_
        refine fw_aldq (tys := tyl dA) hx hb hK hP g4 3 rfl (j := 16 * k + i) (by omega) (by decide) d_S_agreeingEntry_43 ?_
        rw [hrow]
        refine lv_astore (lv' := [(5, .ref t9), (0, .ref (ad 0)), (1, .int (nI k)), (2, .int (nI (16 * k))), (3, .int (nI RL.length)), (4, .int (nI i))]) hx hb d_S_agreeingEntry_44 hl (by decide) rfl (fun ls hl => ?_)
        refine lv_aload hx hb d_S_agreeingEntry_46 (lv_at hl 0 rfl) ?_
        refine lv_ifnull hx hb d_S_agreeingEntry_48 ?_
        refine lv_aload_n hx hb d_S_agreeingEntry_51 rfl (lv_at hl 1 rfl) ?_
        refine lv_aload hx hb d_S_agreeingEntry_52 (lv_at hl 0 rfl) ?_
        refine va_calli (rn_V (n := 1) (As := [.ref t9]) (rest := []) (C := R_S) (T := F_S) (N := 9) (ci := 2) X hP hS (c_S_agrees B0 wl ad Fz1 P wk rows1 τ t9 T9 n0 IH (Nat.le_trans hKp.fr hfr0) hinj hV.1 hi9) k_373 k_375 k_15 k_57 k_376 (by decide +kernel) rfl rfl ⟨by dsimp only; omega, by dsimp only; omega⟩ g0 rfl rfl hl.1 rfl (Nat.le_of_ble_eq_true rfl) d_S_agreeingEntry_54 ⟨by unfold dm; have := hKs.2.2.1; dsimp only; omega, by unfold dm; have := hKs.2.2.1; dsimp only; omega⟩) hS (fun q _ h => h) (fun q h => h) (fun r w15 tS H locs ht hvm hw hB hz1 hk1 hS => ?_)
        have hP : fw_P (dC, dI) cls_ (AA s0) w15 H := by rw [← ht]; exact hB
        obtain ⟨rfl, Fz2, rows2, hV2⟩ := hw
        have hV3 := VQ.tr hV hV2 hKp.1 hRB hRB.blk
        refine nu_ifeq (tgt := 63) hx hb d_S_agreeingEntry_57 (by decide) (fun c3 => ?_) (fun c3 => ?_)
        · rw [if_neg (by rw [c3]; decide)] at heq
          refine lv_iinc (v := nI (i + 1)) (lv' := [(4, .int (nI (i + 1))), (5, .ref t9), (0, .ref (ad 0)), (1, .int (nI k)), (2, .int (nI (16 * k))), (3, .int (nI RL.length))]) hx hb d_S_agreeingEntry_63 hl (k := 5) rfl (nI_add _ 1) (by decide) rfl (fun ls hl => ?_)
          refine lv_goto (tgt := 22) hx hb d_S_agreeingEntry_66 (by decide) ?_
          refine W.widen (k := 3 * dm σ (agrV (sv P wk (n0 + 1)) T9.2.1 τ).2) (n := 11 * dm σ (agrV (sv P wk (n0 + 1)) T9.2.1 τ).2) (by unfold dm; have := hKs.2.2.1; omega) (by unfold dm; have := hKs.2.2.1; omega) ?_
          exact ih (i + 1) ((agrV (sv P wk (n0 + 1)) T9.2.1 τ).2) Fz2 rows2 (by omega) (hKp.tr hKs) heq (by omega) _ _ _  hV3 hP hS ls (lv_sub hl [2, 3, 4, 5, 0] rfl)
        · rw [if_pos c3] at heq
          refine lv_aload hx hb d_S_agreeingEntry_60 (lv_at hl 0 rfl) ?_
          refine W.widen (k := 3 * dm σ fin9.2) (n := 11 * dm σ fin9.2) (by unfold dm; have := hKs.2.2.1; omega) (by unfold dm; have := hKs.2.2.1; omega) ?_
          exact W.aret (v := .ref t9) hx hb hr (Or.inl ⟨_, rfl⟩) (Or.inr ⟨_, rfl⟩) (fun tS ht hW => ⟨⟨(some t9), w15, rfl, ⟨Fz2, rows2, by rw [← heq]; exact VR.tr hVB hV3.r (fun _ h => h) hbk, by rw [← heq]; exact VQ.isT hV.1 hV2 hi9⟩, mB_of ht hP⟩, hS.F ht⟩) hS.2.2 d_S_agreeingEntry_62
