/-! ===== the reference's state as a value; md: 0 to 35 its arrays by their fields, 36 the object ===== -/
/-- sort, rule, parts, input -/
abbrev PL : Type := (Nat → Nat) × (Nat → Nat) × (Nat → Int32) × (Nat → Int64)
/-- size, keys, owner, got, came -/
abbrev SL : Type := (Nat → Nat) × (Nat → Nat) × (Nat → Nat) × (Nat → Int64) × (Nat → Int64)
/-- trace, cache, cached, counts, circles -/
abbrev MM : Type := (Nat → Int32) × (Nat → Nat) × Nat × (Nat → Int32) × Int32
/-- thrown, worker, ran, state, value -/
abbrev SE : Type := Nat × Nat × Bool × (Nat → Nat) × (Nat → Int64)
/-- key, phase, checked, at, candidates, their count, making, asked, first, sum, height -/
abbrev FR : Type := (Nat → Nat) × (Nat → Nat) × (Nat → Int32) × (Nat → Nat) × (Nat → Nat) × (Nat → Nat) × (Nat → Nat) × (Nat → Nat) × (Nat → Int64) × (Nat → Int64) × Nat
abbrev MS : Type := PL × SL × MM × MM × SE × FR
abbrev g_pl (μ : MS) : PL := μ.1
abbrev g_sl (μ : MS) : SL := μ.2.1
abbrev g_mm (μ : MS) : MM := μ.2.2.1
abbrev g_od (μ : MS) : MM := μ.2.2.2.1
abbrev g_se (μ : MS) : SE := μ.2.2.2.2.1
abbrev g_fr (μ : MS) : FR := μ.2.2.2.2.2
def u_pl (μ : MS) (x : PL) : MS := (x, g_sl μ, g_mm μ, g_od μ, g_se μ, g_fr μ)
def u_sl (μ : MS) (x : SL) : MS := (g_pl μ, x, g_mm μ, g_od μ, g_se μ, g_fr μ)
def u_mm (μ : MS) (x : MM) : MS := (g_pl μ, g_sl μ, x, g_od μ, g_se μ, g_fr μ)
def u_od (μ : MS) (x : MM) : MS := (g_pl μ, g_sl μ, g_mm μ, x, g_se μ, g_fr μ)
def u_se (μ : MS) (x : SE) : MS := (g_pl μ, g_sl μ, g_mm μ, g_od μ, x, g_fr μ)
def u_fr (μ : MS) (x : FR) : MS := (g_pl μ, g_sl μ, g_mm μ, g_od μ, g_se μ, x)
abbrev m_sort (μ : MS) : Nat → Nat := (g_pl μ).1
abbrev m_rule (μ : MS) : Nat → Nat := (g_pl μ).2.1
abbrev m_parts (μ : MS) : Nat → Int32 := (g_pl μ).2.2.1
abbrev m_inp (μ : MS) : Nat → Int64 := (g_pl μ).2.2.2
abbrev m_size (μ : MS) : Nat → Nat := (g_sl μ).1
abbrev m_keys (μ : MS) : Nat → Nat := (g_sl μ).2.1
abbrev m_own (μ : MS) : Nat → Nat := (g_sl μ).2.2.1
abbrev m_got (μ : MS) : Nat → Int64 := (g_sl μ).2.2.2.1
abbrev m_came (μ : MS) : Nat → Int64 := (g_sl μ).2.2.2.2
abbrev m_trc (μ : MS) : Nat → Int32 := (g_mm μ).1
abbrev m_cch (μ : MS) : Nat → Nat := (g_mm μ).2.1
abbrev m_cached (μ : MS) : Nat := (g_mm μ).2.2.1
abbrev m_cnt (μ : MS) : Nat → Int32 := (g_mm μ).2.2.2.1
abbrev m_circ (μ : MS) : Int32 := (g_mm μ).2.2.2.2
abbrev m_otrc (μ : MS) : Nat → Int32 := (g_od μ).1
abbrev m_occh (μ : MS) : Nat → Nat := (g_od μ).2.1
abbrev m_ocached (μ : MS) : Nat := (g_od μ).2.2.1
abbrev m_ocnt (μ : MS) : Nat → Int32 := (g_od μ).2.2.2.1
abbrev m_ocirc (μ : MS) : Int32 := (g_od μ).2.2.2.2
abbrev m_thr (μ : MS) : Nat := (g_se μ).1
abbrev m_wkr (μ : MS) : Nat := (g_se μ).2.1
abbrev m_ran (μ : MS) : Bool := (g_se μ).2.2.1
abbrev m_st (μ : MS) : Nat → Nat := (g_se μ).2.2.2.1
abbrev m_val (μ : MS) : Nat → Int64 := (g_se μ).2.2.2.2
abbrev m_key (μ : MS) : Nat → Nat := (g_fr μ).1
abbrev m_ph (μ : MS) : Nat → Nat := (g_fr μ).2.1
abbrev m_chk (μ : MS) : Nat → Int32 := (g_fr μ).2.2.1
abbrev m_at (μ : MS) : Nat → Nat := (g_fr μ).2.2.2.1
abbrev m_cand (μ : MS) : Nat → Nat := (g_fr μ).2.2.2.2.1
abbrev m_cc (μ : MS) : Nat → Nat := (g_fr μ).2.2.2.2.2.1
abbrev m_mk (μ : MS) : Nat → Nat := (g_fr μ).2.2.2.2.2.2.1
abbrev m_asked (μ : MS) : Nat → Nat := (g_fr μ).2.2.2.2.2.2.2.1
abbrev m_first (μ : MS) : Nat → Int64 := (g_fr μ).2.2.2.2.2.2.2.2.1
abbrev m_sum (μ : MS) : Nat → Int64 := (g_fr μ).2.2.2.2.2.2.2.2.2.1
abbrev m_hgt (μ : MS) : Nat := (g_fr μ).2.2.2.2.2.2.2.2.2.2
def RD (dA : Nat → ClassId) (md : Nat → Nat) (w : fw_W) (μ : MS) : Prop := w (md 36) = some (.inr (5, [.ref (md 0), .ref (md 1), .ref (md 2), .ref (md 3), .ref (md 4), .ref (md 5), .ref (md 6), .ref (md 7), .ref (md 8), .ref (md 9), .ref (md 10), .ref (md 11), .ref (md 12), .ref (md 13), .ref (md 14), .ref (md 15), .int (nI (m_cached μ)), .int (nI (m_ocached μ)), .int (m_circ μ), .int (m_ocirc μ), .int (nI (m_thr μ)), .int (nI (m_wkr μ)), .int (nI (m_ran μ).toNat), .ref (md 23), .ref (md 24), .ref (md 25), .ref (md 26), .ref (md 27), .ref (md 28), .ref (md 29), .ref (md 30), .ref (md 31), .ref (md 32), .ref (md 33), .ref (md 34), .int (nI (m_hgt μ))])) ∧ w (md 0) = some (.inl (dA 0, 12, .inl (nf (m_sort μ)))) ∧ w (md 1) = some (.inl (dA 0, 12, .inl (nf (m_rule μ)))) ∧ w (md 2) = some (.inl (dA 0, 36, .inl (m_parts μ))) ∧ w (md 3) = some (.inl (dA 1, 12, .inr (.inl (m_inp μ)))) ∧ w (md 4) = some (.inl (dA 0, 320, .inl (nf (m_size μ)))) ∧ w (md 5) = some (.inl (dA 0, 3840, .inl (nf (m_keys μ)))) ∧ w (md 6) = some (.inl (dA 0, 320, .inl (nf (m_own μ)))) ∧ w (md 7) = some (.inl (dA 1, 3840, .inr (.inl (m_got μ)))) ∧ w (md 8) = some (.inl (dA 1, 320, .inr (.inl (m_came μ)))) ∧ (∃ u : Nat → Bool, w (md 9) = some (.inl (dA 2, 320, .inl (zf u)))) ∧ w (md 10) = some (.inl (dA 0, 24, .inl (m_trc μ))) ∧ w (md 11) = some (.inl (dA 0, 24, .inl (m_otrc μ))) ∧ w (md 12) = some (.inl (dA 0, 17, .inl (nf (m_cch μ)))) ∧ w (md 13) = some (.inl (dA 0, 17, .inl (nf (m_occh μ)))) ∧ w (md 14) = some (.inl (dA 0, 7, .inl (m_cnt μ))) ∧ w (md 15) = some (.inl (dA 0, 7, .inl (m_ocnt μ))) ∧ w (md 23) = some (.inl (dA 0, 12, .inl (nf (m_st μ)))) ∧ w (md 24) = some (.inl (dA 1, 12, .inr (.inl (m_val μ)))) ∧ w (md 25) = some (.inl (dA 0, 13, .inl (nf (m_key μ)))) ∧ w (md 26) = some (.inl (dA 0, 13, .inl (nf (m_ph μ)))) ∧ w (md 27) = some (.inl (dA 0, 13, .inl (m_chk μ))) ∧ w (md 28) = some (.inl (dA 0, 13, .inl (nf (m_at μ)))) ∧ w (md 29) = some (.inl (dA 0, 208, .inl (nf (m_cand μ)))) ∧ w (md 30) = some (.inl (dA 0, 13, .inl (nf (m_cc μ)))) ∧ w (md 31) = some (.inl (dA 0, 13, .inl (nf (m_mk μ)))) ∧ w (md 32) = some (.inl (dA 0, 13, .inl (nf (m_asked μ)))) ∧ w (md 33) = some (.inl (dA 1, 13, .inr (.inl (m_first μ)))) ∧ w (md 34) = some (.inl (dA 1, 13, .inr (.inl (m_sum μ))))
/-- the fields that hold an array, and the object -/
abbrev U37 (i : Nat) : Prop := i < 16 ∨ (22 < i ∧ i < 35) ∨ i = 36
def Inj37 (md : Nat → Nat) : Prop := ∀ i j, U37 i → U37 j → md i = md j → i = j
theorem Inj37.ne {md : Nat → Nat} (h : Inj37 md) {i j : Nat} (hi : U37 i) (hj : U37 j) (n : i ≠ j) : md i ≠ md j := fun e => n (h i j hi hj e)
/-- only the reference's own cells change -/
def OutD (md : Nat → Nat) (w w' : fw_W) : Prop := ∀ q, (∀ i, U37 i → q ≠ md i) → w' q = w q
theorem OutD.rf {md : Nat → Nat} {w : fw_W} : OutD md w w := fun _ _ => rfl
theorem OutD.tr {md : Nat → Nat} {w w1 w2 : fw_W} (h1 : OutD md w w1) (h2 : OutD md w1 w2) : OutD md w w2 := fun q hq => (h2 q hq).trans (h1 q hq)
theorem OutD.up {md : Nat → Nat} {w w1 w2 : fw_W} {i : Nat} {v : Option va_E} (h1 : OutD md w w1) (hw : w2 = va_up w1 (md i) v) (hi : U37 i) : OutD md w w2 := fun q hq => by rw [hw, va_up_ne _ _ (hq i hi)]; exact h1 q hq
