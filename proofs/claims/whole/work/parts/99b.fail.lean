def c4 (ph : Nat → Nat) : Nat → Nat → Nat
  | _, 0 => 0
  | h, n + 1 => (if ph h = 3 then 1 else 0) + c4 ph (h + 1) n
/-- the loop stands at a failure: h frames are to be told yet -/
def FlS (P : PD) (h : Nat) (μ : MS) (σ : SS) : Prop := Plq P μ ∧ Trq μ σ ∧ Odq μ ∧ m_thr μ = s_fl σ + 1 ∧ s_fl σ ≠ 0 ∧ s_fl σ < 4 ∧ m_ran μ = s_ran σ ∧ m_circ μ = s_ta σ 10 ∧ h ≤ m_hgt μ ∧ m_hgt μ ≤ 12 ∧ (∀ f, f < m_hgt μ → m_ph μ f < 4) ∧ (∀ j, j < 7 → s_ta σ j = if j = 4 then m_cnt μ 4 + nI (c4 (m_ph μ) h (m_hgt μ - h)) else m_cnt μ j)
theorem FlS.dn1 {P : PD} {h : Nat} {μ : MS} {σ : SS} (H : FlS P (h + 1) μ σ) (hp : m_ph μ h ≠ 3) : FlS P h μ σ := by
  obtain ⟨a1, a2, a3, a4, a5, a6, a7, a8, a9, a10, a11, a12⟩ := H
  refine ⟨a1, a2, a3, a4, a5, a6, a7, a8, by omega, a10, a11, fun j hj => ?_⟩
  rw [a12 j hj, show m_hgt μ - h = (m_hgt μ - (h + 1)) + 1 by omega, c4, if_neg hp, Nat.zero_add]
theorem FlS.dn3 {P : PD} {h : Nat} {μ : MS} {σ : SS} (H : FlS P (h + 1) μ σ) (hp : m_ph μ h = 3) : FlS P h μ (sTal 4 σ) := by
  obtain ⟨a1, a2, a3, a4, a5, a6, a7, a8, a9, a10, a11, a12⟩ := H
  refine ⟨a1, a2, a3, a4, a5, a6, a7, a8, by omega, a10, a11, fun j hj => ?_⟩
  have e : s_ta (sTal 4 σ) j = upd (s_ta σ) 4 (s_ta σ 4 + nI 1) j := rfl
  rw [e]
  by_cases h4 : j = 4
  · subst h4
    rw [pk_us, a12 4 (by omega), if_pos rfl, if_pos rfl, show m_hgt μ - h = (m_hgt μ - (h + 1)) + 1 by omega, c4, if_pos hp, Int32.add_assoc, nI_add, Nat.add_comm]
  · rw [pk_un h4, a12 j hj, if_neg h4, if_neg h4]
def OkS (P : PD) (wk h : Nat) (μ0 μ : MS) (k : Nat) (v : Int64) (σ : SS) : Prop := Ctx P wk h μ σ ∧ Pr h μ0 μ ∧ m_st μ k = 2 ∧ m_val μ k = v
def Done (P : PD) (wk h : Nat) (μ0 : MS) (k : Nat) (X : MS → Prop) (R : Int64 × SS) : Prop := (s_fl R.2 = 0 → ∀ μ', OkS P wk h μ0 μ' k R.1 R.2 → X μ') ∧ (s_fl R.2 ≠ 0 → ∀ μ', FlS P h μ' R.2 → Pr h μ0 μ' → X μ')
/-- an ask is answered at once, or the loop comes to its answer -/
def AskC (Z : MS → Prop) (P : PD) (wk n : Nat) : Prop := ∀ (h : Nat) (μ : MS) (σ : SS) (q : Nat), q < 12 → fr12 σ < n → Ctx P wk h μ σ → (dAskB q μ = true ∧ s_fl (sv P wk n q σ).2 = 0 ∧ OkS P wk h μ (dAsk q μ) q (sv P wk n q σ).1 (sv P wk n q σ).2) ∨ (dAskB q μ = false ∧ ∀ X : MS → Prop, Cl Z X → Done P wk h μ q X (sv P wk n q σ) → X (dAsk q μ))
theorem Stq.fin {μ μ' : MS} {σ : SS} (H : Stq μ σ) {k : Nat} {v : Int64} (h1 : m_st μ' = va_up (m_st μ) k 2) (h2 : m_val μ' = vp_updL (m_val μ) k v) : Stq μ' (sFin k v σ) := by
  intro j hj
  have e1 : s_fin (sFin k v σ) = va_up (s_fin σ) k true := rfl
  have e2 : s_opn (sFin k v σ) = va_up (s_opn σ) k false := rfl
  have e3 : s_val (sFin k v σ) = vp_updL (s_val σ) k v := rfl
  rw [h1, h2, e1, e2, e3]
  by_cases e : j = k
  · subst e
    rw [va_up_self, va_up_self, if_pos rfl, pk_uLs, pk_uLs]
    exact ⟨rfl, fun _ => rfl⟩
  · rw [va_up_ne _ _ e, va_up_ne _ _ e, va_up_ne _ _ e, pk_uLn e, pk_uLn e]
    exact H j hj
theorem Trq.kept {μ μ' : MS} {σ σ' : SS} (H : Trq μ σ) (h1 : g_sl μ' = g_sl μ) (h2 : m_trc μ' = m_trc μ) (h3 : m_cch μ' = m_cch μ) (h4 : m_cached μ' = m_cached μ) (h5 : s_tr σ' = s_tr σ) (h6 : s_cl σ' = s_cl σ) : Trq μ' σ' := by
  obtain ⟨a, b, c⟩ := H
  unfold Trq
  rw [h2, h3, h4, h5, h6]
  exact ⟨fun i hi => (a i hi).kept (fun t _ _ => SlE.sl h1 t), b, c.kept (fun i _ _ => SlE.sl h1 _)⟩
/-- nothing of slots, traces, cache is touched -/
theorem Pr.easy {h : Nat} {μ μ' : MS} (h1 : g_pl μ' = g_pl μ) (h2 : g_od μ' = g_od μ) (h3 : m_wkr μ' = m_wkr μ) (h4 : ∀ f, f < h → FE μ μ' f) (h5 : ∀ j, m_st μ j = 1 → m_st μ' j = 1) (h6 : g_sl μ' = g_sl μ) (h7 : m_trc μ' = m_trc μ) (h8 : m_cch μ' = m_cch μ) (h9 : m_cached μ' = m_cached μ) : Pr h μ μ' := by
  refine ⟨h1, h2, h3, h4, fun j hj => ⟨h5 j hj, by rw [h7]⟩, fun t _ => ⟨SlE.sl h6 t, fun hn => ?_⟩⟩
  unfold NotIn
  rw [h7, h8, h9]
  exact hn
theorem Plq.pl {P : PD} {μ μ' : MS} (H : Plq P μ) (h : g_pl μ' = g_pl μ) : Plq P μ' := by
  unfold Plq
  rw [show m_sort μ' = m_sort μ from congrArg (fun x => x.1) h, show m_rule μ' = m_rule μ from congrArg (fun x => x.2.1) h, show m_parts μ' = m_parts μ from congrArg (fun x => x.2.2.1) h, show m_inp μ' = m_inp μ from congrArg (fun x => x.2.2.2) h]
  exact H
theorem Odq.kept {μ μ' : MS} (H : Odq μ) (h : g_od μ' = g_od μ) (hm : ∀ f, f < 13 → m_mk μ' f < 320) : Odq μ' := by
  unfold Odq
  rw [show m_otrc μ' = m_otrc μ from congrArg (fun x => x.1) h, show m_occh μ' = m_occh μ from congrArg (fun x => x.2.1) h, show m_ocached μ' = m_ocached μ from congrArg (fun x => x.2.2.1) h]
  exact ⟨H.1, H.2.1, H.2.2.1, hm⟩
theorem c4_0 (ph : Nat → Nat) (h : Nat) : c4 ph h 0 = 0 := rfl
/-- a failure where one stands -/
theorem Ctx.fail {P : PD} {wk h : Nat} {μ : MS} {σ : SS} (c : Ctx P wk h μ σ) {n : Nat} (h0 : n ≠ 0) (h4 : n < 4) (ci : Int32) (ta' : Nat → Int32) (hta : ∀ j, j < 7 → ta' j = s_ta σ j) (hci : ci = ta' 10) : FlS P h (u_mm (dThr (n + 1) μ) (m_trc μ, m_cch μ, m_cached μ, m_cnt μ, ci)) (sFail n (s_tr σ, s_cl σ, ta', s_fin σ, s_opn σ, s_val σ, s_ran σ, s_fl σ, s_md σ)) ∧ Pr h μ (u_mm (dThr (n + 1) μ) (m_trc μ, m_cch μ, m_cached μ, m_cnt μ, ci)) := by
  obtain ⟨⟨d1, d2, d3, d4, d5, d6, d7, d8⟩, c2, c3, c4', c5⟩ := c
  have efl : s_fl (sFail n (s_tr σ, s_cl σ, ta', s_fin σ, s_opn σ, s_val σ, s_ran σ, s_fl σ, s_md σ)) = n := if_pos d8
  refine ⟨⟨d1.pl rfl, d2.kept rfl rfl rfl rfl rfl rfl, c4'.kept rfl c4'.2.2.2, by rw [efl]; rfl, by rw [efl]; exact h0, by rw [efl]; exact h4, d7, hci, ?_, ?_, ?_, fun j hj => ?_⟩, Pr.easy rfl rfl rfl (fun f _ => FE.rf _ f) (fun _ h => h) rfl rfl rfl rfl⟩
  · show h ≤ m_hgt μ; omega
  · show m_hgt μ ≤ 12; omega
  · intro f hf
    have hf' : f < m_hgt μ := hf
    have := (c3 f (by omega)).2.2.1
    show m_ph μ f < 4
    omega
  · show ta' j = if j = 4 then m_cnt μ 4 + nI (c4 (m_ph μ) h (m_hgt μ - h)) else m_cnt μ j
    rw [hta j hj, c2, Nat.sub_self, c4_0, show nI 0 = 0 from rfl, Int32.add_zero]
    have e := d3.1 j hj
    split
    · rename_i e4
      subst e4
      exact e.symm
    · exact e.symm
