/-! ===== the reference's states against the class's ===== -/
/-- slot t holds the trace T -/
def SlT (μ : MS) (t : Nat) (T : tv) : Prop := t < 320 ∧ m_own μ t = T.1 ∧ T.1 < 12 ∧ m_size μ t = T.2.1.length ∧ T.2.1.length ≤ 3 ∧ (∀ (i : Nat) (q : Nat × Int64), T.2.1[i]? = some q → m_keys μ (12 * t + i) = q.1 ∧ q.1 < 12 ∧ m_got μ (12 * t + i) = q.2) ∧ m_came μ t = T.2.2
def SlO (μ : MS) (x : Int32) (o : Option tv) : Prop := (o = none ∧ x = -1) ∨ ∃ t T, o = some T ∧ x = nI t ∧ SlT μ t T
def SlL (μ : MS) (x : Nat → Nat) (n : Nat) (cl : List tv) : Prop := cl.length = n ∧ ∀ (i : Nat) (T : tv), cl[i]? = some T → SlT μ (x i) T
/-- slot t is the same -/
def SlE (μ μ' : MS) (t : Nat) : Prop := m_size μ' t = m_size μ t ∧ m_own μ' t = m_own μ t ∧ m_came μ' t = m_came μ t ∧ ∀ i, i < 12 → m_keys μ' (12 * t + i) = m_keys μ (12 * t + i) ∧ m_got μ' (12 * t + i) = m_got μ (12 * t + i)
theorem SlE.rf (μ : MS) (t : Nat) : SlE μ μ t := ⟨rfl, rfl, rfl, fun _ _ => ⟨rfl, rfl⟩⟩
theorem SlE.sl {μ μ' : MS} (h : g_sl μ' = g_sl μ) (t : Nat) : SlE μ μ' t := by
  unfold SlE
  rw [show m_size μ' = m_size μ from congrArg (fun x => x.1) h, show m_own μ' = m_own μ from congrArg (fun x => x.2.2.1) h, show m_came μ' = m_came μ from congrArg (fun x => x.2.2.2.2) h, show m_keys μ' = m_keys μ from congrArg (fun x => x.2.1) h, show m_got μ' = m_got μ from congrArg (fun x => x.2.2.2.1) h]
  exact ⟨rfl, rfl, rfl, fun _ _ => ⟨rfl, rfl⟩⟩
theorem SlE.tr {μ μ1 μ2 : MS} {t : Nat} (h1 : SlE μ μ1 t) (h2 : SlE μ1 μ2 t) : SlE μ μ2 t := ⟨h2.1.trans h1.1, h2.2.1.trans h1.2.1, h2.2.2.1.trans h1.2.2.1, fun i hi => ⟨((h2.2.2.2 i hi).1).trans (h1.2.2.2 i hi).1, ((h2.2.2.2 i hi).2).trans (h1.2.2.2 i hi).2⟩⟩
theorem SlT.kept {μ μ' : MS} {t : Nat} {T : tv} (h : SlT μ t T) (e : SlE μ μ' t) : SlT μ' t T := by
  obtain ⟨h1, h2, h3, h4, h5, h6, h7⟩ := h
  obtain ⟨e1, e2, e3, e4⟩ := e
  refine ⟨h1, e2.trans h2, h3, e1.trans h4, h5, fun i q hq => ?_, e3.trans h7⟩
  have hi : i < T.2.1.length := by
    rcases Nat.lt_or_ge i T.2.1.length with h | h
    · exact h
    · rw [List.getElem?_eq_none h] at hq; cases hq
  obtain ⟨a, b, c⟩ := h6 i q hq
  exact ⟨(e4 i (by omega)).1.trans a, b, (e4 i (by omega)).2.trans c⟩
theorem SlO.kept {μ μ' : MS} {x : Int32} {o : Option tv} (h : SlO μ x o) (e : ∀ t, x = nI t → t < 320 → SlE μ μ' t) : SlO μ' x o := by
  rcases h with h | ⟨t, T, h1, h2, h3⟩
  · exact Or.inl h
  · exact Or.inr ⟨t, T, h1, h2, h3.kept (e t h2 h3.1)⟩
theorem SlL.kept {μ μ' : MS} {x : Nat → Nat} {n : Nat} {cl : List tv} (h : SlL μ x n cl) (e : ∀ i, i < n → x i < 320 → SlE μ μ' (x i)) : SlL μ' x n cl := by
  refine ⟨h.1, fun i T hT => ?_⟩
  have h1 := h.2 i T hT
  refine h1.kept (e i ?_ h1.1)
  rw [← h.1]
  rcases Nat.lt_or_ge i cl.length with h | h
  · exact h
  · rw [List.getElem?_eq_none h] at hT; cases hT
theorem SlL.lt {μ : MS} {x : Nat → Nat} {n : Nat} {cl : List tv} (h : SlL μ x n cl) {i : Nat} (hi : i < n) : ∃ T, cl[i]? = some T ∧ SlT μ (x i) T := by
  have h1 : i < cl.length := by rw [h.1]; exact hi
  exact ⟨cl[i], List.getElem?_eq_getElem h1, h.2 i _ (List.getElem?_eq_getElem h1)⟩
theorem SlO.sl1 {μ : MS} {x : Int32} {o : Option tv} (h : SlO μ x o) : sl1 x := by
  rcases h with h | ⟨t, T, h1, h2, h3⟩
  · exact Or.inl h.2
  · exact Or.inr ⟨t, h3.1, h2⟩
def NotIn (μ : MS) (t : Nat) : Prop := (∀ i, i < 24 → m_trc μ i ≠ nI t) ∧ (∀ i, i < m_cached μ → m_cch μ i ≠ t)
def Plq (P : PD) (μ : MS) : Prop := ∀ k, k < 12 → m_sort μ k = p_kd P k ∧ (p_kd P k = 1 → m_inp μ k = p_vl P k) ∧ (p_kd P k = 2 → m_rule μ k = p_rl P k ∧ ∀ i, i < 3 → m_parts μ (3 * k + i) = p_pf P k i)
def Trq (μ : MS) (σ : SS) : Prop := (∀ i, i < 24 → SlO μ (m_trc μ i) (s_tr σ i)) ∧ m_cached μ ≤ 16 ∧ SlL μ (m_cch μ) (m_cached μ) (s_cl σ)
def Cnq (μ : MS) (σ : SS) : Prop := (∀ j, j < 7 → m_cnt μ j = s_ta σ j) ∧ m_circ μ = s_ta σ 10
def Stq (μ : MS) (σ : SS) : Prop := ∀ k, k < 12 → m_st μ k = (if s_fin σ k = true then 2 else if s_opn σ k = true then 1 else 0) ∧ (s_fin σ k = true → m_val μ k = s_val σ k)
def Odq (μ : MS) : Prop := (∀ i, i < 24 → sl1 (m_otrc μ i)) ∧ m_ocached μ ≤ 17 ∧ (∀ i, i < m_ocached μ → m_occh μ i < 320) ∧ ∀ f, f < 13 → m_mk μ f < 320
def Low (h : Nat) (μ : MS) : Prop := ∀ f, f < h → m_key μ f < 12 ∧ m_st μ (m_key μ f) = 1 ∧ (m_ph μ f = 1 ∨ m_ph μ f = 2 ∨ m_ph μ f = 3) ∧ m_cc μ f ≤ 16 ∧ (m_ph μ f = 1 → m_cc μ f = 0 ∧ m_chk μ f = m_trc μ (12 * m_wkr μ + m_key μ f)) ∧ (∀ i, i < m_cc μ f → m_cand μ (16 * f + i) < 320)
def Sim (P : PD) (wk : Nat) (μ : MS) (σ : SS) : Prop := Plq P μ ∧ Trq μ σ ∧ Cnq μ σ ∧ Stq μ σ ∧ m_wkr μ = wk ∧ m_thr μ = 0 ∧ m_ran μ = s_ran σ ∧ s_fl σ = 0
def Ctx (P : PD) (wk h : Nat) (μ : MS) (σ : SS) : Prop := Sim P wk μ σ ∧ m_hgt μ = h ∧ Low h μ ∧ Odq μ ∧ h + fr12 σ ≤ 12
def Hold (h : Nat) (μ : MS) (t : Nat) : Prop := t < 320 ∧ ((∃ i, i < 24 ∧ m_otrc μ i = nI t) ∨ (∃ i, i < m_ocached μ ∧ m_occh μ i = t) ∨ ∃ f, f < h ∧ ((∃ i, i < m_cc μ f ∧ m_cand μ (16 * f + i) = t) ∨ (1 < m_ph μ f ∧ m_mk μ f = t) ∨ (m_ph μ f = 1 ∧ m_chk μ f = nI t)))
def FE (μ μ' : MS) (f : Nat) : Prop := m_key μ' f = m_key μ f ∧ m_ph μ' f = m_ph μ f ∧ m_chk μ' f = m_chk μ f ∧ m_at μ' f = m_at μ f ∧ m_cc μ' f = m_cc μ f ∧ m_mk μ' f = m_mk μ f ∧ m_asked μ' f = m_asked μ f ∧ m_first μ' f = m_first μ f ∧ m_sum μ' f = m_sum μ f ∧ ∀ i, i < 16 → m_cand μ' (16 * f + i) = m_cand μ (16 * f + i)
/-- what lies below h stays -/
def Pr (h : Nat) (μ μ' : MS) : Prop := g_pl μ' = g_pl μ ∧ g_od μ' = g_od μ ∧ m_wkr μ' = m_wkr μ ∧ (∀ f, f < h → FE μ μ' f) ∧ (∀ j, m_st μ j = 1 → m_st μ' j = 1 ∧ m_trc μ' (12 * m_wkr μ + j) = m_trc μ (12 * m_wkr μ + j)) ∧ (∀ t, Hold h μ t → SlE μ μ' t ∧ (NotIn μ t → NotIn μ' t))
theorem FE.rf (μ : MS) (f : Nat) : FE μ μ f := ⟨rfl, rfl, rfl, rfl, rfl, rfl, rfl, rfl, rfl, fun _ _ => rfl⟩
theorem FE.tr {μ μ1 μ2 : MS} {f : Nat} (a : FE μ μ1 f) (b : FE μ1 μ2 f) : FE μ μ2 f := by
  obtain ⟨a1, a2, a3, a4, a5, a6, a7, a8, a9, a10⟩ := a
  obtain ⟨b1, b2, b3, b4, b5, b6, b7, b8, b9, b10⟩ := b
  exact ⟨b1.trans a1, b2.trans a2, b3.trans a3, b4.trans a4, b5.trans a5, b6.trans a6, b7.trans a7, b8.trans a8, b9.trans a9, fun i hi => (b10 i hi).trans (a10 i hi)⟩
theorem Pr.rf (h : Nat) (μ : MS) : Pr h μ μ := ⟨rfl, rfl, rfl, fun f _ => FE.rf μ f, fun _ h => ⟨h, rfl⟩, fun t _ => ⟨SlE.rf μ t, id⟩⟩
theorem Hold.mono {h h' : Nat} {μ : MS} {t : Nat} (hh : h ≤ h') (H : Hold h μ t) : Hold h' μ t := by
  obtain ⟨h0, h1 | h1 | ⟨f, hf, h1⟩⟩ := H
  · exact ⟨h0, Or.inl h1⟩
  · exact ⟨h0, Or.inr (Or.inl h1)⟩
  · exact ⟨h0, Or.inr (Or.inr ⟨f, by omega, h1⟩)⟩
theorem Pr.mono {h h' : Nat} {μ μ' : MS} (hh : h ≤ h') (p : Pr h' μ μ') : Pr h μ μ' := ⟨p.1, p.2.1, p.2.2.1, fun f hf => p.2.2.2.1 f (by omega), p.2.2.2.2.1, fun t ht => p.2.2.2.2.2 t (ht.mono hh)⟩
theorem Hold.to {h : Nat} {μ μ' : MS} {t : Nat} (hL : ∀ f, f < h → m_cc μ f ≤ 16) (ho : g_od μ' = g_od μ) (hf : ∀ f, f < h → FE μ μ' f) (H : Hold h μ t) : Hold h μ' t := by
  obtain ⟨h0, h1⟩ := H
  refine ⟨h0, ?_⟩
  have e1 : m_otrc μ' = m_otrc μ := congrArg (fun x => x.1) ho
  have e2 : m_occh μ' = m_occh μ := congrArg (fun x => x.2.1) ho
  have e3 : m_ocached μ' = m_ocached μ := congrArg (fun x => x.2.2.1) ho
  rw [e1, e2, e3]
  rcases h1 with h1 | h1 | ⟨f, hff, h1⟩
  · exact Or.inl h1
  · exact Or.inr (Or.inl h1)
  · obtain ⟨a1, a2, a3, a4, a5, a6, a7, a8, a9, a10⟩ := hf f hff
    refine Or.inr (Or.inr ⟨f, hff, ?_⟩)
    rw [a2, a3, a5, a6]
    rcases h1 with ⟨i, hi, h1⟩ | h1
    · exact Or.inl ⟨i, hi, by rw [a10 i (by have := hL f hff; omega)]; exact h1⟩
    · exact Or.inr h1
theorem FE.sy {μ μ' : MS} {f : Nat} (a : FE μ μ' f) : FE μ' μ f := by
  obtain ⟨a1, a2, a3, a4, a5, a6, a7, a8, a9, a10⟩ := a
  exact ⟨a1.symm, a2.symm, a3.symm, a4.symm, a5.symm, a6.symm, a7.symm, a8.symm, a9.symm, fun i hi => (a10 i hi).symm⟩
theorem Hold.back {h : Nat} {μ μ' : MS} {t : Nat} (hL : ∀ f, f < h → m_cc μ f ≤ 16) (ho : g_od μ' = g_od μ) (hf : ∀ f, f < h → FE μ μ' f) (H : Hold h μ' t) : Hold h μ t :=
  H.to (fun f h1 => by rw [(hf f h1).2.2.2.2.1]; exact hL f h1) ho.symm (fun f h1 => (hf f h1).sy)
theorem Pr.tr {h : Nat} {μ μ1 μ2 : MS} (hL : ∀ f, f < h → m_cc μ f ≤ 16) (a : Pr h μ μ1) (b : Pr h μ1 μ2) : Pr h μ μ2 := by
  obtain ⟨a1, a2, a3, a4, a5, a6⟩ := a
  obtain ⟨b1, b2, b3, b4, b5, b6⟩ := b
  refine ⟨b1.trans a1, b2.trans a2, b3.trans a3, fun f hf => (a4 f hf).tr (b4 f hf), fun j hj => ?_, fun t ht => ?_⟩
  · obtain ⟨c1, c2⟩ := a5 j hj
    obtain ⟨d1, d2⟩ := b5 j c1
    rw [a3] at d2
    exact ⟨d1, d2.trans c2⟩
  · obtain ⟨c1, c2⟩ := a6 t ht
    obtain ⟨d1, d2⟩ := b6 t (ht.to hL a2 a4)
    exact ⟨c1.tr d1, fun hn => d2 (c2 hn)⟩
theorem Low.cc {h : Nat} {μ : MS} (H : Low h μ) : ∀ f, f < h → m_cc μ f ≤ 16 := fun f hf => (H f hf).2.2.2.1
theorem Low.pr {h : Nat} {μ μ' : MS} (H : Low h μ) (p : Pr h μ μ') : Low h μ' := by
  intro f hf
  obtain ⟨k1, k2, k3, k4, k5, k6⟩ := H f hf
  obtain ⟨p1, p2, p3, p4, p5, p6⟩ := p
  obtain ⟨a1, a2, a3, a4, a5, a6, a7, a8, a9, a10⟩ := p4 f hf
  obtain ⟨s1, s2⟩ := p5 _ k2
  rw [a1, a2, a5, a3, p3]
  refine ⟨k1, s1, k3, k4, fun h1 => ⟨(k5 h1).1, ((k5 h1).2).trans s2.symm⟩, fun i hi => ?_⟩
  rw [a10 i (by omega)]
  exact k6 i hi
theorem Low.mono {h h' : Nat} {μ : MS} (hh : h ≤ h') (H : Low h' μ) : Low h μ := fun f hf => H f (by omega)
/-! marks -/
theorem mem_mkT {a b : Nat → Int32} {t : Nat} (ht : t < 320) : ∀ {n i : Nat}, i < n → (a i = nI t ∨ b i = nI t) → t ∈ mkT a b n
  | 0, i, h, _ => absurd h (Nat.not_lt_zero i)
  | n + 1, i, h, e => by
    unfold mkT
    by_cases hi : i = n
    · subst hi
      rcases e with e | e
      · rw [e, slotL_nI ht]; exact List.mem_append_right _ (List.mem_append_left _ (List.mem_singleton.mpr rfl))
      · rw [e, slotL_nI ht]; exact List.mem_append_left _ (List.mem_singleton.mpr rfl)
    · exact List.mem_append_right _ (List.mem_append_right _ (mem_mkT ht (show i < n by omega) e))
theorem mem_lstN {x : Nat → Nat} {n i : Nat} (hi : i < n) : x i ∈ lstN x n := by
  unfold lstN
  exact List.mem_map.mpr ⟨i, List.mem_range.mpr hi, rfl⟩
theorem mem_mkF0 {cc cand ph mk : Nat → Nat} {M : List Nat} {t : Nat} (h : t ∈ M) : ∀ n, t ∈ mkF cc cand ph mk M n
  | 0 => h
  | n + 1 => by
    unfold mkF
    exact List.mem_append_right _ (List.mem_append_right _ (mem_mkF0 h n))
theorem mem_mkF {cc cand ph mk : Nat → Nat} {M : List Nat} {t f : Nat} (h : (∃ i, i < cc f ∧ cand (16 * f + i) = t) ∨ (1 < ph f ∧ mk f = t)) : ∀ {n : Nat}, f < n → t ∈ mkF cc cand ph mk M n
  | 0, hf => absurd hf (Nat.not_lt_zero f)
  | n + 1, hf => by
    unfold mkF
    by_cases e : f = n
    · subst e
      rcases h with ⟨i, hi, h⟩ | ⟨h1, h2⟩
      · subst h
        exact List.mem_append_right _ (List.mem_append_left _ (mem_lstN (x := fun j => cand (16 * f + j)) hi))
      · rw [if_pos h1, h2]; exact List.mem_append_left _ (List.mem_singleton.mpr rfl)
    · exact List.mem_append_right _ (List.mem_append_right _ (mem_mkF h (show f < n by omega)))
theorem mem_mk3 {μ : MS} {t : Nat} (ht : t < 320) (h : (∃ i, i < 24 ∧ (m_trc μ i = nI t ∨ m_otrc μ i = nI t)) ∨ (∃ i, i < m_cached μ ∧ m_cch μ i = t) ∨ (∃ i, i < m_ocached μ ∧ m_occh μ i = t)) : t ∈ mk3 μ := by
  unfold mk3
  rcases h with ⟨i, hi, h⟩ | ⟨i, hi, h⟩ | ⟨i, hi, h⟩
  · exact List.mem_append_right _ (List.mem_append_right _ (mem_mkT ht hi h))
  · subst h; exact List.mem_append_right _ (List.mem_append_left _ (mem_lstN hi))
  · subst h; exact List.mem_append_left _ (mem_lstN hi)
theorem Hold.inM {h : Nat} {μ : MS} {t : Nat} (hL : Low h μ) (hw : m_wkr μ < 2) (hh : h ≤ m_hgt μ) (H : Hold h μ t) : t ∈ marks μ := by
  obtain ⟨h0, h1⟩ := H
  unfold marks
  rcases h1 with ⟨i, hi, h1⟩ | h1 | ⟨f, hf, h1 | h1 | ⟨h1, h2⟩⟩
  · exact mem_mkF0 (mem_mk3 h0 (Or.inl ⟨i, hi, Or.inr h1⟩)) _
  · exact mem_mkF0 (mem_mk3 h0 (Or.inr (Or.inr h1))) _
  · exact mem_mkF (Or.inl h1) (by omega)
  · exact mem_mkF (Or.inr h1) (by omega)
  · obtain ⟨k1, -, -, -, k5, -⟩ := hL f hf
    refine mem_mkF0 (mem_mk3 h0 (Or.inl ⟨12 * m_wkr μ + m_key μ f, by omega, Or.inl ?_⟩)) _
    rw [← (k5 h1).2]; exact h2
theorem notIn_marks {μ : MS} {t : Nat} (ht : t < 320) (H : t ∉ marks μ) : NotIn μ t :=
  ⟨fun i hi e => H (mem_mkF0 (mem_mk3 ht (Or.inl ⟨i, hi, Or.inl e⟩)) _), fun i hi e => H (mem_mkF0 (mem_mk3 ht (Or.inr (Or.inl ⟨i, hi, e⟩))) _)⟩
/-- a slot that nothing names -/
theorem fresh_ok {h : Nat} {μ : MS} {x : Nat → Nat} {t : Nat} (hL : Low (h + 1) μ) (hw : m_wkr μ < 2) (hh : m_hgt μ = h + 1) (hx : ∀ z, z < 16 * h ∨ 16 * h + 16 ≤ z → x z = m_cand μ z) (ht : t < 320) (H : t ∉ marks (dPre h x 0 μ)) : NotIn μ t ∧ ¬ Hold h μ t := by
  refine ⟨notIn_marks (μ := dPre h x 0 μ) ht H, fun hH => H ?_⟩
  have hfe : ∀ f, f < h → FE μ (dPre h x 0 μ) f := fun f hf => ⟨rfl, va_up_ne _ _ (by omega), rfl, va_up_ne _ _ (by omega), va_up_ne _ _ (by omega), rfl, rfl, rfl, rfl, fun i hi => hx _ (by omega)⟩
  refine Hold.inM (h := h) (fun f hf => ?_) hw (by rw [show m_hgt (dPre h x 0 μ) = m_hgt μ from rfl, hh]; omega) (hH.to (fun f hf => hL.cc f (by omega)) rfl hfe)
  obtain ⟨k1, k2, k3, k4, k5, k6⟩ := hL f (by omega)
  obtain ⟨a1, a2, a3, a4, a5, a6, a7, a8, a9, a10⟩ := hfe f hf
  rw [a1, a2, a5, a3]
  exact ⟨k1, k2, k3, k4, k5, fun i hi => by rw [a10 i (by omega)]; exact k6 i hi⟩
theorem Ctx.sok {P : PD} {wk h : Nat} {μ : MS} {σ : SS} (c : Ctx P wk h μ σ) : sOK μ := by
  obtain ⟨⟨-, ⟨t1, t2, t3⟩, -⟩, c2, c3, ⟨o1, o2, o3, o4⟩, c5⟩ := c
  refine ⟨fun i hi => ⟨(t1 i hi).sl1, o1 i hi⟩, by omega, o2, fun i hi => ?_, o3, by omega, fun f hf => ?_⟩
  · obtain ⟨T, -, hT⟩ := t3.lt hi
    exact hT.1
  · rw [c2] at hf
    obtain ⟨k1, k2, k3, k4, k5, k6⟩ := c3 f hf
    exact ⟨k4, by omega, k6, fun _ => o4 f (by omega)⟩
