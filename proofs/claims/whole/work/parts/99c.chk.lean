section CHK
variable {Z X : MS → Prop} {P : PD} {wk n h k : Nat} {μ0 μ μ' : MS} {σ σ' : SS}
/-- frame h works for key k, begun at μ0 -/
def Wk (P : PD) (wk n h : Nat) (μ0 : MS) (k : Nat) (μ : MS) (σ : SS) : Prop := Ctx P wk (h + 1) μ σ ∧ Pr h μ0 μ ∧ m_key μ h = k ∧ fr12 σ < n ∧ Low h μ0 ∧ p_kd P k = 2 ∧ m_st μ0 k ≠ 1
def K2 (μ0 : MS) (h : Nat) (μ : MS) : Prop := ∀ u, Hold h μ0 u → NotIn μ0 u → u ≠ m_mk μ h ∧ ∀ i, i < m_cc μ h → m_cand μ (16 * h + i) ≠ u
/-- frame h checks the trace T of slot t; Cs are the candidates left -/
def CF (μ0 : MS) (h : Nat) (μ : MS) (p t : Nat) (T : tv) (Cs : List tv) : Prop := (p = 1 ∨ p = 2) ∧ m_ph μ h = p ∧ m_chk μ h = nI t ∧ SlT μ t T ∧ (p = 2 → m_mk μ h = t ∧ SlL μ (fun j => m_cand μ (16 * h + j)) (m_cc μ h) Cs ∧ K2 μ0 h μ)
theorem Wk.next (H : Wk P wk n h μ0 k μ σ) (c : Ctx P wk (h + 1) μ' σ') (p : Pr (h + 1) μ μ') (hf : fr12 σ' ≤ fr12 σ) : Wk P wk n h μ0 k μ' σ' :=
  ⟨c, H.2.1.tr (H.2.2.2.2.1.cc) (p.mono (by omega)), (p.2.2.2.1 h (by omega)).1.trans H.2.2.1, by have := H.2.2.2.1; omega, H.2.2.2.2⟩
theorem CF.next {p t : Nat} {T : tv} {Cs : List tv} (hL : Low (h + 1) μ) (H : CF μ0 h μ p t T Cs) (q : Pr (h + 1) μ μ') : CF μ0 h μ' p t T Cs := by
  obtain ⟨h1, h2, h3, h4, h5⟩ := H
  obtain ⟨a1, a2, a3, a4, a5, a6, a7, a8, a9, a10⟩ := q.2.2.2.1 h (by omega)
  have hc := hL.cc h (by omega)
  have hS := q.2.2.2.2.2
  refine ⟨h1, a2.trans h2, a3.trans h3, h4.kept (hS t ⟨h4.1, Or.inr (Or.inr ⟨h, by omega, ?_⟩)⟩).1, fun hp => ?_⟩
  · rcases h1 with h1 | h1
    · exact Or.inr (Or.inr ⟨h2.trans h1, h3⟩)
    · exact Or.inr (Or.inl ⟨by omega, (h5 h1).1⟩)
  · obtain ⟨b1, b2, b3⟩ := h5 hp
    refine ⟨a6.trans b1, ?_, fun u hu hn => ?_⟩
    · rw [a5]
      have b2' := b2.kept (μ' := μ') (fun i hi ht => (hS _ ⟨ht, Or.inr (Or.inr ⟨h, by omega, Or.inl ⟨i, hi, rfl⟩⟩)⟩).1)
      refine ⟨b2'.1, fun i T hT => ?_⟩
      have hi : i < m_cc μ h := by
        rw [← b2.1]
        rcases Nat.lt_or_ge i Cs.length with h | h
        · exact h
        · rw [List.getElem?_eq_none h] at hT; cases hT
      show SlT μ' (m_cand μ' (16 * h + i)) T
      rw [a10 i (by omega)]
      exact b2'.2 i T hT
    · rw [a5, a6]
      refine ⟨(b3 u hu hn).1, fun i hi => ?_⟩
      rw [a10 i (by omega)]
      exact (b3 u hu hn).2 i hi
theorem Ctx.st3 (c : Ctx P wk h μ σ) {q : Nat} (hq : q < 12) : m_st μ q < 3 := by
  rw [(c.1.2.2.2.1 q hq).1]
  split
  · omega
  · split <;> omega
theorem Ctx.so3 (hp : p_ok P) (c : Ctx P wk h μ σ) {q : Nat} (hq : q < 12) : m_sort μ q < 3 := by
  rw [(c.1.1 q hq).1]
  exact (hp q hq).1
theorem Wk.k12 (H : Wk P wk n h μ0 k μ σ) : k < 12 := by
  have := (H.1.2.2.1 h (by omega)).1
  rw [H.2.2.1] at this
  exact this
theorem Wk.rl (hp : p_ok P) (H : Wk P wk n h μ0 k μ σ) : m_rule μ (m_key μ h) = p_rl P k ∧ p_rl P k < 10 := by
  rw [H.2.2.1]
  exact ⟨((H.1.1.1 k H.k12).2.2 H.2.2.2.2.2.1).1, ((hp k H.k12).2 H.2.2.2.2.2.1).1⟩
theorem Wk.nst (H : Wk P wk n h μ0 k μ σ) : ¬ stops μ := by
  intro hs
  rcases hs with hs | hs
  · have := H.1.2.1; omega
  · exact hs H.1.1.2.2.2.2.2.1
theorem Wk.nok (hp : p_ok P) (H : Wk P wk n h μ0 k μ σ) (hph : m_ph μ h = 1 ∨ m_ph μ h = 2) : nOK μ h := by
  obtain ⟨r1, r2⟩ := H.rl hp
  have hk := H.k12
  obtain ⟨c1, c2, c3, c4', c5⟩ := (id H.1)
  refine ⟨H.1.sok, by omega, by rw [H.2.2.1]; exact hk, by omega, hph, fun h1 => ((c3 h (by omega)).2.2.2.2.1 h1).1, c1.2.1.2.1, fun i hi => ?_, c4'.2.2.2 h (by omega)⟩
  obtain ⟨T, -, hT⟩ := c1.2.1.2.2.lt hi
  rw [hT.2.1]; exact hT.2.2.1
theorem Wk.iok12 (hp : p_ok P) (hwk : wk < 2) (H : Wk P wk n h μ0 k μ σ) (hph : m_ph μ h = 1 ∨ m_ph μ h = 2) (hc : m_chk μ h = -1 ∨ ∃ t T, m_chk μ h = nI t ∧ SlT μ t T ∧ m_at μ h ≤ T.2.1.length) : iOK μ := by
  have hh := H.1.2.1
  have h5 := H.1.2.2.2.2
  have e : m_hgt μ - 1 = h := by omega
  unfold iOK
  rw [e]
  refine ⟨by omega, by rw [H.1.1.2.2.2.2.2.1]; omega, by omega, fun h3 => by omega, fun _ => ⟨H.nok hp hph, by omega, by rw [H.1.1.2.2.2.2.1]; exact hwk, ?_⟩⟩
  rcases hc with hc | ⟨t, T, hc, hT, ha⟩
  · exact Or.inl hc
  · right
    obtain ⟨t1, t2, t3, t4, t5, t6, t7⟩ := (id hT)
    refine ⟨t, t1, hc, by omega, ?_⟩
    rcases Nat.lt_or_ge (m_at μ h) T.2.1.length with hlt | hge
    · right
      obtain ⟨b1, b2, b3⟩ := t6 (m_at μ h) _ (List.getElem?_eq_getElem hlt)
      have hk12 : m_keys μ (12 * t + m_at μ h) < 12 := by rw [b1]; exact b2
      exact ⟨by omega, hk12, H.1.st3 hk12, H.1.so3 hp hk12⟩
    · left; omega
theorem step_chk {p t i : Nat} {T : tv} {Cs : List tv} {q : Nat × Int64} (hh : m_hgt μ = h + 1) (F : CF μ0 h μ p t T Cs) (ha : m_at μ h = i) (hq : T.2.1[i]? = some q) (hs : Step μ μ') : (dAskB q.1 μ = false ∧ μ' = dAsk q.1 μ) ∨ (dAskB q.1 μ = true ∧ m_val (dAsk q.1 μ) q.1 = q.2 ∧ μ' = dAt h (i + 1) (dAsk q.1 μ)) ∨ (dAskB q.1 μ = true ∧ m_val (dAsk q.1 μ) q.1 ≠ q.2 ∧ Nx (dAsk q.1 μ) h μ') := by
  have e : m_hgt μ - 1 = h := by omega
  unfold Step at hs
  rw [e] at hs
  obtain ⟨f1, f2, f3, f4, -⟩ := F
  obtain ⟨t1, t2, t3, t4, t5, t6, t7⟩ := f4
  obtain ⟨q1, q2, q3⟩ := t6 i q hq
  have hi : i < T.2.1.length := by
    rcases Nat.lt_or_ge i T.2.1.length with h | h
    · exact h
    · rw [List.getElem?_eq_none h] at hq; cases hq
  rcases hs with ⟨h3, -⟩ | ⟨-, hs⟩
  · omega
  · rcases hs with ⟨h1, -⟩ | ⟨t', ht', h1, hs⟩
    · rw [f3] at h1
      exact absurd h1 (nI_ne_m1 (by omega))
    · rw [f3] at h1
      have et : t = t' := (nI_eq (by omega) (by omega)).mp h1
      subst et
      rcases hs with ⟨h2, -⟩ | ⟨-, k', hk', hs⟩
      · rw [ha, t4] at h2; omega
      · rw [ha, q1] at hk'
        subst hk'
        rw [ha, q3] at hs
        exact hs
theorem askB_2 {q : Nat} (h : m_st μ q = 2) : dAskB q μ = true ∧ dAsk q μ = μ := ⟨if_pos h, if_pos h⟩
theorem agr_fl {rec : RX} : ∀ (r : List (Nat × Int64)) {σ : SS}, s_fl σ ≠ 0 → agrV rec r σ = (false, σ)
  | [], σ, h => by unfold agrV; rw [decide_eq_false h]
  | q :: r, σ, h => by unfold agrV; rw [if_neg h]
/-- at goes on -/
theorem Wk.at {a : Nat} (H : Wk P wk n h μ0 k μ σ) : Wk P wk n h μ0 k (dAt h a μ) σ := by
  obtain ⟨⟨⟨d1, d2, d3, d4, d5, d6, d7, d8⟩, c2, c3, c4', c5⟩, hP, h3, h4, h5⟩ := H
  refine ⟨⟨⟨d1, d2, d3, d4, d5, d6, d7, d8⟩, c2, c3, c4', c5⟩, hP.tr h5.1.cc (Pr.easy rfl rfl rfl (fun f hf => ⟨rfl, rfl, rfl, va_up_ne _ _ (by omega), rfl, rfl, rfl, rfl, rfl, fun _ _ => rfl⟩) (fun _ h => h) rfl rfl rfl rfl), h3, h4, h5⟩
theorem CF.at {p t a : Nat} {T : tv} {Cs : List tv} (H : CF μ0 h μ p t T Cs) : CF μ0 h (dAt h a μ) p t T Cs := H
theorem chk_all (hp : p_ok P) (hwk : wk < 2) (IH : AskC Z P wk n) (hX : Cl Z X) {p t : Nat} {T : tv} {Cs : List tv} : ∀ (r : List (Nat × Int64)) (μ : MS) (σ : SS) (i : Nat), Wk P wk n h μ0 k μ σ → CF μ0 h μ p t T Cs → m_at μ h = i → T.2.1.drop i = r → i ≤ T.2.1.length →
    ((agrV (sv P wk n) r σ).1 = true → ∀ μ', Wk P wk n h μ0 k μ' (agrV (sv P wk n) r σ).2 → CF μ0 h μ' p t T Cs → m_at μ' h = T.2.1.length → X μ') →
    ((agrV (sv P wk n) r σ).1 = false → s_fl (agrV (sv P wk n) r σ).2 = 0 → ∀ μ', Wk P wk n h μ0 k μ' (agrV (sv P wk n) r σ).2 → CF μ0 h μ' p t T Cs → ∀ μ2, Nx μ' h μ2 → X μ2) →
    (s_fl (agrV (sv P wk n) r σ).2 ≠ 0 → ∀ μ', FlS P (h + 1) μ' (agrV (sv P wk n) r σ).2 → Pr h μ0 μ' → m_ph μ' h = p → X μ') → X μ
  | [], μ, σ, i, H, F, ha, hr, hi, hA, hB, hF => by
    have e : agrV (sv P wk n) [] σ = (true, σ) := by unfold agrV; rw [decide_eq_true H.1.1.2.2.2.2.2.2.2]
    rw [e] at hA
    refine hA rfl μ H F ?_
    have := List.drop_eq_nil_iff.mp hr
    omega
  | q :: r, μ, σ, i, H, F, ha, hr, hi, hA, hB, hF => by
    have hfl := H.1.1.2.2.2.2.2.2.2
    have e : agrV (sv P wk n) (q :: r) σ = (if (sv P wk n q.1 σ).1 = q.2 then agrV (sv P wk n) r (sv P wk n q.1 σ).2 else (false, (sv P wk n q.1 σ).2)) := by
      conv => lhs; unfold agrV
      rw [if_pos hfl]
    rw [e] at hA hB hF
    have hilt : i < T.2.1.length := by
      rcases Nat.lt_or_ge i T.2.1.length with h | h
      · exact h
      · rw [List.drop_eq_nil_iff.mpr h] at hr; cases hr
    rw [List.drop_eq_getElem_cons hilt] at hr
    injection hr with hr1 hr2
    have hq : T.2.1[i]? = some q := by rw [List.getElem?_eq_getElem hilt, hr1]
    have hq12 : q.1 < 12 := (F.2.2.2.1.2.2.2.2.2.1 i q hq).2.1
    have hph : m_ph μ h = 1 ∨ m_ph μ h = 2 := by rw [F.2.1]; exact F.1
    have hKp := Kp_sv P wk n q.1 σ
    -- an answer
    have hY : s_fl (sv P wk n q.1 σ).2 = 0 → ∀ μ1, OkS P wk (h + 1) μ μ1 q.1 (sv P wk n q.1 σ).1 (sv P wk n q.1 σ).2 → ((sv P wk n q.1 σ).1 = q.2 → X (dAt h (i + 1) μ1)) ∧ ((sv P wk n q.1 σ).1 ≠ q.2 → ∀ μ2, Nx μ1 h μ2 → X μ2) := by
      intro hf0 μ1 ok
      have H1 := H.next ok.1 ok.2.1 hKp.fr
      have F1 := F.next H.1.2.2.1 ok.2.1
      refine ⟨fun hv => ?_, fun hv μ2 hN => ?_⟩
      · rw [if_pos hv] at hA hB hF
        exact chk_all hp hwk IH hX r (dAt h (i + 1) μ1) _ (i + 1) H1.at F1.at (va_up_self _ _ _) hr2 hilt hA hB hF
      · rw [if_neg hv] at hB
        exact hB rfl hf0 μ1 H1 F1 μ2 hN
    refine (hX μ).2 H.nst (H.iok12 hp hwk hph (Or.inr ⟨t, T, F.2.2.1, F.2.2.2.1, by omega⟩)) (fun μ' hs => ?_)
    have hst := step_chk H.1.2.1 F ha hq hs
    rcases IH (h + 1) μ σ q.1 hq12 H.2.2.2.1 H.1 with ⟨hb, hf0, ok⟩ | ⟨hb, hD⟩
    · obtain ⟨y1, y2⟩ := hY hf0 _ ok
      rcases hst with ⟨hb2, -⟩ | ⟨-, hv, rfl⟩ | ⟨-, hv, hN⟩
      · rw [hb] at hb2; cases hb2
      · exact y1 (by rw [← ok.2.2.2]; exact hv)
      · exact y2 (by rw [← ok.2.2.2]; exact hv) _ hN
    · have hμ' : μ' = dAsk q.1 μ := by
        rcases hst with ⟨-, rfl⟩ | ⟨hb2, -⟩ | ⟨hb2, -⟩
        · rfl
        · rw [hb] at hb2; cases hb2
        · rw [hb] at hb2; cases hb2
      rw [hμ']
      refine hD X hX ⟨fun hf0 μ1 ok => ?_, fun hf μ1 hFl hPr => ?_⟩
      · obtain ⟨y1, y2⟩ := hY hf0 _ ok
        have H1 := H.next ok.1 ok.2.1 hKp.fr
        have F1 := F.next H.1.2.2.1 ok.2.1
        have ha1 : m_at μ1 h = i := (ok.2.1.2.2.2.1 h (by omega)).2.2.2.1.trans ha
        refine (hX μ1).2 H1.nst (H1.iok12 hp hwk (by rw [F1.2.1]; exact F.1) (Or.inr ⟨t, T, F1.2.2.1, F1.2.2.2.1, by omega⟩)) (fun μ2 hs2 => ?_)
        obtain ⟨b1, b2⟩ := askB_2 ok.2.2.1
        have hst2 := step_chk H1.1.2.1 F1 ha1 hq hs2
        rw [b2] at hst2
        rcases hst2 with ⟨hb2, -⟩ | ⟨-, hv, rfl⟩ | ⟨-, hv, hN⟩
        · rw [b1] at hb2; cases hb2
        · exact y1 (by rw [← ok.2.2.2]; exact hv)
        · exact y2 (by rw [← ok.2.2.2]; exact hv) _ hN
      · have e2 : (if (sv P wk n q.1 σ).1 = q.2 then agrV (sv P wk n) r (sv P wk n q.1 σ).2 else (false, (sv P wk n q.1 σ).2)) = (false, (sv P wk n q.1 σ).2) := by
          split
          · exact agr_fl r hf
          · rfl
        rw [e2] at hF
        exact hF hf μ1 hFl (H.2.1.tr H.2.2.2.2.1.cc (hPr.mono (by omega))) ((hPr.2.2.2.1 h (by omega)).2.1.trans F.2.1)
end CHK
