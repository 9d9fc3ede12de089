section ASK
variable {Z X : MS → Prop} {P : PD} {wk n h k : Nat} {μ0 μ μ' : MS} {σ σ' : SS}
theorem Ctx.st0 (c : Ctx P wk h μ σ) {k : Nat} (hk : k < 12) (h1 : s_fin σ k = false) (h2 : s_opn σ k = false) : m_st μ k = 0 := by
  rw [(c.1.2.2.2.1 k hk).1, h1, h2]; rfl
theorem push_wk (c : Ctx P wk h μ σ) (hk : k < 12) (h1 : s_fin σ k = false) (h2 : s_opn σ k = false) (hkd : p_kd P k = 2) (hn : fr12 σ < n + 1) : Wk P wk n h μ k (dPush k μ) (sOpen k σ) := by
  have hs0 := c.st0 hk h1 h2
  obtain ⟨⟨d1, d2, d3, d4, d5, d6, d7, d8⟩, c2, c3, c4', c5⟩ := c
  have hfr : fr12 (sOpen k σ) + 1 = fr12 σ := frS_open h2 h1 12 hk
  have hst : m_st (dPush k μ) = va_up (m_st μ) k 1 := rfl
  have hfe : ∀ f, f < h → FE μ (dPush k μ) f := fun f hf => ⟨va_up_ne _ _ (by omega), va_up_ne _ _ (by omega), pk_un (by omega), va_up_ne _ _ (by omega), va_up_ne _ _ (by omega), rfl, rfl, rfl, rfl, fun _ _ => rfl⟩
  have hPr : Pr h μ (dPush k μ) := Pr.easy rfl rfl rfl hfe (fun j hj => by
    rw [hst, va_up_ne _ _ (fun e => by rw [e, hs0] at hj; omega)]; exact hj) rfl rfl rfl rfl
  have hkey : m_key (dPush k μ) h = k := by rw [← c2]; exact va_up_self _ _ _
  refine ⟨⟨⟨d1, d2, d3, ?_, d5, d6, d7, d8⟩, ?_, fun f hf => ?_, c4', by omega⟩, hPr, hkey, by omega, c3, hkd, by rw [hs0]; omega⟩
  · intro j hj
    have e2 : s_opn (sOpen k σ) = va_up (s_opn σ) k true := rfl
    have e1 : s_fin (sOpen k σ) = s_fin σ := rfl
    have e3 : m_val (dPush k μ) = m_val μ := rfl
    rw [hst, e1, e2, e3]
    by_cases e : j = k
    · subst e
      rw [va_up_self, va_up_self, h1]
      exact ⟨rfl, fun h => by cases h⟩
    · rw [va_up_ne _ _ e, va_up_ne _ _ e]
      exact d4 j hj
  · show m_hgt μ + 1 = h + 1
    omega
  · by_cases e : f = h
    · subst e
      have e1 : m_ph (dPush k μ) f = 1 := by rw [← c2]; exact va_up_self _ _ _
      have e2 : m_cc (dPush k μ) f = 0 := by rw [← c2]; exact va_up_self _ _ _
      have e3 : m_chk (dPush k μ) f = m_trc μ (12 * m_wkr μ + k) := by rw [← c2]; exact pk_us
      rw [hkey, e1, e2, e3, hst]
      exact ⟨hk, va_up_self _ _ _, Or.inl rfl, by omega, fun _ => ⟨rfl, rfl⟩, fun i hi => by omega⟩
    · exact c3.pr hPr f (by omega)
theorem task_ok (hp : p_ok P) (hwk : wk < 2) (IH : AskC Z P wk n) (hX : Cl Z X) (c : Ctx P wk h μ σ) (hk : k < 12) (h1 : s_fin σ k = false) (h2 : s_opn σ k = false) (hkd : p_kd P k = 2) (hn : fr12 σ < n + 1) (hD : Done P wk h μ k X (taskV (sv P wk n) P wk k (sOpen k σ))) : X (dPush k μ) := by
  have H := push_wk c hk h1 h2 hkd hn
  have c2 := c.2.1
  have hw : m_wkr μ = wk := c.1.2.2.2.2.1
  have e1 : m_ph (dPush k μ) h = 1 := by rw [← c2]; exact va_up_self _ _ _
  have e3 : m_chk (dPush k μ) h = m_trc μ (wk * 12 + k) := by rw [← c2, show wk * 12 + k = 12 * m_wkr μ + k by omega]; exact pk_us
  have e4 : m_at (dPush k μ) h = 0 := by rw [← c2]; exact va_up_self _ _ _
  have hO := c.1.2.1.1 (wk * 12 + k) (by omega)
  have hstr : s_tr (sOpen k σ) (wk * 12 + k) = s_tr σ (wk * 12 + k) := rfl
  unfold taskV at hD
  rw [hstr] at hD
  rcases hO with ⟨o1, o2⟩ | ⟨t, T, o1, o2, o3⟩
  · rw [o1] at hD
    have hD' : Done P wk h μ k X (nextE (sv P wk n) P wk k (entV k (s_cl (sOpen k σ))) (sOpen k σ)) := hD
    rw [o2] at e3
    refine (hX _).2 H.nst (H.iok12 hp hwk (Or.inl e1) (Or.inl e3)) (fun μ' hs => ?_)
    have hh := H.1.2.1
    unfold Step at hs
    rw [show m_hgt (dPush k μ) - 1 = h by omega] at hs
    rcases hs with ⟨h3, -⟩ | ⟨-, hs⟩
    · omega
    · rcases hs with ⟨-, hN⟩ | ⟨t', ht', h9, -⟩
      · exact next_all hp hwk IH hX _ _ _ H (Or.inl e1) ⟨fun _ => rfl, fun h9 => by omega⟩ hD' μ' hN
      · rw [e3] at h9; exact absurd h9.symm (nI_ne_m1 (by omega))
  · rw [o1] at hD
    rw [o2] at e3
    have F : CF μ h (dPush k μ) 1 t T [] := ⟨Or.inl rfl, e1, e3, o3, fun h => by omega⟩
    have hfl : s_fl (sOpen k σ) = 0 := H.1.1.2.2.2.2.2.2.2
    have eo : ownV (sv P wk n) (some T) (sOpen k σ) = agrV (sv P wk n) T.2.1 (sOpen k σ) := rfl
    rw [eo] at hD
    refine chk_all hp hwk IH hX T.2.1 _ (sOpen k σ) 0 H F e4 rfl (by omega) (fun ht μ' H2 F2 at2 => ?_) (fun hf hf0 μ' H2 F2 μ2 hN2 => ?_) (fun hf μ' hFl hPr hph2 => ?_)
    · rw [if_pos ht] at hD
      refine (hX μ').2 H2.nst (H2.iok12 hp hwk (by rw [F2.2.1]; exact F2.1) (Or.inr ⟨_, T, F2.2.2.1, F2.2.2.2.1, by omega⟩)) (fun μ3 hs => ?_)
      rw [step_hit H2.1.2.1 F2 at2 hs]
      have ok := hit_ok hwk H2 F2 (fun h => by omega)
      rw [if_pos rfl] at ok
      exact hD.1 (agr_true _ ht) _ ok
    · rw [if_neg (by rw [hf]; simp)] at hD
      exact next_all hp hwk IH hX _ _ _ H2 (by rw [F2.2.1]; exact F2.1) ⟨fun _ => rfl, fun h9 => by rw [F2.2.1] at h9; omega⟩ hD μ2 hN2
    · have hne : (agrV (sv P wk n) T.2.1 (sOpen k σ)).1 = false := by
        cases hb : (agrV (sv P wk n) T.2.1 (sOpen k σ)).1 with
        | false => rfl
        | true => exact absurd (agr_true _ hb) hf
      rw [if_neg (by rw [hne]; simp)] at hD
      have e9 : nextV (sv P wk n) P wk k (agrV (sv P wk n) T.2.1 (sOpen k σ)).2 = (0, (agrV (sv P wk n) T.2.1 (sOpen k σ)).2) := nextE_fl _ hf
      rw [e9] at hD
      exact hD.2 hf μ' (hFl.dn1 (by omega)) hPr
theorem ask_all (hp : p_ok P) (hwk : wk < 2) : ∀ n, AskC Z P wk n
  | 0 => fun h μ σ q _ hf _ => absurd hf (Nat.not_lt_zero _)
  | n + 1 => by
    intro h μ σ q hq hf c
    have IH : AskC Z P wk n := ask_all hp hwk n
    obtain ⟨hst, hval⟩ := c.1.2.2.2.1 q hq
    have hso := (c.1.1 q hq).1
    have e0 : sv P wk (n + 1) q σ = stepV (sv P wk n) P wk q σ := rfl
    rw [e0]
    unfold stepV
    rw [if_neg (by omega)]
    by_cases h1 : s_fin σ q = true
    · rw [if_pos h1]
      rw [if_pos h1] at hst
      left
      obtain ⟨b1, b2⟩ := askB_2 hst
      refine ⟨b1, c.1.2.2.2.2.2.2.2, ?_⟩
      rw [b2]
      exact ⟨c, Pr.rf h μ, hst, hval h1⟩
    · have h1' : s_fin σ q = false := by simpa using h1
      rw [if_neg h1]
      rw [if_neg h1] at hst
      by_cases h2 : s_opn σ q = true
      · rw [if_pos h2]
        rw [if_pos h2] at hst
        right
        have hA : dAskB q μ = false := by unfold dAskB; rw [if_neg (by omega), if_pos hst]
        have hB : dAsk q μ = u_mm (dThr 4 μ) (m_trc μ, m_cch μ, m_cached μ, m_cnt μ, m_circ μ + nI 1) := by unfold dAsk; rw [if_neg (by omega), if_pos hst]
        refine ⟨hA, fun X hX hD => ?_⟩
        rw [hB]
        obtain ⟨g1, g2⟩ := c.fail (n := 3) (by omega) (by omega) (m_circ μ + nI 1) (upd (s_ta σ) 10 (s_ta σ 10 + nI 1)) (fun j hj => pk_un (by omega)) (by rw [pk_us, c.1.2.2.1.2])
        exact hD.2 (by rw [show s_fl (sFail 3 (sTal 10 σ)) = 3 from if_pos c.1.2.2.2.2.2.2.2]; omega) _ g1 g2
      · have h2' : s_opn σ q = false := by simpa using h2
        rw [if_neg h2]
        rw [if_neg h2] at hst
        by_cases h3 : p_kd P q = 0
        · rw [if_pos h3]
          right
          have hA : dAskB q μ = false := by unfold dAskB; rw [if_neg (by omega), if_neg (by omega), if_pos (hso.trans h3)]
          have hB : dAsk q μ = dThr 2 μ := by unfold dAsk; rw [if_neg (by omega), if_neg (by omega), if_pos (hso.trans h3)]
          refine ⟨hA, fun X hX hD => ?_⟩
          rw [hB]
          obtain ⟨g1, g2⟩ := c.fail (n := 1) (by omega) (by omega) (m_circ μ) (s_ta σ) (fun j hj => rfl) c.1.2.2.1.2
          exact hD.2 (by rw [show s_fl (sFail 1 σ) = 1 from if_pos c.1.2.2.2.2.2.2.2]; omega) _ g1 g2
        · rw [if_neg h3]
          by_cases h4 : p_kd P q = 1
          · rw [if_pos h4]
            left
            have hA : dAskB q μ = true := by unfold dAskB; rw [if_neg (by omega), if_neg (by omega), if_neg (by omega), if_pos (hso.trans h4)]
            have hB : dAsk q μ = u_se μ (m_thr μ, m_wkr μ, m_ran μ, va_up (m_st μ) q 2, vp_updL (m_val μ) q (m_inp μ q)) := by unfold dAsk; rw [if_neg (by omega), if_neg (by omega), if_neg (by omega), if_pos (hso.trans h4)]
            rw [(c.1.1 q hq).2.1 h4] at hB
            have hstq : m_st (dAsk q μ) = va_up (m_st μ) q 2 := by rw [hB]; rfl
            have hvlq : m_val (dAsk q μ) = vp_updL (m_val μ) q (p_vl P q) := by rw [hB]; rfl
            have hPr : Pr h μ (dAsk q μ) := by
              rw [hB]
              exact Pr.easy rfl rfl rfl (fun f _ => FE.fr rfl f) (fun j hj => (va_up_ne _ _ (fun e => by rw [e] at hj; omega)).trans hj) rfl rfl rfl rfl
            have hS := c.1.2.2.2.1.fin hstq hvlq
            have hfr := fr_fin (σ := σ) (σ1 := σ) (k := q) (v := p_vl P q) rfl rfl
            have c5 := c.2.2.2.2
            refine ⟨hA, c.1.2.2.2.2.2.2.2, ⟨⟨?_, ?_, c.2.2.1.pr hPr, ?_, (show h + fr12 (sFin q (p_vl P q) σ) ≤ 12 by omega)⟩, hPr, by rw [hstq, va_up_self], by rw [hvlq, pk_uLs]⟩⟩
            · rw [hB] at hS ⊢
              obtain ⟨d1, d2, d3, d4, d5, d6, d7, d8⟩ := c.1
              exact ⟨d1, d2, d3, hS, d5, d6, d7, d8⟩
            · rw [hB]; exact c.2.1
            · rw [hB]; exact c.2.2.2.1
          · rw [if_neg h4]
            right
            have hkd : p_kd P q = 2 := by have := (hp q hq).1; omega
            have hA : dAskB q μ = false := by unfold dAskB; rw [if_neg (by omega), if_neg (by omega), if_neg (by omega), if_neg (by omega)]
            have hB : dAsk q μ = dPush q μ := by unfold dAsk; rw [if_neg (by omega), if_neg (by omega), if_neg (by omega), if_neg (by omega)]
            refine ⟨hA, fun X hX hD => ?_⟩
            rw [hB]
            exact task_ok hp hwk IH hX c hq h1' h2' hkd hf hD
end ASK
