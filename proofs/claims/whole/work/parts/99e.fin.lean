section FIN
variable {Z X : MS → Prop} {P : PD} {wk n h k : Nat} {μ0 μ μ' : MS} {σ σ' : SS}
theorem FE.fr {μ μ' : MS} (e : g_fr μ' = g_fr μ) (f : Nat) : FE μ μ' f := by
  unfold FE
  rw [show m_key μ' = m_key μ from congrArg (fun x => x.1) e, show m_ph μ' = m_ph μ from congrArg (fun x => x.2.1) e, show m_chk μ' = m_chk μ from congrArg (fun x => x.2.2.1) e, show m_at μ' = m_at μ from congrArg (fun x => x.2.2.2.1) e, show m_cand μ' = m_cand μ from congrArg (fun x => x.2.2.2.2.1) e, show m_cc μ' = m_cc μ from congrArg (fun x => x.2.2.2.2.2.1) e, show m_mk μ' = m_mk μ from congrArg (fun x => x.2.2.2.2.2.2.1) e, show m_asked μ' = m_asked μ from congrArg (fun x => x.2.2.2.2.2.2.2.1) e, show m_first μ' = m_first μ from congrArg (fun x => x.2.2.2.2.2.2.2.2.1) e, show m_sum μ' = m_sum μ from congrArg (fun x => x.2.2.2.2.2.2.2.2.2.1) e]
  exact FE.rf μ f
theorem fr_fin {σ σ1 : SS} {k : Nat} {v : Int64} (h1 : s_opn σ1 = s_opn σ) (h2 : s_fin σ1 = s_fin σ) : fr12 (sFin k v σ1) ≤ fr12 σ := by
  refine frS_le (fun j hj => ?_) 12
  have e1 : s_fin (sFin k v σ1) = va_up (s_fin σ1) k true := rfl
  have e2 : s_opn (sFin k v σ1) = va_up (s_opn σ1) k false := rfl
  rw [e1, e2, h1, h2]
  by_cases e : j = k
  · rw [e]; exact Or.inr (va_up_self _ _ _)
  · rw [va_up_ne _ _ e, va_up_ne _ _ e]; exact hj
/-- a frame that ends well -/
theorem fin_ok (H : Wk P wk n h μ0 k μ σ) {m1 : MS} {σ1 : SS} {v : Int64} (e1 : g_pl m1 = g_pl μ) (e2 : g_od m1 = g_od μ) (e3 : g_se m1 = g_se μ) (e4 : g_fr m1 = g_fr μ) (ht : Trq m1 σ1) (hc : Cnq m1 σ1) (f1 : s_fin σ1 = s_fin σ) (f2 : s_opn σ1 = s_opn σ) (f3 : s_val σ1 = s_val σ) (f4 : s_ran σ1 = s_ran σ) (f5 : s_fl σ1 = s_fl σ) (hj : ∀ j, j ≠ k → m_trc m1 (12 * m_wkr μ + j) = m_trc μ (12 * m_wkr μ + j)) (hu : ∀ u, Hold h μ0 u → SlE μ m1 u ∧ (NotIn μ0 u → NotIn μ u → NotIn m1 u)) : OkS P wk h μ0 (dFin h v m1) k v (sFin k v σ1) := by
  obtain ⟨⟨⟨d1, d2, d3, d4, d5, d6, d7, d8⟩, c2, c3, c4', c5⟩, hP, h3, h4, h5, h6, h7⟩ := H
  have k1 : m_key m1 = m_key μ := congrArg (fun x => x.1) e4
  have k2 : m_hgt m1 = m_hgt μ := congrArg (fun x => x.2.2.2.2.2.2.2.2.2.2) e4
  have k3 : m_mk m1 = m_mk μ := congrArg (fun x => x.2.2.2.2.2.2.1) e4
  have s1 : m_st m1 = m_st μ := congrArg (fun x => x.2.2.2.1) e3
  have s2 : m_val m1 = m_val μ := congrArg (fun x => x.2.2.2.2) e3
  have s3 : m_thr m1 = m_thr μ := congrArg (fun x => x.1) e3
  have s4 : m_wkr m1 = m_wkr μ := congrArg (fun x => x.2.1) e3
  have s5 : m_ran m1 = m_ran μ := congrArg (fun x => x.2.2.1) e3
  have kk : m_key m1 h = k := by rw [k1]; exact h3
  have t1 : m_st (dFin h v m1) = va_up (m_st m1) k 2 := by rw [← kk]; rfl
  have t2 : m_val (dFin h v m1) = vp_updL (m_val m1) k v := by rw [← kk]; rfl
  have hfe : ∀ f, FE μ (dFin h v m1) f := fun f => (FE.fr e4 f).tr ⟨rfl, rfl, rfl, rfl, rfl, rfl, rfl, rfl, rfl, fun _ _ => rfl⟩
  have hpr : Pr h μ0 (dFin h v m1) := by
    obtain ⟨p1, p2, p3, p4, p5, p6⟩ := hP
    refine ⟨e1.trans p1, e2.trans p2, s4.trans p3, fun f hf => (p4 f hf).tr (hfe f), fun j hj1 => ?_, fun u hu1 => ?_⟩
    · have hjk : j ≠ k := fun e => h7 (e ▸ hj1)
      obtain ⟨a, b⟩ := p5 j hj1
      refine ⟨by rw [t1, va_up_ne _ _ hjk, s1]; exact a, ?_⟩
      have := hj j hjk
      rw [p3] at this
      exact Eq.trans this b
    · obtain ⟨a, b⟩ := p6 u hu1
      obtain ⟨a', b'⟩ := hu u hu1
      exact ⟨a.tr a', fun hn => b' hn (b hn)⟩
  refine ⟨⟨⟨d1.pl e1, ht, hc, ?_, s4.trans d5, s3.trans d6, (s5.trans d7).trans f4.symm, f5.trans d8⟩, ?_, h5.pr hpr, c4'.kept e2 (fun f hf => ?_), ?_⟩, hpr, by rw [t1, va_up_self], by rw [t2, pk_uLs]⟩
  · refine Stq.fin (μ := m1) ?_ t1 t2
    intro j hj9
    rw [s1, s2, f1, f2, f3]
    exact d4 j hj9
  · show m_hgt m1 - 1 = h
    rw [k2]; omega
  · show m_mk m1 f < 320
    rw [k3]; exact c4'.2.2.2 f hf
  · have := fr_fin (k := k) (v := v) f2 f1
    omega
theorem Cnq.tal {μ m1 : MS} {σ : SS} (H : Cnq μ σ) {i : Nat} (hi : i < 7) (h1 : m_cnt m1 = upd (m_cnt μ) i (m_cnt μ i + nI 1)) (h2 : m_circ m1 = m_circ μ) {σ1 : SS} (h3 : s_ta σ1 = upd (s_ta σ) i (s_ta σ i + nI 1)) : Cnq m1 σ1 := by
  refine ⟨fun j hj => ?_, ?_⟩
  · rw [h1, h3]
    by_cases e : j = i
    · subst e; rw [pk_us, pk_us, H.1 j hj]
    · rw [pk_un e, pk_un e]; exact H.1 j hj
  · rw [h2, h3, pk_un (by omega)]; exact H.2
/-- a trace that agrees -/
theorem hit_ok (hwk : wk < 2) (H : Wk P wk n h μ0 k μ σ) {p t : Nat} {T : tv} {Cs : List tv} (F : CF μ0 h μ p t T Cs) (hT : p = 2 → T.1 = k) : OkS P wk h μ0 (dHit h t μ) k T.2.2 (sFin k T.2.2 (if p = 1 then sTal 1 σ else sGive (wk * 12 + T.1) T (sTal 2 σ))) := by
  obtain ⟨f1, f2, f3, f4, f5⟩ := F
  have hw : m_wkr μ = wk := H.1.1.2.2.2.2.1
  have hk := H.k12
  have hkey := H.2.2.1
  have hcame : m_came μ t = T.2.2 := f4.2.2.2.2.2.2
  obtain ⟨tr1, tr2, tr3⟩ := H.1.1.2.1
  have hx : dHit h t μ = dFin h T.2.2 (u_mm μ (upd (m_trc μ) (12 * m_wkr μ + k) (nI t), m_cch μ, m_cached μ, upd (m_cnt μ) p (m_cnt μ p + nI 1), m_circ μ)) := by unfold dHit; rw [hcame, hkey, f2]
  rw [hx]
  refine fin_ok H rfl rfl rfl rfl ?_ ?_ (by split <;> rfl) (by split <;> rfl) (by split <;> rfl) (by split <;> rfl) (by split <;> rfl) (fun j hj => pk_un (by omega)) (fun u hu => ⟨SlE.sl rfl u, fun hn0 hn => ⟨fun i hi => ?_, hn.2⟩⟩)
  · rcases f1 with f1 | f1
    · rw [if_pos f1]
      have e : upd (m_trc μ) (12 * m_wkr μ + k) (nI t) = m_trc μ := by
        funext z
        by_cases hz : z = 12 * m_wkr μ + k
        · subst hz
          rw [pk_us, ← f3, ((H.1.2.2.1 h (by omega)).2.2.2.2.1 (f2.trans f1)).2, hkey]
        · rw [pk_un hz]
      rw [e]
      exact H.1.1.2.1.kept rfl rfl rfl rfl rfl rfl
    · rw [if_neg (by omega), hT f1]
      refine ⟨fun i hi => ?_, tr2, tr3⟩
      show SlO μ (upd (m_trc μ) (12 * m_wkr μ + k) (nI t) i) (va_up (s_tr σ) (wk * 12 + k) (some T) i)
      by_cases hz : i = 12 * m_wkr μ + k
      · rw [show i = wk * 12 + k by omega, show 12 * m_wkr μ + k = wk * 12 + k by omega, pk_us, va_up_self]
        exact Or.inr ⟨t, T, rfl, rfl, f4⟩
      · rw [pk_un hz, va_up_ne _ _ (by omega)]
        exact tr1 i hi
  · rcases f1 with f1 | f1
    · subst f1
      rw [if_pos rfl]
      exact H.1.1.2.2.1.tal (i := 1) (m1 := u_mm μ (upd (m_trc μ) (12 * m_wkr μ + k) (nI t), m_cch μ, m_cached μ, upd (m_cnt μ) 1 (m_cnt μ 1 + nI 1), m_circ μ)) (σ1 := sTal 1 σ) (by omega) rfl rfl rfl
    · subst f1
      rw [if_neg (by omega)]
      exact H.1.1.2.2.1.tal (i := 2) (m1 := u_mm μ (upd (m_trc μ) (12 * m_wkr μ + k) (nI t), m_cch μ, m_cached μ, upd (m_cnt μ) 2 (m_cnt μ 2 + nI 1), m_circ μ)) (σ1 := sGive (wk * 12 + T.1) T (sTal 2 σ)) (by omega) rfl rfl rfl
  · show upd (m_trc μ) (12 * m_wkr μ + k) (nI t) i ≠ nI u
    by_cases hz : i = 12 * m_wkr μ + k
    · rw [hz, pk_us]
      intro e
      have htu : t = u := (nI_eq (by have := f4.1; omega) (by have := hu.1; omega)).mp e
      rcases f1 with f1 | f1
      · refine hn.1 (12 * m_wkr μ + k) (by omega) ?_
        rw [← htu, ← f3, ((H.1.2.2.1 h (by omega)).2.2.2.2.1 (f2.trans f1)).2, hkey]
      · obtain ⟨b1, -, b3⟩ := f5 f1
        exact (b3 u hu hn0).1 (by rw [b1]; exact htu.symm)
    · rw [pk_un hz]; exact hn.1 i hi
/-- the turn that hits -/
theorem step_hit {p t : Nat} {T : tv} {Cs : List tv} (hh : m_hgt μ = h + 1) (F : CF μ0 h μ p t T Cs) (ha : m_at μ h = T.2.1.length) (hs : Step μ μ') : μ' = dHit h t μ := by
  have e : m_hgt μ - 1 = h := by omega
  unfold Step at hs
  rw [e] at hs
  obtain ⟨f1, f2, f3, f4, -⟩ := F
  obtain ⟨t1, t2, t3, t4, t5, t6, t7⟩ := f4
  rcases hs with ⟨h3, -⟩ | ⟨-, hs⟩
  · omega
  · rcases hs with ⟨h1, -⟩ | ⟨t', ht', h1, hs⟩
    · rw [f3] at h1
      exact absurd h1 (nI_ne_m1 (by omega))
    · rw [f3] at h1
      have et : t = t' := (nI_eq (by omega) (by omega)).mp h1
      subst et
      rcases hs with ⟨-, rfl⟩ | ⟨h2, -⟩
      · rfl
      · omega
end FIN
