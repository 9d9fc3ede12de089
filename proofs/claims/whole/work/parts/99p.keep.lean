theorem Rch.mono {Z1 Z2 : MS → Prop} (h : ∀ μ, Z1 μ → Z2 μ) {μ : MS} (H : Rch Z1 μ) : Rch Z2 μ := fun X hX => H X (fun ν => ⟨fun a b c => (hX ν).1 a b (h ν c), (hX ν).2⟩)
/-- the state kept aside -/
def dKeep (μ : MS) : MS := u_od μ (fun i => if i < 24 then m_trc μ i else m_otrc μ i, fun i => if i < 16 then m_cch μ i else m_occh μ i, m_cached μ, fun i => if i < 7 then m_cnt μ i else m_ocnt μ i, m_circ μ)
theorem RQ.keep {β : BS} {μ : MS} (h : RQ β μ) : Odq (dKeep μ) := by
  obtain ⟨h1, ⟨t1, t2, t3⟩, h3, h4⟩ := h
  refine ⟨fun i hi => ?_, (show m_cached μ ≤ 17 by omega), fun i hi => ?_, h4.2.2⟩
  · show sl1 (if i < 24 then m_trc μ i else m_otrc μ i)
    rw [if_pos hi]; exact (t1 i hi).sl1
  · have hi' : i < m_cached μ := hi
    show (if i < 16 then m_cch μ i else m_occh μ i) < 320
    rw [if_pos (by omega)]
    obtain ⟨T, -, hT⟩ := t3.lt hi'
    exact hT.1
theorem sess_b {β : BS} {μ : MS} {wk k : Nat} (hp : p_ok (b_P β)) (hwk : wk < 2) (hk : k < 12) (hQ : RQ β μ) (ho : Odq μ) (h0 : m_thr μ = 0) : ∀ st : Nat → Nat, (∀ j, j < 12 → st j = 0) → Rch (fun μ' => ∃ st, ZZ (b_P β) wk k (dInit wk st μ) (b_0 β) μ') (dAsk k (dInit wk st μ)) :=
  fun st hst => Rch.mono (fun _ h => ⟨st, h⟩) (sess_rch hp hwk hk hQ.1 hQ.2.1 hQ.2.2.1 ho h0 hst)
theorem rq_stale {β : BS} {μ μ6 μf : MS} {wk k : Nat} {st : Nat → Nat} (hQ : RQ β μ) (Z : ZZ (b_P β) wk k (dInit wk st (dKeep μ)) (b_0 β) μ6) (h1 : g_pl μf = g_pl (dClose μ6)) (h2 : g_sl μf = g_sl (dClose μ6)) (h3 : m_trc μf = fun i => if i < 24 then m_otrc (dClose μ6) i else m_trc (dClose μ6) i) (h4 : m_cch μf = fun i => if i < 16 then m_occh (dClose μ6) i else m_cch (dClose μ6) i) (h5 : m_cached μf = m_ocached (dClose μ6)) (h6 : m_cnt μf = fun i => if i < 7 then m_ocnt (dClose μ6) i else m_cnt (dClose μ6) i) (h7 : m_circ μf = m_ocirc (dClose μ6)) (h8 : m_ocached μf = 0) (h9 : ∀ i, i < 24 → m_otrc μf i = -1) (h10 : m_mk μf = m_mk (dClose μ6)) : RQ β μf ∧ m_thr μ6 = (if bFl wk k β = 0 then 0 else bFl wk k β + 1) ∧ m_ran μ6 = s_ran (bSess wk k β).2 := by
  obtain ⟨z1, z2, z3, z4, z5, z6, z7, z8, z9, z10⟩ := sess_end Z
  obtain ⟨q1, ⟨t1, t2, t3⟩, q3, q4⟩ := hQ
  have o1 : m_otrc (dClose μ6) = fun i => if i < 24 then m_trc μ i else m_otrc μ i := congrArg (fun x => x.1) z5
  have o2 : m_occh (dClose μ6) = fun i => if i < 16 then m_cch μ i else m_occh μ i := congrArg (fun x => x.2.1) z5
  have o3 : m_ocached (dClose μ6) = m_cached μ := congrArg (fun x => x.2.2.1) z5
  have o4 : m_ocnt (dClose μ6) = fun i => if i < 7 then m_cnt μ i else m_ocnt μ i := congrArg (fun x => x.2.2.2.1) z5
  have o5 : m_ocirc (dClose μ6) = m_circ μ := congrArg (fun x => x.2.2.2.2) z5
  have hsl : ∀ t, Hold 0 (dKeep μ) t → SlE μ μf t := fun t ht => (SlE.tr (μ1 := dKeep μ) (SlE.sl rfl t) (z10 t ht)).tr (SlE.sl h2 t)
  refine ⟨⟨(q1.pl (μ' := μf) (h1.trans z4)), ⟨fun i hi => ?_, ?_, ?_⟩, ⟨fun j hj => ?_, ?_⟩, h9, h8, fun f hf => by rw [h10]; exact z6 f hf⟩, z7, z8⟩
  · have e : m_trc μf i = m_trc μ i := by rw [h3]; show (if i < 24 then m_otrc (dClose μ6) i else m_trc (dClose μ6) i) = _; rw [if_pos hi, o1]; exact if_pos hi
    rw [e]
    refine (t1 i hi).kept (fun t ht ht3 => hsl t ⟨ht3, Or.inl ⟨i, hi, ?_⟩⟩)
    show (if i < 24 then m_trc μ i else m_otrc μ i) = nI t
    rw [if_pos hi]; exact ht
  · rw [h5, o3]; exact t2
  · rw [h5, o3]
    refine ⟨t3.1, fun i T hT => ?_⟩
    have hi : i < m_cached μ := by
      rw [← t3.1]
      rcases Nat.lt_or_ge i (s_cl (b_0 β)).length with h | h
      · exact h
      · rw [List.getElem?_eq_none h] at hT; cases hT
    have e : m_cch μf i = m_cch μ i := by rw [h4]; show (if i < 16 then m_occh (dClose μ6) i else m_cch (dClose μ6) i) = _; rw [if_pos (by omega), o2]; exact if_pos (by omega)
    rw [e]
    have h9 := t3.2 i T hT
    refine h9.kept (hsl _ ⟨h9.1, Or.inr (Or.inl ⟨i, hi, ?_⟩)⟩)
    show (if i < 16 then m_cch μ i else m_occh μ i) = m_cch μ i
    rw [if_pos (by omega)]
  · have e : m_cnt μf j = m_cnt μ j := by rw [h6]; show (if j < 7 then m_ocnt (dClose μ6) j else m_cnt (dClose μ6) j) = _; rw [if_pos hj, o4]; exact if_pos hj
    rw [e]; exact q3.1 j hj
  · rw [h7, o5]; exact q3.2
def LpO (μ7 μl : MS) (i : Nat) : Prop := g_pl μl = g_pl μ7 ∧ g_sl μl = g_sl μ7 ∧ g_mm μl = g_mm μ7 ∧ g_se μl = g_se μ7 ∧ g_fr μl = g_fr μ7 ∧ m_ocached μl = 0 ∧ ∀ j, j < i → m_otrc μl j = -1
