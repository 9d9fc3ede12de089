section RUN2
variable {Z X : MS → Prop} {P : PD} {wk n h k : Nat} {μ0 μ μ' : MS} {σ σ' : SS}
def runW (wk k : Nat) (R : Int64 × XS) : Int64 × SS := if s_fl R.2.2 = 0 then (R.1, sFin k R.1 (sApp (k, R.2.1, R.1) (sGive (wk * 12 + k) (k, R.2.1, R.1) (sTal 3 R.2.2)))) else (0, sTal 4 R.2.2)
theorem run_W (hp : p_ok P) (hk : k < 12) (h2 : p_kd P k = 2) (rec : RX) (fi0 : Int64) (σ : SS) : runV rec P wk k σ = runW wk k (runM rec P k 5 0 fi0 (if p_rl P k = 1 then 1 else 0) ([], sRan σ)) := by
  obtain ⟨e1, e2⟩ := rule_runM (rec := rec) hp hk h2 fi0 ([], sRan σ)
  have e0 : runV rec P wk k σ = runW wk k (ruleV rec P k ([], sRan σ)) := rfl
  rw [e0]
  by_cases hf : s_fl (runM rec P k 5 0 fi0 (if p_rl P k = 1 then 1 else 0) ([], sRan σ)).2.2 = 0
  · rw [e2 hf]
  · unfold runW
    rw [e1, if_neg hf, if_neg hf]
/-- a run that ends well -/
theorem end_ok (hwk : wk < 2) (H : Wk P wk n h μ0 k μ σ) {t : Nat} {L : List (Nat × Int64)} {a : Nat} {fi su v : Int64} (R : RF h μ t L a fi su) {x : Nat → Nat} {c : Nat} (hx : lstN x c = (lstN (m_cch μ) (m_cached μ) ++ [m_mk μ h]).drop (m_cached μ + 1 - 16)) : OkS P wk h μ0 (dEnd h x c v μ) k v (sFin k v (sApp (k, L, v) (sGive (wk * 12 + k) (k, L, v) (sTal 3 σ)))) := by
  obtain ⟨r1, r2, r3, r4, r5, r6, r7, r8, r9, r10, r11, r12, r13⟩ := R
  have hw : m_wkr μ = wk := H.1.1.2.2.2.2.1
  have hk := H.k12
  have hkey := H.2.2.1
  obtain ⟨tr1, tr2, tr3⟩ := H.1.1.2.1
  rw [r2] at hx
  have hsl : ∀ u, u ≠ t → SlE μ (dEnd1 h x c v μ) u := fun u hu => ⟨rfl, rfl, (show vp_updL (m_came μ) (m_mk μ h) v u = m_came μ u from pk_uLn (by rw [r2]; exact hu)), fun _ _ => ⟨rfl, rfl⟩⟩
  have hT : SlT (dEnd1 h x c v μ) t (k, L, v) := ⟨r3, r6.trans hkey, hk, r7, r8, r9, (show vp_updL (m_came μ) (m_mk μ h) v t = v from by rw [r2]; exact pk_uLs)⟩
  have hlen : c = m_cached μ + 1 - (m_cached μ + 1 - 16) := by
    have := congrArg List.length hx
    rw [lstN_len, List.length_drop, List.length_append, lstN_len] at this
    exact this
  have hxi : ∀ i, i < c → (lstN (m_cch μ) (m_cached μ) ++ [t])[m_cached μ - 15 + i]? = some (x i) := by
    intro i hi
    rw [← lstN_at hi, hx, List.getElem?_drop, show m_cached μ + 1 - 16 = m_cached μ - 15 by omega]
  have hxt : ∀ i, i < c → (m_cached μ - 15 + i < m_cached μ ∧ x i = m_cch μ (m_cached μ - 15 + i)) ∨ (m_cached μ - 15 + i = m_cached μ ∧ x i = t) := by
    intro i hi
    have h1 := hxi i hi
    rcases Nat.lt_or_ge (m_cached μ - 15 + i) (m_cached μ) with h2 | h2
    · rw [List.getElem?_append_left (by rw [lstN_len]; exact h2), lstN_at h2] at h1
      injection h1 with h1
      exact Or.inl ⟨h2, h1.symm⟩
    · have h3 : m_cached μ - 15 + i = m_cached μ := by omega
      rw [h3, List.getElem?_append_right (by rw [lstN_len]; exact Nat.le_refl _), lstN_len, Nat.sub_self] at h1
      injection h1 with h1
      exact Or.inr ⟨h3, h1.symm⟩
  unfold dEnd
  refine fin_ok H rfl rfl rfl rfl ⟨fun i hi => ?_, ?_, ?_, fun i T hTi => ?_⟩ ?_ rfl rfl rfl rfl rfl (fun j hj => ?_) (fun u hu => ?_)
  · show SlO (dEnd1 h x c v μ) (upd (m_trc μ) (12 * m_wkr μ + m_key μ h) (nI (m_mk μ h)) i) (va_up (s_tr σ) (wk * 12 + k) (some (k, L, v)) i)
    by_cases hz : i = wk * 12 + k
    · rw [hz, hkey, r2, show 12 * m_wkr μ + k = wk * 12 + k by omega, pk_us, va_up_self]
      exact Or.inr ⟨t, _, rfl, rfl, hT⟩
    · rw [pk_un (by omega), va_up_ne _ _ hz]
      exact (tr1 i hi).kept (fun u hu _ => hsl u (fun e => r4.1 i hi (e ▸ hu)))
  · show c ≤ 16
    omega
  · show ((s_cl σ).drop ((s_cl σ).length - 15) ++ [(k, L, v)]).length = c
    rw [List.length_append, List.length_drop, tr3.1]
    simp; omega
  · show SlT (dEnd1 h x c v μ) (x i) T
    have hTi' : ((s_cl σ).drop ((s_cl σ).length - 15) ++ [(k, L, v)])[i]? = some T := hTi
    rw [tr3.1] at hTi'
    have hi : i < c := by
      rcases Nat.lt_or_ge i c with h9 | h9
      · exact h9
      · rw [List.getElem?_eq_none (by rw [List.length_append, List.length_drop, tr3.1]; simp; omega)] at hTi'; cases hTi'
    rcases hxt i hi with ⟨h1, h2⟩ | ⟨h1, h2⟩
    · rw [List.getElem?_append_left (by rw [List.length_drop, tr3.1]; omega), List.getElem?_drop] at hTi'
      rw [h2]
      exact (tr3.2 _ T hTi').kept (hsl _ (r4.2 _ h1))
    · rw [List.getElem?_append_right (by rw [List.length_drop, tr3.1]; omega), List.length_drop, tr3.1, show i - (m_cached μ - (m_cached μ - 15)) = 0 by omega] at hTi'
      injection hTi' with hTi'
      rw [h2, ← hTi']
      exact hT
  · exact H.1.1.2.2.1.tal (i := 3) (m1 := dEnd1 h x c v μ) (σ1 := sApp (k, L, v) (sGive (wk * 12 + k) (k, L, v) (sTal 3 σ))) (by omega) rfl rfl rfl
  · show upd (m_trc μ) (12 * m_wkr μ + m_key μ h) (nI (m_mk μ h)) (12 * m_wkr μ + j) = _
    exact pk_un (by omega)
  · have hut : u ≠ t := fun e => r5 (by
      have := hu.to H.2.2.2.2.1.cc H.2.1.2.1 H.2.1.2.2.2.1
      rw [e] at this; exact this)
    refine ⟨hsl u hut, fun _ hn => ⟨fun i hi => ?_, fun i hi => ?_⟩⟩
    · show upd (m_trc μ) (12 * m_wkr μ + m_key μ h) (nI (m_mk μ h)) i ≠ nI u
      by_cases hz : i = 12 * m_wkr μ + m_key μ h
      · rw [hz, pk_us, r2]
        exact fun e => hut ((nI_eq (by omega) (by have := hu.1; omega)).mp e).symm
      · rw [pk_un hz]; exact hn.1 i hi
    · show x i ≠ u
      rcases hxt i hi with ⟨h1, h2⟩ | ⟨h1, h2⟩
      · rw [h2]; exact hn.2 _ h1
      · rw [h2]; exact fun e => hut e.symm
theorem Wk.iok3 (hp : p_ok P) (hwk : wk < 2) (H : Wk P wk n h μ0 k μ σ) {t : Nat} {L : List (Nat × Int64)} {a : Nat} {fi su : Int64} (R : RF h μ t L a fi su) (hat : m_at μ h < 2) (hr : rch (p_rl P k) a) : iOK μ := by
  obtain ⟨r1, r2, r3, r4, r5, r6, r7, r8, r9, r10, r11, r12, r13⟩ := R
  obtain ⟨l1, l2⟩ := H.rl hp
  have hk := H.k12
  have hkey := H.2.2.1
  have hh := H.1.2.1
  have h5 := H.1.2.2.2.2
  have e : m_hgt μ - 1 = h := by omega
  have ha : a ≤ 4 := by
    obtain ⟨q1, q2, q3⟩ := hr
    by_cases c1 : p_rl P k < 2 ∨ p_rl P k = 6
    · have := q1 c1; omega
    · by_cases c2 : p_rl P k = 7
      · exact q2 c2
      · have := q3 c1 c2; omega
  unfold iOK
  rw [e]
  refine ⟨by omega, by rw [H.1.1.2.2.2.2.2.1]; omega, by omega, fun _ => ⟨⟨by omega, by omega, by omega, by rw [r2]; exact r3, by omega, H.1.1.2.2.2.2.2.1, by rw [H.1.1.2.2.2.2.1]; exact hwk, H.1.1.2.1.2.1, by omega⟩, ?_, by omega, hat, ?_, ?_, ?_⟩, fun h3 => absurd r1 h3⟩
  · rw [l1, r10]; exact hr.1
  · rw [r2, r7]; omega
  · rw [r2, r7]
    intro j hj
    obtain ⟨b1, b2, -⟩ := r9 j _ (List.getElem?_eq_getElem hj)
    rw [b1]; exact b2
  · rw [want_eq hp H r10 r12 hr.1]
    rcases want_or hp hk H.2.2.2.2.2.1 fi hr with h9 | ⟨q, hq, h9, -⟩
    · exact Or.inl h9
    · exact Or.inr ⟨q, hq, h9, H.1.st3 hq, H.1.so3 hp hq⟩
theorem Wk.cnt (H : Wk P wk n h μ0 k μ σ) : Wk P wk n h μ0 k (dCnt 0 μ) (sTal 0 σ) := by
  obtain ⟨⟨⟨d1, d2, d3, d4, d5, d6, d7, d8⟩, c2, c3, c4', c5⟩, hP, h3, h4, h5⟩ := H
  have hfr : fr12 (sTal 0 σ) = fr12 σ := frS_same rfl rfl 12
  exact ⟨⟨⟨d1, d2, d3.tal (i := 0) (m1 := dCnt 0 μ) (σ1 := sTal 0 σ) (by omega) rfl rfl rfl, d4, d5, d6, d7, d8⟩, c2, c3, c4', by rw [hfr]; exact c5⟩, hP.tr h5.1.cc (Pr.easy rfl rfl rfl (fun f _ => FE.rf _ f) (fun _ h => h) rfl rfl rfl rfl), h3, by rw [hfr]; exact h4, h5⟩
/-- an answer taken: known key -/
theorem take_known (H : Wk P wk n h μ0 k μ σ) {t : Nat} {L : List (Nat × Int64)} {a : Nat} {fi su v : Int64} (R : RF h μ t L a fi su) : Wk P wk n h μ0 k (dTake h v (dAt h 0 μ)) σ ∧ RF h (dTake h v (dAt h 0 μ)) t L (a + 1) (if a = 0 then v else fi) (dAcc (m_rule μ (m_key μ h)) a su v) ∧ m_at (dTake h v (dAt h 0 μ)) h = 0 := by
  obtain ⟨r1, r2, r3, r4, r5, r6, r7, r8, r9, r10, r11, r12, r13⟩ := (id R)
  have hfst : ∀ f, f ≠ h → dFst (m_asked μ h) h v (m_first μ) f = m_first μ f := fun f hf => by
    unfold dFst; split
    · exact pk_uLn hf
    · rfl
  have hfe : ∀ f, f < h → FE μ (dTake h v (dAt h 0 μ)) f := fun f hf => ⟨rfl, rfl, rfl, va_up_ne _ _ (by omega), rfl, rfl, va_up_ne _ _ (by omega), hfst f (by omega), pk_uLn (by omega), fun _ _ => rfl⟩
  refine ⟨H.mod3 r4 r5 rfl rfl rfl rfl rfl rfl rfl rfl (fun u _ => SlE.sl rfl u) hfe rfl r1 r13 H.1.2.2.2.1.2.2.2 rfl rfl rfl rfl rfl rfl rfl H.1.1.2.2.2.2.2.2.1, ⟨r1, r2, r3, r4, fun hb => r5 (Hold.back (μ' := dTake h v (dAt h 0 μ)) (fun f hf => H.1.2.2.1.cc f (by omega)) rfl hfe hb), r6, r7, r8, r9, ?_, ?_, ?_, r13⟩, va_up_self _ _ _⟩
  · show va_up (m_asked μ) h (m_asked μ h + 1) h = a + 1
    rw [va_up_self, r10]
  · show vp_updL (m_sum μ) h (dAcc (m_rule μ (m_key μ h)) (m_asked μ h) (m_sum μ h) v) h = _
    rw [pk_uLs, r10, r11]
  · show dFst (m_asked μ h) h v (m_first μ) h = _
    unfold dFst
    rw [r10]
    split
    · exact pk_uLs
    · exact r12
/-- a new key noted -/
theorem note_new (H : Wk P wk n h μ0 k μ σ) {t q : Nat} {L : List (Nat × Int64)} {a : Nat} {fi su v : Int64} (R : RF h μ t L a fi su) (hl : L.length < 3) (hq : q < 12) : Wk P wk n h μ0 k (dNote t q v μ) σ ∧ RF h (dNote t q v μ) t (L ++ [(q, v)]) a fi su := by
  obtain ⟨r1, r2, r3, r4, r5, r6, r7, r8, r9, r10, r11, r12, r13⟩ := (id R)
  have hsl : ∀ u, u ≠ t → SlE μ (dNote t q v μ) u := fun u hu => ⟨va_up_ne _ _ hu, rfl, rfl, fun i hi => ⟨va_up_ne _ _ (by rw [r7]; omega), pk_uLn (by rw [r7]; omega)⟩⟩
  refine ⟨H.mod3 r4 r5 rfl rfl rfl rfl rfl rfl rfl rfl hsl (fun f _ => FE.fr rfl f) rfl r1 r13 H.1.2.2.2.1.2.2.2 rfl rfl rfl rfl rfl rfl rfl H.1.1.2.2.2.2.2.2.1, ⟨r1, r2, r3, r4, r5, r6, ?_, ?_, fun i x hx => ?_, r10, r11, r12, r13⟩⟩
  · show va_up (m_size μ) t (m_size μ t + 1) t = _
    rw [va_up_self, r7, List.length_append]; rfl
  · rw [List.length_append]; simp; omega
  · show va_up (m_keys μ) (12 * t + m_size μ t) q (12 * t + i) = x.1 ∧ x.1 < 12 ∧ vp_updL (m_got μ) (12 * t + m_size μ t) v (12 * t + i) = x.2
    rw [r7]
    rcases Nat.lt_or_ge i L.length with h1 | h1
    · rw [List.getElem?_append_left h1] at hx
      rw [va_up_ne _ _ (by omega), pk_uLn (by omega)]
      exact r9 i x hx
    · have hi := idx_lt hx
      rw [List.length_append] at hi
      simp at hi
      have e : i = L.length := by omega
      subst e
      rw [List.getElem?_append_right (Nat.le_refl _), Nat.sub_self] at hx
      injection hx with hx
      rw [← hx, va_up_self, pk_uLs]
      exact ⟨rfl, hq, rfl⟩
end RUN2
