section RUN
variable {Z X : MS → Prop} {P : PD} {wk n h k : Nat} {μ0 μ μ' : MS} {σ σ' : SS}
/-- frame h runs: slot t, noted L, a asked, first, sum -/
def RF (h : Nat) (μ : MS) (t : Nat) (L : List (Nat × Int64)) (a : Nat) (fi su : Int64) : Prop := m_ph μ h = 3 ∧ m_mk μ h = t ∧ t < 320 ∧ NotIn μ t ∧ ¬ Hold h μ t ∧ m_own μ t = m_key μ h ∧ m_size μ t = L.length ∧ L.length ≤ 3 ∧ (∀ (i : Nat) (q : Nat × Int64), L[i]? = some q → m_keys μ (12 * t + i) = q.1 ∧ q.1 < 12 ∧ m_got μ (12 * t + i) = q.2) ∧ m_asked μ h = a ∧ m_sum μ h = su ∧ m_first μ h = fi ∧ m_cc μ h = 0
theorem idx_lt {L : List (Nat × Int64)} {i : Nat} {q : Nat × Int64} (h : L[i]? = some q) : i < L.length := by
  rcases Nat.lt_or_ge i L.length with h1 | h1
  · exact h1
  · rw [List.getElem?_eq_none h1] at h; cases h
theorem RF.next {t : Nat} {L : List (Nat × Int64)} {a : Nat} {fi su : Int64} (hL : Low (h + 1) μ) (R : RF h μ t L a fi su) (q : Pr (h + 1) μ μ') : RF h μ' t L a fi su := by
  obtain ⟨r1, r2, r3, r4, r5, r6, r7, r8, r9, r10, r11, r12, r13⟩ := R
  obtain ⟨a1, a2, a3, a4, a5, a6, a7, a8, a9, a10⟩ := q.2.2.2.1 h (by omega)
  have hH : Hold (h + 1) μ t := ⟨r3, Or.inr (Or.inr ⟨h, by omega, Or.inr (Or.inl ⟨by omega, r2⟩)⟩)⟩
  obtain ⟨⟨e1, e2, e3, e4⟩, hn⟩ := q.2.2.2.2.2 t hH
  refine ⟨a2.trans r1, a6.trans r2, r3, hn r4, fun hb => r5 (hb.back (fun f hf => hL.cc f (by omega)) q.2.1 (fun f hf => q.2.2.2.1 f (by omega))), ?_, e1.trans r7, r8, fun i x hx => ?_, a7.trans r10, a9.trans r11, a8.trans r12, a5.trans r13⟩
  · rw [e2, a1]; exact r6
  · have := idx_lt hx
    obtain ⟨b1, b2, b3⟩ := r9 i x hx
    exact ⟨(e4 i (by omega)).1.trans b1, b2, (e4 i (by omega)).2.trans b3⟩
/-- a change of the running frame and its slot alone -/
theorem Wk.mod3 (H : Wk P wk n h μ0 k μ σ) {t : Nat} (hn : NotIn μ t) (hh : ¬ Hold h μ t) (e1 : g_pl μ' = g_pl μ) (e2 : g_od μ' = g_od μ) (e3 : g_mm μ' = g_mm μ) (e4 : m_thr μ' = m_thr μ) (e5 : m_wkr μ' = m_wkr μ) (e6 : m_st μ' = m_st μ) (e7 : m_val μ' = m_val μ) (e8 : m_hgt μ' = m_hgt μ) (hsl : ∀ u, u ≠ t → SlE μ μ' u) (hfe : ∀ f, f < h → FE μ μ' f) (hkey : m_key μ' h = m_key μ h) (hph : m_ph μ' h = 3) (hcc : m_cc μ' h = 0) (hmk : ∀ f, f < 13 → m_mk μ' f < 320) (f1 : s_tr σ' = s_tr σ) (f2 : s_cl σ' = s_cl σ) (f3 : s_ta σ' = s_ta σ) (f4 : s_fin σ' = s_fin σ) (f5 : s_opn σ' = s_opn σ) (f6 : s_val σ' = s_val σ) (f7 : s_fl σ' = s_fl σ) (f8 : m_ran μ' = s_ran σ') : Wk P wk n h μ0 k μ' σ' := by
  obtain ⟨⟨⟨d1, d2, d3, d4, d5, d6, d7, d8⟩, c2, c3, c4', c5⟩, hP, h3, h4, h5⟩ := H
  have g1 : m_trc μ' = m_trc μ := congrArg (fun x => x.1) e3
  have g2 : m_cch μ' = m_cch μ := congrArg (fun x => x.2.1) e3
  have g3 : m_cached μ' = m_cached μ := congrArg (fun x => x.2.2.1) e3
  have g4 : m_cnt μ' = m_cnt μ := congrArg (fun x => x.2.2.2.1) e3
  have g5 : m_circ μ' = m_circ μ := congrArg (fun x => x.2.2.2.2) e3
  have hfr : fr12 σ' = fr12 σ := frS_same f5 f4 12
  have hPr : Pr h μ μ' := ⟨e1, e2, e5, hfe, fun j hj => ⟨by rw [e6]; exact hj, by rw [g1]⟩, fun u hu => ⟨hsl u (fun e => hh (e ▸ hu)), fun hni => by unfold NotIn; rw [g1, g2, g3]; exact hni⟩⟩
  have hLh : Low h μ' := (c3.mono (by omega)).pr hPr
  refine ⟨⟨⟨d1.pl e1, ?_, ?_, ?_, e5.trans d5, e4.trans d6, f8, f7.trans d8⟩, e8.trans c2, fun f hf => ?_, c4'.kept e2 hmk, by rw [hfr]; exact c5⟩, hP.tr h5.1.cc hPr, hkey.trans h3, by rw [hfr]; exact h4, h5⟩
  · unfold Trq
    rw [g1, g2, g3, f1, f2]
    refine ⟨fun i hi => (d2.1 i hi).kept (fun u hu _ => hsl u (fun e => hn.1 i hi (e ▸ hu))), d2.2.1, d2.2.2.kept (fun i hi _ => hsl _ (fun e => hn.2 i hi e))⟩
  · unfold Cnq
    rw [g4, g5, f3]; exact d3
  · unfold Stq
    rw [e6, e7, f4, f5, f6]; exact d4
  · by_cases e : f = h
    · subst e
      obtain ⟨k1, k2, -⟩ := c3 f (by omega)
      rw [hkey, e6, hph, hcc]
      exact ⟨k1, k2, by omega, by omega, fun h => by omega, fun i hi => by omega⟩
    · exact hLh f (by omega)
theorem want_eq (hp : p_ok P) (H : Wk P wk n h μ0 k μ σ) {a : Nat} {fi : Int64} (ha : m_asked μ h = a) (hf : m_first μ h = fi) (ha3 : (p_rl P k < 2 ∨ p_rl P k = 6) → a ≤ 3) : dWant μ h = wantI P k a fi := by
  obtain ⟨r1, r2⟩ := H.rl hp
  have hk := H.k12
  have hkey := H.2.2.1
  obtain ⟨-, hpar⟩ := (H.1.1.1 k hk).2.2 H.2.2.2.2.2.1
  unfold dWant wantI
  rw [r1, ha, hkey]
  by_cases c1 : p_rl P k < 2 ∨ p_rl P k = 6
  · rw [if_pos c1, if_pos c1]
    by_cases c2 : a = 3
    · rw [if_pos c2, if_pos c2]
    · rw [if_neg c2, if_neg c2]; exact hpar a (by have := ha3 c1; omega)
  · rw [if_neg c1, if_neg c1]
    by_cases c2 : a = 0
    · rw [if_pos c2, if_pos c2]; exact hpar 0 (by omega)
    · rw [if_neg c2, if_neg c2, hf, hpar 1 (by omega), hpar 2 (by omega)]
theorem go1_0 (h0 : m_at μ h = 0) : dGo1 h μ = dAt h 1 (dCnt 0 μ) := by unfold dGo1; rw [if_pos h0]
theorem go1_1 (h1 : m_at μ h = 1) : dGo1 h μ = μ := by
  unfold dGo1
  rw [if_neg (by omega)]
  unfold dAt
  rw [vu_same _ _ h1]
  rfl
theorem step_run {t : Nat} {L : List (Nat × Int64)} {a q : Nat} {fi su : Int64} (hh : m_hgt μ = h + 1) (R : RF h μ t L a fi su) (hq : q < 12) (hw : dWant μ h = nI q) (hs : Step μ μ') : (dAskB q (dGo1 h μ) = false ∧ μ' = dAsk q (dGo1 h μ)) ∨ (dAskB q (dGo1 h μ) = true ∧ (∃ e ∈ L, e.1 = q) ∧ μ' = dTake h (m_val (dAsk q (dGo1 h μ)) q) (dAt h 0 (dAsk q (dGo1 h μ)))) ∨ (dAskB q (dGo1 h μ) = true ∧ (∀ e ∈ L, e.1 ≠ q) ∧ μ' = dTake h (m_val (dAsk q (dGo1 h μ)) q) (dNote t q (m_val (dAsk q (dGo1 h μ)) q) (dAt h 0 (dAsk q (dGo1 h μ))))) := by
  have e : m_hgt μ - 1 = h := by omega
  unfold Step at hs
  rw [e] at hs
  obtain ⟨r1, r2, r3, r4, r5, r6, r7, r8, r9, r10, r11, r12, r13⟩ := R
  have hkn : kn μ t q L.length ↔ ∃ x ∈ L, x.1 = q := by
    constructor
    · rintro ⟨j, hj, hx⟩
      have hg : L[j]? = some L[j] := List.getElem?_eq_getElem hj
      exact ⟨L[j], List.getElem_mem hj, by rw [← (r9 j _ hg).1]; exact hx⟩
    · rintro ⟨x, hx, rfl⟩
      obtain ⟨j, hj, rfl⟩ := List.getElem_of_mem hx
      exact ⟨j, hj, (r9 j _ (List.getElem?_eq_getElem hj)).1⟩
  rcases hs with ⟨-, hs⟩ | ⟨h3, -⟩
  · rcases hs with ⟨h1, -⟩ | ⟨h1, -⟩ | ⟨k', hk', h1, hs⟩
    · rw [hw] at h1; exact absurd h1 (nI_ne_m1 (by omega))
    · rw [hw] at h1; exact absurd h1 (nI_ne_m1 (by omega))
    · rw [hw] at h1
      have ek : q = k' := (nI_eq (by omega) (by omega)).mp h1
      subst ek
      rw [r2, r7, hkn] at hs
      rcases hs with hs | hs | ⟨hs1, hs2, hs3⟩
      · exact Or.inl hs
      · exact Or.inr (Or.inl hs)
      · exact Or.inr (Or.inr ⟨hs1, fun x hx e => hs2 ⟨x, hx, e⟩, hs3⟩)
  · exact absurd r1 h3
/-- how far a rule may have asked -/
def rch (r a : Nat) : Prop := ((r < 2 ∨ r = 6) → a ≤ 3) ∧ (r = 7 → a ≤ 4) ∧ (¬ (r < 2 ∨ r = 6) → r ≠ 7 → a ≤ 2)
theorem want_or (hp : p_ok P) (hk : k < 12) (h2 : p_kd P k = 2) {a : Nat} (fi : Int64) (hr : rch (p_rl P k) a) : wantI P k a fi = -1 ∨ (∃ q, q < 12 ∧ wantI P k a fi = nI q ∧ rch (p_rl P k) (a + 1) ∧ (2 < a → p_rl P k = 7) ∧ (p_rl P k = 7 → 0 < a → q = p_pt P k 1)) := by
  obtain ⟨a1, a2, a3, a4, a5⟩ := (hp k hk).2 h2
  obtain ⟨r1, r2, r3⟩ := hr
  by_cases c1 : p_rl P k < 2 ∨ p_rl P k = 6
  · have h3 := r1 c1
    by_cases c2 : a < p_cn P k
    · right
      refine ⟨p_pt P k a, (a4 a c2).2, ?_, ⟨fun _ => by omega, fun _ => by omega, fun h => absurd c1 h⟩, fun h => by omega, fun h => by omega⟩
      unfold wantI
      rw [if_pos c1, if_neg (by omega)]; exact (a4 a c2).1
    · left
      unfold wantI
      rw [if_pos c1]
      split
      · rfl
      · exact a5 a (by omega) (by omega)
  · have hneed : 1 ≤ p_cn P k ∧ (p_rl P k = 2 → p_cn P k = 3) ∧ (p_rl P k ≠ 4 → p_rl P k ≠ 8 → 2 ≤ p_cn P k) := by
      unfold p_need at a3
      split at a3
      · omega
      · split at a3
        · omega
        · split at a3 <;> omega
    by_cases c0 : a = 0
    · right
      subst c0
      refine ⟨p_pt P k 0, (a4 0 (by omega)).2, ?_, ⟨fun h => absurd h c1, fun _ => by omega, fun _ _ => by omega⟩, fun h => by omega, fun _ h => by omega⟩
      unfold wantI
      rw [if_neg c1, if_pos rfl]; exact (a4 0 (by omega)).1
    · by_cases c7 : p_rl P k = 7
      · have h4 := r2 c7
        have hw : wantI P k a fi = if dMod fi 4 < (nI a).toInt64 then -1 else p_pf P k 1 := by
          unfold wantI
          rw [if_neg c1, if_neg c0, if_neg (by omega), if_neg (by omega), if_pos c7]
        rw [hw]
        by_cases c8 : dMod fi 4 < (nI a).toInt64
        · left; rw [if_pos c8]
        · right
          rw [if_neg c8]
          refine ⟨p_pt P k 1, (a4 1 (by omega)).2, (a4 1 (by omega)).1, ⟨fun h => absurd h c1, fun _ => ?_, fun _ h => absurd c7 h⟩, fun _ => c7, fun _ _ => rfl⟩
          obtain ⟨m1, hm1, hm2⟩ := fMod_lN fi 4 4 (by decide) (by decide) (by decide)
          rw [dMod4, hm2, nI_l (by omega), Int64.lt_iff_toInt_lt, lN_toInt (by omega), lN_toInt (by omega)] at c8
          omega
      · have h4 := r3 c1 c7
        by_cases c9 : a = 2
        · left
          unfold wantI
          rw [if_neg c1, if_neg c0, if_neg c7, if_pos c9, if_pos c9, if_pos (Or.inr c9)]
          split
          · rfl
          · split <;> rfl
        · by_cases c8 : p_rl P k = 8
          · left
            unfold wantI
            rw [if_neg c1, if_neg c0, if_neg (by omega), if_neg (by omega), if_neg c7, if_pos (Or.inl c8)]
          · right
            have hg : ∃ q, q < 12 ∧ wantI P k a fi = nI q := by
              unfold wantI
              rw [if_neg c1, if_neg c0]
              by_cases d2 : p_rl P k = 2
              · rw [if_pos d2, if_neg c9]
                split
                · exact ⟨_, (a4 1 (by omega)).2, (a4 1 (by omega)).1⟩
                · exact ⟨_, (a4 2 (by omega)).2, (a4 2 (by omega)).1⟩
              · rw [if_neg d2]
                by_cases d4 : p_rl P k = 4
                · rw [if_pos d4, if_neg c9, dMod12]
                  exact ⟨_, (fMod12 fi).2, (fMod12 fi).1⟩
                · rw [if_neg d4, if_neg c7, if_neg (fun h => h.elim c8 c9)]
                  exact ⟨_, (a4 1 (by omega)).2, (a4 1 (by omega)).1⟩
            obtain ⟨q, hq, hw⟩ := hg
            exact ⟨q, hq, hw, ⟨fun h => absurd h c1, fun h => absurd h c7, fun _ _ => by omega⟩, fun h => by omega, fun h => absurd h c7⟩
/-- what has been noted -/
def LI (P : PD) (k a : Nat) (L : List (Nat × Int64)) : Prop := L.length ≤ a ∧ (p_rl P k = 7 → 2 ≤ a → ∃ e ∈ L, e.1 = p_pt P k 1)
theorem LI.known {a q : Nat} {L : List (Nat × Int64)} (H : LI P k a L) (hq : p_rl P k = 7 → 0 < a → q = p_pt P k 1) (hk : ∃ e ∈ L, e.1 = q) : LI P k (a + 1) L :=
  ⟨by have := H.1; omega, fun h7 h2 => by rw [← hq h7 (by omega)]; exact hk⟩
theorem LI.new {a q : Nat} {v : Int64} {L : List (Nat × Int64)} (H : LI P k a L) (hq : p_rl P k = 7 → 0 < a → q = p_pt P k 1) : LI P k (a + 1) (L ++ [(q, v)]) :=
  ⟨by have := H.1; rw [List.length_append]; simp; omega, fun h7 h2 => ⟨(q, v), by simp, by rw [← hq h7 (by omega)]⟩⟩
theorem LI.short {a q : Nat} {L : List (Nat × Int64)} (H : LI P k a L) (h2 : 2 < a → p_rl P k = 7) (hq : p_rl P k = 7 → 0 < a → q = p_pt P k 1) (hn : ∀ e ∈ L, e.1 ≠ q) : L.length < 3 := by
  rcases Nat.lt_or_ge 2 a with h | h
  · obtain ⟨e, he, h9⟩ := H.2 (h2 h) (by omega)
    exact absurd (h9.trans (hq (h2 h) (by omega)).symm) (hn e he)
  · have := H.1; omega
end RUN
