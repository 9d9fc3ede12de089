section NEXT
variable {Z X : MS → Prop} {P : PD} {wk n h k : Nat} {μ0 μ μ' : MS} {σ σ' : SS}
def LL (μ : MS) : List Nat → List tv → Prop
  | [], [] => True
  | t :: ts, T :: cl => SlT μ t T ∧ LL μ ts cl
  | _, _ => False
theorem LL_iff (μ : MS) : ∀ (ts : List Nat) (cl : List tv), LL μ ts cl ↔ cl.length = ts.length ∧ ∀ (i t : Nat) (T : tv), ts[i]? = some t → cl[i]? = some T → SlT μ t T
  | [], [] => ⟨fun _ => ⟨rfl, fun i t T h => by cases h⟩, fun _ => trivial⟩
  | [], T :: cl => ⟨fun h => absurd h id, fun h => absurd h.1 (by simp)⟩
  | t :: ts, [] => ⟨fun h => absurd h id, fun h => absurd h.1 (by simp)⟩
  | t :: ts, T :: cl => by
    have ih := LL_iff μ ts cl
    constructor
    · rintro ⟨h1, h2⟩
      obtain ⟨h3, h4⟩ := ih.mp h2
      refine ⟨by simp [h3], fun i u U hu hU => ?_⟩
      cases i with
      | zero => injection hu with hu; injection hU with hU; subst hu; subst hU; exact h1
      | succ i => exact h4 i u U hu hU
    · rintro ⟨h1, h2⟩
      exact ⟨h2 0 t T rfl rfl, ih.mpr ⟨by simpa using h1, fun i u U hu hU => h2 (i + 1) u U hu hU⟩⟩
theorem SlL_LL {x : Nat → Nat} {c : Nat} {cl : List tv} : SlL μ x c cl ↔ LL μ (lstN x c) cl := by
  rw [LL_iff, lstN_len]
  constructor
  · rintro ⟨h1, h2⟩
    refine ⟨h1, fun i t T ht hT => ?_⟩
    have hi : i < c := by
      rcases Nat.lt_or_ge i c with h | h
      · exact h
      · rw [List.getElem?_eq_none (by rw [lstN_len]; exact h)] at ht; cases ht
    rw [lstN_at hi] at ht
    injection ht with ht
    rw [← ht]; exact h2 i T hT
  · rintro ⟨h1, h2⟩
    refine ⟨h1, fun i T hT => ?_⟩
    have hi : i < c := by
      rw [← h1]
      rcases Nat.lt_or_ge i cl.length with h | h
      · exact h
      · rw [List.getElem?_eq_none h] at hT; cases hT
    exact h2 i _ T (lstN_at hi) hT
theorem LL_filter (k : Nat) : ∀ (ts : List Nat) (cl : List tv), LL μ ts cl → LL μ (ts.filter (fun t => m_own μ t == k)) (cl.filter (fun T => T.1 == k))
  | [], [], _ => trivial
  | [], _ :: _, h => absurd h id
  | _ :: _, [], h => absurd h id
  | t :: ts, T :: cl, h => by
    have ih := LL_filter k ts cl h.2
    rw [List.filter_cons, List.filter_cons, h.1.2.1]
    split
    · exact ⟨h.1, ih⟩
    · exact ih
def nextE (rec : RX) (P : PD) (wk k : Nat) (E : List tv) (σ : SS) : Int64 × SS :=
  match (candV rec E σ).1 with
  | some T => (T.2.2, sFin k T.2.2 (sGive (wk * 12 + T.1) T (sTal 2 (candV rec E σ).2)))
  | none => if s_fl (candV rec E σ).2 = 0 then runV rec P wk k (candV rec E σ).2 else (0, (candV rec E σ).2)
theorem cand_fl {rec : RX} (E : List tv) {σ : SS} (h : s_fl σ ≠ 0) : candV rec E σ = (none, σ) := by
  cases E with
  | nil => rfl
  | cons T r => unfold candV; rw [if_neg h]
theorem nextE_fl {rec : RX} (E : List tv) {σ : SS} (h : s_fl σ ≠ 0) : nextE rec P wk k E σ = (0, σ) := by
  unfold nextE
  rw [cand_fl E h]
  exact if_neg h
theorem agr_true {rec : RX} : ∀ (r : List (Nat × Int64)) {σ : SS}, (agrV rec r σ).1 = true → s_fl (agrV rec r σ).2 = 0
  | [], σ, h => of_decide_eq_true h
  | q :: r, σ, h => by
    unfold agrV at h ⊢
    split at h
    · rename_i h0
      rw [if_pos h0]
      split at h
      · rename_i h1
        rw [if_pos h1]; exact agr_true r h
      · cases h
    · cases h
theorem nextE_hit {rec : RX} {T : tv} {E : List tv} (hf : s_fl σ = 0) (ha : (agrV rec T.2.1 σ).1 = true) : nextE rec P wk k (T :: E) σ = (T.2.2, sFin k T.2.2 (sGive (wk * 12 + T.1) T (sTal 2 (agrV rec T.2.1 σ).2))) := by
  have e : candV rec (T :: E) σ = (some T, (agrV rec T.2.1 σ).2) := by
    conv => lhs; unfold candV
    rw [if_pos hf, if_pos ha]
  unfold nextE
  rw [e]
theorem nextE_miss {rec : RX} {T : tv} {E : List tv} (hf : s_fl σ = 0) (ha : (agrV rec T.2.1 σ).1 = false) : nextE rec P wk k (T :: E) σ = nextE rec P wk k E (agrV rec T.2.1 σ).2 := by
  have e : candV rec (T :: E) σ = candV rec E (agrV rec T.2.1 σ).2 := by
    conv => lhs; unfold candV
    rw [if_pos hf, if_neg (by rw [ha]; simp)]
  unfold nextE
  rw [e]
/-- a candidate is taken up -/
theorem Wk.cand (H : Wk P wk n h μ0 k μ σ) {x : Nat → Nat} {c : Nat} (hx : ∀ z, z < 16 * h ∨ 16 * h + 16 ≤ z → x z = m_cand μ z) (hc : c ≤ 16) (hx3 : ∀ i, i < c → x (16 * h + i) < 320) (h0 : 0 < c) : Wk P wk n h μ0 k (dCand h x c μ) σ := by
  obtain ⟨⟨⟨d1, d2, d3, d4, d5, d6, d7, d8⟩, c2, c3, c4', c5⟩, hP, h3, h4, h5⟩ := H
  have hfe : ∀ f, f < h → FE μ (dCand h x c μ) f := fun f hf => ⟨rfl, va_up_ne _ _ (by omega), pk_un (by omega), va_up_ne _ _ (by omega), va_up_ne _ _ (by omega), va_up_ne _ _ (by omega), rfl, rfl, rfl, fun i hi => hx _ (by omega)⟩
  have hPr : Pr h μ (dCand h x c μ) := Pr.easy rfl rfl rfl hfe (fun _ h => h) rfl rfl rfl rfl
  refine ⟨⟨⟨d1, d2, d3, d4, d5, d6, d7, d8⟩, c2, fun f hf => ?_, c4'.kept rfl (fun f hf => ?_), c5⟩, hP.tr h5.1.cc hPr, h3, h4, h5⟩
  · by_cases e : f = h
    · subst e
      obtain ⟨k1, k2, -⟩ := c3 f (by omega)
      have e1 : m_ph (dCand f x c μ) f = 2 := va_up_self _ _ _
      have e2 : m_cc (dCand f x c μ) f = c - 1 := va_up_self _ _ _
      rw [e1, e2]
      exact ⟨k1, k2, by omega, by omega, fun h => by omega, fun i hi => hx3 i (by omega)⟩
    · exact (c3.mono (by omega)).pr hPr f (by omega)
  · show va_up (m_mk μ) h (x (16 * h + (c - 1))) f < 320
    by_cases e : f = h
    · rw [e, va_up_self]; exact hx3 _ (by omega)
    · rw [va_up_ne _ _ e]; exact c4'.2.2.2 f hf
/-- a run is begun -/
theorem Wk.run (H : Wk P wk n h μ0 k μ σ) {x : Nat → Nat} {t : Nat} (hx : ∀ z, z < 16 * h ∨ 16 * h + 16 ≤ z → x z = m_cand μ z) (ht : t < 320) (hn : NotIn μ t) (hh : ¬ Hold h μ t) : Wk P wk n h μ0 k (dRun h x t μ) (sRan σ) ∧ RF h (dRun h x t μ) t [] 0 (m_first μ h) (if m_rule μ (m_key μ h) = 1 then 1 else 0) ∧ m_at (dRun h x t μ) h = 0 := by
  have hfe : ∀ f, f < h → FE μ (dRun h x t μ) f := fun f hf => ⟨rfl, va_up_ne _ _ (by omega), rfl, va_up_ne _ _ (by omega), va_up_ne _ _ (by omega), va_up_ne _ _ (by omega), va_up_ne _ _ (by omega), rfl, pk_uLn (by omega), fun i hi => hx _ (by omega)⟩
  refine ⟨H.mod3 hn hh rfl rfl rfl rfl rfl rfl rfl rfl (fun u hu => ⟨va_up_ne _ _ hu, va_up_ne _ _ hu, rfl, fun _ _ => ⟨rfl, rfl⟩⟩) hfe rfl (va_up_self _ _ _) (va_up_self _ _ _) (fun f hf => ?_) rfl rfl rfl rfl rfl rfl rfl rfl, ⟨va_up_self _ _ _, va_up_self _ _ _, ht, hn, fun hb => hh (Hold.back (μ' := dRun h x t μ) (fun f hf => H.1.2.2.1.cc f (by omega)) rfl hfe hb), va_up_self _ _ _, va_up_self _ _ _, by simp, fun i q hq => (by cases hq), va_up_self _ _ _, pk_uLs, rfl, va_up_self _ _ _⟩, va_up_self _ _ _⟩
  show va_up (m_mk μ) h t f < 320
  by_cases e : f = h
  · rw [e, va_up_self]; exact ht
  · rw [va_up_ne _ _ e]; exact H.1.2.2.2.1.2.2.2 f hf
def CN (μ0 : MS) (h : Nat) (μ : MS) (σ : SS) (k : Nat) (E : List tv) : Prop := (m_ph μ h = 1 → E = entV k (s_cl σ)) ∧ (m_ph μ h = 2 → ∃ Cs, E = Cs.reverse ∧ SlL μ (fun j => m_cand μ (16 * h + j)) (m_cc μ h) Cs ∧ (∀ T ∈ Cs, T.1 = k) ∧ K2 μ0 h μ)
/-- the candidates that nextCandidate has before it -/
theorem fill_ok (H : Wk P wk n h μ0 k μ σ) (hph : m_ph μ h = 1 ∨ m_ph μ h = 2) {E : List tv} (hE : CN μ0 h μ σ k E) {x : Nat → Nat} {c : Nat} (hF : FillR μ h x c) : ∃ Cs, E = Cs.reverse ∧ SlL μ (fun j => x (16 * h + j)) c Cs ∧ (∀ T ∈ Cs, T.1 = k) ∧ ∀ u, Hold h μ0 u → NotIn μ0 u → ∀ i, i < c → x (16 * h + i) ≠ u := by
  obtain ⟨f1, f2, f3, f4⟩ := hF
  rcases hph with hp1 | hp2
  · refine ⟨(s_cl σ).filter (fun T => T.1 == k), hE.1 hp1, ?_, fun T hT => ?_, fun u hu hn i hi e => ?_⟩
    · have h1 := f1 hp1
      rw [H.2.2.1] at h1
      rw [SlL_LL, h1]
      exact LL_filter k _ _ (SlL_LL.mp H.1.1.2.1.2.2)
    · have := (List.mem_filter.mp hT).2
      exact eq_of_beq this
    · have hnu : NotIn μ u := (H.2.1.2.2.2.2.2 u hu).2 hn
      have h1 : x (16 * h + i) ∈ lstN (fun j => x (16 * h + j)) c := mem_lstN (x := fun j => x (16 * h + j)) hi
      rw [f1 hp1] at h1
      have h2 := (List.mem_filter.mp h1).1
      unfold lstN at h2
      obtain ⟨j, hj, hj2⟩ := List.mem_map.mp h2
      exact hnu.2 j (List.mem_range.mp hj) (hj2.trans e)
  · obtain ⟨e1, e2⟩ := f2 (by omega)
    subst e1; subst e2
    obtain ⟨Cs, a1, a2, a3, a4⟩ := hE.2 hp2
    exact ⟨Cs, a1, a2, a3, fun u hu hn i hi => (a4 u hu hn).2 i hi⟩
theorem next_all (hp : p_ok P) (hwk : wk < 2) (IH : AskC Z P wk n) (hX : Cl Z X) : ∀ (E : List tv) (μ : MS) (σ : SS), Wk P wk n h μ0 k μ σ → (m_ph μ h = 1 ∨ m_ph μ h = 2) → CN μ0 h μ σ k E → Done P wk h μ0 k X (nextE (sv P wk n) P wk k E σ) → ∀ μ2, Nx μ h μ2 → X μ2
  | [], μ, σ, H, hph, hE, hD, μ2, hN => by
    obtain ⟨x, c, hF, hN⟩ := hN
    obtain ⟨Cs, a1, a2, a3, a4⟩ := fill_ok H hph hE hF
    have hCs : Cs = [] := List.reverse_eq_nil_iff.mp a1.symm
    subst hCs
    have hc : c = 0 := a2.1.symm
    rcases hN with ⟨h1, -⟩ | ⟨-, t, ht, hm, rfl⟩
    · omega
    · have hw2 : m_wkr μ < 2 := by rw [H.1.1.2.2.2.2.1]; exact hwk
      obtain ⟨hn, hh⟩ := fresh_ok H.1.2.2.1 hw2 H.1.2.1 hF.2.2.2 ht hm
      obtain ⟨H1, R1, a1⟩ := H.run hF.2.2.2 ht hn hh
      rw [(H.rl hp).1] at R1
      have hfl : s_fl σ = 0 := H.1.1.2.2.2.2.2.2.2
      have e : nextE (sv P wk n) P wk k [] σ = runV (sv P wk n) P wk k σ := if_pos hfl
      rw [e, run_W hp H.k12 H.2.2.2.2.2.1 _ (m_first μ h)] at hD
      exact run_all hp hwk IH hX 5 0 _ _ [] _ _ rfl H1 R1 a1 ⟨fun _ => by omega, fun _ => by omega, fun _ _ => by omega⟩ ⟨Nat.le_refl _, fun _ h => by omega⟩ hD
  | T :: E, μ, σ, H, hph, hE, hD, μ2, hN => by
    obtain ⟨x, c, hF, hN⟩ := hN
    obtain ⟨Cs, a1, a2, a3, a4⟩ := fill_ok H hph hE hF
    have hfl : s_fl σ = 0 := H.1.1.2.2.2.2.2.2.2
    have hCs : Cs = E.reverse ++ [T] := by
      have := congrArg List.reverse a1
      rw [List.reverse_reverse, List.reverse_cons] at this
      exact this.symm
    subst hCs
    have hc : c = E.length + 1 := by rw [← a2.1]; simp
    rcases hN with ⟨-, rfl⟩ | ⟨h1, -⟩
    · have hx3 : ∀ i, i < c → x (16 * h + i) < 320 := fun i hi => by obtain ⟨T', -, h9⟩ := a2.lt hi; exact h9.1
      have H1 := H.cand hF.2.2.2 hF.2.2.1 hx3 (by omega)
      have hT : SlT μ (x (16 * h + (c - 1))) T := a2.2 (c - 1) T (by rw [List.getElem?_append_right (by simp; omega)]; simp [hc])
      have F1 : CF μ0 h (dCand h x c μ) 2 (x (16 * h + (c - 1))) T E.reverse := by
        refine ⟨Or.inr rfl, va_up_self _ _ _, pk_us, hT, fun _ => ⟨va_up_self _ _ _, ?_, fun u hu hn => ⟨?_, fun i hi => ?_⟩⟩⟩
        · have e2 : m_cc (dCand h x c μ) h = c - 1 := va_up_self _ _ _
          rw [e2]
          refine ⟨by simp; omega, fun i T' hT' => ?_⟩
          have hi : i < E.reverse.length := by
            rcases Nat.lt_or_ge i E.reverse.length with h9 | h9
            · exact h9
            · rw [List.getElem?_eq_none h9] at hT'; cases hT'
          exact a2.2 i T' (by rw [List.getElem?_append_left hi]; exact hT')
        · rw [show m_mk (dCand h x c μ) h = x (16 * h + (c - 1)) from va_up_self _ _ _]
          exact fun e => a4 u hu hn (c - 1) (by omega) e.symm
        · rw [show m_cc (dCand h x c μ) h = c - 1 from va_up_self _ _ _] at hi
          exact a4 u hu hn i (by omega)
      have hTk : T.1 = k := a3 T (by simp)
      refine chk_all hp hwk IH hX T.2.1 _ σ 0 H1 F1 (va_up_self _ _ _) rfl (by omega) (fun ht μ' H2 F2 at2 => ?_) (fun hf hf0 μ' H2 F2 μ2 hN2 => ?_) (fun hf μ' hFl hPr hph2 => ?_)
      · rw [nextE_hit hfl ht] at hD
        refine (hX μ').2 H2.nst (H2.iok12 hp hwk (by rw [F2.2.1]; exact F2.1) (Or.inr ⟨_, T, F2.2.2.1, F2.2.2.2.1, by omega⟩)) (fun μ3 hs => ?_)
        rw [step_hit H2.1.2.1 F2 at2 hs]
        have ok := hit_ok hwk H2 F2 (fun _ => hTk)
        rw [if_neg (by omega)] at ok
        exact hD.1 (agr_true _ ht) _ ok
      · rw [nextE_miss hfl hf] at hD
        refine next_all hp hwk IH hX E μ' _ H2 (by rw [F2.2.1]; exact F2.1) ⟨fun h9 => ?_, fun _ => ?_⟩ hD μ2 hN2
        · rw [F2.2.1] at h9; omega
        · obtain ⟨b1, b2, b3⟩ := F2.2.2.2.2 rfl
          exact ⟨E.reverse, (List.reverse_reverse E).symm, b2, fun T' hT' => a3 T' (List.mem_append_left _ hT'), b3⟩
      · have hne : (agrV (sv P wk n) T.2.1 σ).1 = false := by
          cases hb : (agrV (sv P wk n) T.2.1 σ).1 with
          | false => rfl
          | true => exact absurd (agr_true _ hb) hf
        rw [nextE_miss hfl hne, nextE_fl E hf] at hD
        exact hD.2 hf μ' (hFl.dn1 (by omega)) hPr
    · omega
end NEXT
