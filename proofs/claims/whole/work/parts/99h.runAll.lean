section ALL
variable {Z X : MS → Prop} {P : PD} {wk n h k : Nat} {μ0 μ μ' : MS} {σ σ' : SS}
theorem step_end {t : Nat} {L : List (Nat × Int64)} {a : Nat} {fi su : Int64} (hp : p_ok P) (H : Wk P wk n h μ0 k μ σ) (R : RF h μ t L a fi su) (hw : dWant μ h = -1) (hs : Step μ μ') : (dEndC (p_rl P k) a fi su = 0 ∧ ∃ (x : Nat → Nat) (c : Nat), μ' = dEnd h x c (dEndV (p_rl P k) fi su) μ ∧ lstN x c = (lstN (m_cch μ) (m_cached μ) ++ [m_mk μ h]).drop (m_cached μ + 1 - 16)) ∨ (dEndC (p_rl P k) a fi su ≠ 0 ∧ μ' = dThr (dEndC (p_rl P k) a fi su) μ) := by
  have hh := H.1.2.1
  have e : m_hgt μ - 1 = h := by omega
  unfold Step at hs
  rw [e] at hs
  obtain ⟨l1, l2⟩ := H.rl hp
  obtain ⟨r1, r2, r3, r4, r5, r6, r7, r8, r9, r10, r11, r12, r13⟩ := R
  rcases hs with ⟨-, hs⟩ | ⟨h3, -⟩
  · unfold St3 at hs
    rw [l1, r10, r11, r12] at hs
    rcases hs with ⟨-, h1, h2⟩ | ⟨-, h1, h2⟩ | ⟨k', hk', h1, -⟩
    · exact Or.inl ⟨h1, h2⟩
    · exact Or.inr ⟨h1, h2⟩
    · rw [hw] at h1; exact absurd h1.symm (nI_ne_m1 (by omega))
  · exact absurd r1 h3
theorem endC_lt (r a : Nat) (fi su : Int64) : dEndC r a fi su ≠ 0 → 1 < dEndC r a fi su ∧ dEndC r a fi su < 5 := by
  unfold dEndC
  split
  · omega
  · split
    · omega
    · split <;> omega
theorem ask_eq {rec : RX} {q : Nat} {L : List (Nat × Int64)} (hf : s_fl σ = 0) : askV rec q (L, σ) = ((rec q (sTal 0 σ)).1, noteL L q (rec q (sTal 0 σ)).1, (rec q (sTal 0 σ)).2) := if_pos hf
theorem run_all (hp : p_ok P) (hwk : wk < 2) (IH : AskC Z P wk n) (hX : Cl Z X) {t : Nat} : ∀ (m a : Nat) (fi su : Int64) (L : List (Nat × Int64)) (μ : MS) (σ : SS), m + a = 5 → Wk P wk n h μ0 k μ σ → RF h μ t L a fi su → m_at μ h = 0 → rch (p_rl P k) a → LI P k a L → Done P wk h μ0 k X (runW wk k (runM (sv P wk n) P k m a fi su (L, σ))) → X μ
  | 0, a, fi, su, L, μ, σ, hm, H, R, hat, hr, hL, hD => by
    exfalso
    obtain ⟨q1, q2, q3⟩ := hr
    by_cases c1 : p_rl P k < 2 ∨ p_rl P k = 6
    · have := q1 c1; omega
    · by_cases c2 : p_rl P k = 7
      · have := q2 c2; omega
      · have := q3 c1 c2; omega
  | m + 1, a, fi, su, L, μ, σ, hm, H, R, hat, hr, hL, hD => by
    have hk := H.k12
    have hfl : s_fl σ = 0 := H.1.1.2.2.2.2.2.2.2
    have hwe := want_eq hp H R.2.2.2.2.2.2.2.2.2.1 R.2.2.2.2.2.2.2.2.2.2.2.1 hr.1
    have hiok := H.iok3 hp hwk R (by omega) hr
    rcases want_or hp hk H.2.2.2.2.2.1 fi hr with hw | ⟨q, hq, hw, hr2, h27, hq7⟩
    · rw [runM_end hw] at hD
      refine (hX μ).2 H.nst hiok (fun μ' hs => ?_)
      rcases step_end hp H R (hwe.trans hw) hs with ⟨h1, x, c, rfl, hx⟩ | ⟨h1, rfl⟩
      · rw [if_pos h1] at hD
        have e : runW wk k (dEndV (p_rl P k) fi su, L, σ) = (dEndV (p_rl P k) fi su, sFin k (dEndV (p_rl P k) fi su) (sApp (k, L, dEndV (p_rl P k) fi su) (sGive (wk * 12 + k) (k, L, dEndV (p_rl P k) fi su) (sTal 3 σ)))) := if_pos hfl
        rw [e] at hD
        exact hD.1 hfl _ (end_ok hwk H R hx)
      · obtain ⟨b1, b2⟩ := endC_lt _ _ _ _ h1
        rw [if_neg h1] at hD
        have efl : s_fl (sFail (dEndC (p_rl P k) a fi su - 1) σ) = dEndC (p_rl P k) a fi su - 1 := if_pos hfl
        have e : runW wk k (failV (dEndC (p_rl P k) a fi su - 1) (L, σ)) = (0, sTal 4 (sFail (dEndC (p_rl P k) a fi su - 1) σ)) := if_neg (show s_fl (sFail (dEndC (p_rl P k) a fi su - 1) σ) ≠ 0 by rw [efl]; omega)
        rw [e] at hD
        obtain ⟨g1, g2⟩ := H.1.fail (n := dEndC (p_rl P k) a fi su - 1) (by omega) (by omega) (m_circ μ) (s_ta σ) (fun _ _ => rfl) H.1.1.2.2.1.2
        rw [show dEndC (p_rl P k) a fi su - 1 + 1 = dEndC (p_rl P k) a fi su by omega] at g1 g2
        refine hD.2 (show s_fl (sFail (dEndC (p_rl P k) a fi su - 1) σ) ≠ 0 by rw [efl]; omega) _ ?_ (H.2.1.tr H.2.2.2.2.1.cc (g2.mono (by omega)))
        exact FlS.dn3 g1 R.1
    · have ha := ask_eq (rec := sv P wk n) (q := q) (L := L) hfl
      have hKp := Kp_sv P wk n q (sTal 0 σ)
      have eg := go1_0 (μ := μ) (h := h) hat
      have H1 : Wk P wk n h μ0 k (dGo1 h μ) (sTal 0 σ) := by rw [eg]; exact H.cnt.at
      have R1 : RF h (dGo1 h μ) t L a fi su := by rw [eg]; exact R
      have hat1 : m_at (dGo1 h μ) h = 1 := by rw [eg]; exact va_up_self _ _ _
      have hfr1 : fr12 (sTal 0 σ) < n := H1.2.2.2.1
      generalize hv : (sv P wk n q (sTal 0 σ)).1 = v at ha
      generalize hσ : (sv P wk n q (sTal 0 σ)).2 = σ2 at ha hKp
      have hY : s_fl σ2 = 0 → ∀ μ1, OkS P wk (h + 1) (dGo1 h μ) μ1 q v σ2 → ((∃ e ∈ L, e.1 = q) → X (dTake h v (dAt h 0 μ1))) ∧ ((∀ e ∈ L, e.1 ≠ q) → X (dTake h v (dNote t q v (dAt h 0 μ1)))) := by
        intro hf0 μ1 ok
        have H2 := H1.next ok.1 ok.2.1 hKp.fr
        have R2 := R1.next H1.1.2.2.1 ok.2.1
        rw [runM_ask hq hw (by rw [ha]; exact hf0), ha] at hD
        have hrule : m_rule μ1 (m_key μ1 h) = p_rl P k := (H2.rl hp).1
        refine ⟨fun hkn => ?_, fun hkn => ?_⟩
        · have en : noteL L q v = L := if_neg (fun h9 => by obtain ⟨e, he, hq9⟩ := hkn; exact h9.2 e he hq9)
          rw [en] at hD
          obtain ⟨H3, R3, a3⟩ := take_known (v := v) H2 R2
          rw [hrule] at R3
          exact run_all hp hwk IH hX m (a + 1) _ _ L _ σ2 (by omega) H3 R3 a3 hr2 (hL.known hq7 hkn) hD
        · have hl3 := hL.short h27 hq7 hkn
          have en : noteL L q v = L ++ [(q, v)] := if_pos ⟨hl3, hkn⟩
          rw [en] at hD
          obtain ⟨H2', R2'⟩ := note_new (v := v) H2 R2 hl3 hq
          obtain ⟨H3, R3, a3⟩ := take_known (v := v) H2' R2'
          have hrule' : m_rule (dNote t q v μ1) (m_key (dNote t q v μ1) h) = p_rl P k := hrule
          rw [hrule'] at R3
          exact run_all hp hwk IH hX m (a + 1) _ _ (L ++ [(q, v)]) _ σ2 (by omega) H3 R3 a3 hr2 (hL.new hq7) hD
      refine (hX μ).2 H.nst hiok (fun μ' hs => ?_)
      have hst := step_run H.1.2.1 R hq (hwe.trans hw) hs
      rcases IH (h + 1) (dGo1 h μ) (sTal 0 σ) q hq hfr1 H1.1 with ⟨hb, hf0, ok⟩ | ⟨hb, hDn⟩
      · rw [hv, hσ] at ok
        rw [hσ] at hf0
        obtain ⟨y1, y2⟩ := hY hf0 _ ok
        rw [ok.2.2.2] at hst
        rcases hst with ⟨hb2, -⟩ | ⟨-, hkn, rfl⟩ | ⟨-, hkn, rfl⟩
        · rw [hb] at hb2; cases hb2
        · exact y1 hkn
        · exact y2 hkn
      · have hμ' : μ' = dAsk q (dGo1 h μ) := by
          rcases hst with ⟨-, rfl⟩ | ⟨hb2, -⟩ | ⟨hb2, -⟩
          · rfl
          · rw [hb] at hb2; cases hb2
          · rw [hb] at hb2; cases hb2
        rw [hμ']
        refine hDn X hX ⟨fun hf0 μ1 ok => ?_, fun hf μ1 hFl hPr => ?_⟩
        · rw [hv, hσ] at ok
          rw [hσ] at hf0
          obtain ⟨y1, y2⟩ := hY hf0 _ ok
          have H2 := H1.next ok.1 ok.2.1 hKp.fr
          have R2 := R1.next H1.1.2.2.1 ok.2.1
          have hat2 : m_at μ1 h = 1 := (ok.2.1.2.2.2.1 h (by omega)).2.2.2.1.trans hat1
          have hwe2 := want_eq hp H2 R2.2.2.2.2.2.2.2.2.2.1 R2.2.2.2.2.2.2.2.2.2.2.2.1 hr.1
          have eg2 := go1_1 hat2
          refine (hX μ1).2 H2.nst (H2.iok3 hp hwk R2 (by omega) hr) (fun μ2 hs2 => ?_)
          have hst2 := step_run H2.1.2.1 R2 hq (hwe2.trans hw) hs2
          obtain ⟨b1, b2⟩ := askB_2 ok.2.2.1
          rw [eg2, b2, ok.2.2.2] at hst2
          rcases hst2 with ⟨hb2, -⟩ | ⟨-, hkn, rfl⟩ | ⟨-, hkn, rfl⟩
          · rw [b1] at hb2; cases hb2
          · exact y1 hkn
          · exact y2 hkn
        · rw [hσ] at hf hFl
          rw [runM_fl hq hw (by rw [ha]; exact hf), ha] at hD
          have e : runW wk k (0, noteL L q v, σ2) = (0, sTal 4 σ2) := if_neg hf
          have hph : m_ph μ1 h = 3 := (hPr.2.2.2.1 h (by omega)).2.1.trans R1.1
          dsimp only at hD
          rw [e] at hD
          exact hD.2 hf μ1 (FlS.dn3 hFl hph) (H1.2.1.tr H.2.2.2.2.1.cc (hPr.mono (by omega)))
end ALL
