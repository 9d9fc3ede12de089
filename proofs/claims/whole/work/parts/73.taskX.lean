theorem md_run (P : PD) (wk n k : Nat) (σ : SS) : s_md σ ≤ s_md (runV (sv P wk n) P wk k σ).2 := by
  have h : s_md σ + 1 ≤ s_md (ruleV (sv P wk n) P k ([], sRan σ)).2.2 := (Kp_rule (Kp_sv P wk n) P k ([], sRan σ)).2.2.1
  unfold runV
  split
  · show s_md σ ≤ s_md (ruleV (sv P wk n) P k ([], sRan σ)).2.2; omega
  · show s_md σ ≤ s_md (ruleV (sv P wk n) P k ([], sRan σ)).2.2; omega
theorem md_next (P : PD) (wk n k : Nat) (σ : SS) : s_md (candV (sv P wk n) (entV k (s_cl σ)) σ).2 ≤ s_md (nextV (sv P wk n) P wk k σ).2 := by
  unfold nextV
  split
  · exact Nat.le_refl _
  · split
    · exact md_run P wk n k _
    · exact Nat.le_refl _
theorem RS.give {dA : Nat → ClassId} {ad : Nat → Nat} {Fz : Nat → Prop} {P : PD} {wk : Nat} {rows : Nat → Option Nat} {w w1 : fw_W} {σ : SS} {ft : Nat → Option Nat} {pl : List Nat} {i t : Nat} {T : tv} (hinj : Inj ad) (hR : RS dA ad Fz P wk rows w σ) (hft : ∀ i, i < 24 → rT dA Fz w (ft i) (s_tr σ i)) (hpl : poolL dA Fz w pl (s_cl σ)) (hi : isT dA Fz w t T) (hM : aM dA w1 (ad 5) (ad 6) (ad 7) (ad 8) (va_up ft i (some t)) pl (s_ta σ)) (hfr : ∀ z, z ≠ ad 6 → w1 z = w z) : RS dA ad Fz P wk rows w1 (sGive i T σ) ∧ Out ad w w1 := by
  have ho : Out ad w w1 := fun z hz => hfr z (hz 6 (by decide))
  have hk : ∀ j, j ≠ 6 → j < 27 → w1 (ad j) = w (ad j) := fun j h1 h2 => hfr _ (hinj.ne h2 (by decide) h1)
  have hz := hR.fz ho
  refine ⟨⟨hR.1.kept (fun j hj => hk j (by omega) (by omega)), ⟨_, _, hM, fun j hj => ?_, hpl.kept hz (fun _ h => h)⟩, hR.2.2.1.kept (fun j h1 h2 => hk j (by omega) h2), ⟨hR.2.2.2.1.1, fd_kept hz hR.2.2.2.1.2⟩, hR.2.2.2.2⟩, ho⟩
  by_cases e : j = i
  · show rT dA Fz w1 (va_up ft i (some t) j) (va_up (s_tr σ) i (some T) j)
    rw [e, va_up_self, va_up_self]
    exact hi.kept hz (fun _ h => h)
  · show rT dA Fz w1 (va_up ft i (some t) j) (va_up (s_tr σ) i (some T) j)
    rw [va_up_ne _ _ e, va_up_ne _ _ e]
    exact (hft j hj).kept hz (fun _ h => h)
theorem RS.open1 {dA : Nat → ClassId} {ad : Nat → Nat} {Fz : Nat → Prop} {P : PD} {wk : Nat} {rows : Nat → Option Nat} {w w1 : fw_W} {σ : SS} {k : Nat} (hinj : Inj ad) (hR : RS dA ad Fz P wk rows w σ) (hw : w1 = va_up w (ad 2) (some (.inl (dA 2, 12, .inl (zf (va_up (s_opn σ) k true)))))) : RS dA ad Fz P wk rows w1 (sOpen k σ) ∧ Out ad w w1 := by
  have hfr : ∀ z, z ≠ ad 2 → w1 z = w z := fun z hz => by rw [hw, va_up_ne _ _ hz]
  have ho : Out ad w w1 := fun z hz => hfr z (hz 2 (by decide))
  have hk : ∀ j, j ≠ 2 → j < 27 → w1 (ad j) = w (ad j) := fun j h1 h2 => hfr _ (hinj.ne h2 (by decide) h1)
  have hz := hR.fz ho
  obtain ⟨⟨g0, g1, g2, ⟨vf, g3, hvf⟩, g4⟩, hM4, hP6, hnF, hfl⟩ := hR
  exact ⟨⟨⟨(hk 0 (by decide) (by decide)).trans g0, (hk 1 (by decide) (by decide)).trans g1, by rw [hw]; exact va_up_self _ _ _, ⟨vf, (hk 3 (by decide) (by decide)).trans g3, hvf⟩, (hk 4 (by decide) (by decide)).trans g4⟩, hM4.kept (fun j h1 h2 => hk j (by omega) (by omega)) hz (fun _ h => h), hP6.kept (fun j h1 h2 => hk j (by omega) h2), ⟨hnF.1, fd_kept hz hnF.2⟩, hfl⟩, ho⟩
