/-- a rule is running: its Trace at h, kt, vt, its own alone -/
def RU (dA : Nat → ClassId) (ad : Nat → Nat) (P : PD) (wk h kt vt k : Nat) (Fz : Nat → Prop) (rows : Nat → Option Nat) (w : fw_W) (x : XS) : Prop :=
  RS dA ad Fz P wk rows w x.2 ∧ aT dA w h kt vt k x.1 0 ∧ ¬ Fz h ∧ ¬ Fz kt ∧ ¬ Fz vt ∧ ∀ i, i < 27 → h ≠ ad i ∧ kt ≠ ad i ∧ vt ≠ ad i
def VX (dA : Nat → ClassId) (ad : Nat → Nat) (P : PD) (wk h kt vt k : Nat) (Fz : Nat → Prop) (rows : Nat → Option Nat) (w : fw_W) (x : XS) (Fz' : Nat → Prop) (rows' : Nat → Option Nat) (w' : fw_W) (x' : XS) : Prop :=
  RU dA ad P wk h kt vt k Fz' rows' w' x' ∧ (∀ q, Fz q → Fz' q) ∧ (∀ q, Fz' q → Fz q ∨ w q = none) ∧ (∀ (q : Nat) (e : va_E), w q = some e → (∀ i, i < 27 → q ≠ ad i) → q ≠ h → q ≠ kt → q ≠ vt → w' q = some e) ∧ ∀ z, s_opn x.2 (z / 16) = true → rows' z = rows z
section VXS
variable {dA : Nat → ClassId} {ad : Nat → Nat} {P : PD} {wk h kt vt k : Nat} {Fz Fz1 Fz2 : Nat → Prop} {rows rows1 rows2 : Nat → Option Nat} {w w1 w2 : fw_W} {x x1 x2 : XS} {σ σ1 : SS}
theorem VX.rf (hU : RU dA ad P wk h kt vt k Fz rows w x) : VX dA ad P wk h kt vt k Fz rows w x Fz rows w x := ⟨hU, fun _ h => h, fun _ h => Or.inl h, fun _ _ h _ _ _ _ => h, fun _ _ => rfl⟩
theorem aT.in {o : Nat} {L : List (Nat × Int64)} {res : Int64} (hT : aT dA w h kt vt o L res) : w h ≠ none ∧ w kt ≠ none ∧ w vt ≠ none := by
  obtain ⟨fk, fv, a, b, c, -⟩ := hT
  exact ⟨(by rw [a]; simp), (by rw [b]; simp), (by rw [c]; simp)⟩
theorem VX.tr (h1 : VX dA ad P wk h kt vt k Fz rows w x Fz1 rows1 w1 x1) (h2 : VX dA ad P wk h kt vt k Fz1 rows1 w1 x1 Fz2 rows2 w2 x2) (hk : ∀ j, s_opn x.2 j = true → s_opn x1.2 j = true) : VX dA ad P wk h kt vt k Fz rows w x Fz2 rows2 w2 x2 := by
  obtain ⟨a1, a2, a3, a4, a5⟩ := h1
  obtain ⟨b1, b2, b3, b4, b5⟩ := h2
  refine ⟨b1, fun q hq => b2 q (a2 q hq), fun q hq => ?_, fun q e hq hn n1 n2 n3 => b4 q e (a4 q e hq hn n1 n2 n3) hn n1 n2 n3, fun z hz => (b5 z (hk _ hz)).trans (a5 z hz)⟩
  rcases b3 q hq with h9 | h9
  · exact a3 q h9
  · cases hw : w q with
    | none => exact Or.inr rfl
    | some e =>
      by_cases hn : ∀ i, i < 27 → q ≠ ad i
      · have n1 : q ≠ h := fun e9 => b1.2.2.1 (e9 ▸ hq)
        have n2 : q ≠ kt := fun e9 => b1.2.2.2.1 (e9 ▸ hq)
        have n3 : q ≠ vt := fun e9 => b1.2.2.2.2.1 (e9 ▸ hq)
        rw [a4 q e hw hn n1 n2 n3] at h9; cases h9
      · exact absurd hq (fun hq => hn (fun i hi e9 => b1.1.2.2.2.1.1 i hi (e9 ▸ hq)))
theorem RU.step (hU : RU dA ad P wk h kt vt k Fz rows w x) (hV : VQ dA ad P wk Fz rows w x.2 Fz1 rows1 w1 σ1) : VX dA ad P wk h kt vt k Fz rows w x Fz1 rows1 w1 (x.1, σ1) := by
  obtain ⟨u1, u2, u3, u4, u5, u6⟩ := hU
  have hin := u2.in
  exact ⟨⟨hV.1, VQ.aT hV u2 (fun i hi => (u6 i hi).1) (fun i hi => (u6 i hi).2.1) (fun i hi => (u6 i hi).2.2), fun h9 => (hV.2.2.1 _ h9).elim u3 hin.1, fun h9 => (hV.2.2.1 _ h9).elim u4 hin.2.1, fun h9 => (hV.2.2.1 _ h9).elim u5 hin.2.2, u6⟩, hV.2.1, hV.2.2.1, fun q e hq hn _ _ _ => hV.2.2.2.1 q e hq hn, hV.2.2.2.2⟩
theorem RS.keptO (hR : RS dA ad Fz P wk rows w σ) (hk : ∀ i, i < 27 → w1 (ad i) = w (ad i)) (hz : ∀ q, Fz q → w1 q = w q) : RS dA ad Fz P wk rows w1 σ := ⟨hR.1.kept (fun i hi => hk i (by omega)), hR.2.1.kept (fun i _ hi => hk i (by omega)) hz (fun _ h => h), hR.2.2.1.kept (fun i _ hi => hk i hi), ⟨hR.2.2.2.1.1, fd_kept hz hR.2.2.2.1.2⟩, hR.2.2.2.2⟩
theorem RU.note {L : List (Nat × Int64)} (hU : RU dA ad P wk h kt vt k Fz rows w x) (hT : aT dA w1 h kt vt k L 0) (hfr : ∀ z, z ≠ h → z ≠ kt → z ≠ vt → w1 z = w z) : VX dA ad P wk h kt vt k Fz rows w x Fz rows w1 (L, x.2) := by
  obtain ⟨u1, u2, u3, u4, u5, u6⟩ := hU
  exact ⟨⟨u1.keptO (fun i hi => hfr _ (Ne.symm (u6 i hi).1) (Ne.symm (u6 i hi).2.1) (Ne.symm (u6 i hi).2.2)) (fun q hq => hfr q (fun e => u3 (e ▸ hq)) (fun e => u4 (e ▸ hq)) (fun e => u5 (e ▸ hq))), hT, u3, u4, u5, u6⟩, fun _ h => h, fun _ h => Or.inl h, fun q e hq _ n1 n2 n3 => (hfr q n1 n2 n3).trans hq, fun _ _ => rfl⟩
theorem RS.tal (hR : RS dA ad Fz P wk rows w σ) (hinj : Inj ad) {i : Nat} (hw : w1 = va_up w (ad 8) (some (.inl (dA 0, 11, .inl (upd (s_ta σ) i (s_ta σ i + nI 1)))))) : RS dA ad Fz P wk rows w1 (sTal i σ) ∧ Out ad w w1 := by
  have hfr : ∀ z, z ≠ ad 8 → w1 z = w z := fun z hz => by rw [hw, va_up_ne _ _ hz]
  have ho : Out ad w w1 := fun q hq => hfr q (hq 8 (by decide))
  have hk : ∀ j, j ≠ 8 → j < 27 → w1 (ad j) = w (ad j) := fun j h1 h2 => hfr _ (hinj.ne h2 (by decide) h1)
  have hz := hR.fz ho
  obtain ⟨s5, ⟨ft, pl, ⟨fc, m1, m2, m3, m4, m5⟩, hft, hpl⟩, p6, hnF, hfl⟩ := hR
  exact ⟨⟨s5.kept (fun j hj => hk j (by omega) (by omega)), ⟨ft, pl, ⟨fc, (hk 5 (by decide) (by decide)).trans m1, (hk 6 (by decide) (by decide)).trans m2, (hk 7 (by decide) (by decide)).trans m3, by rw [hw]; exact va_up_self _ _ _, m5⟩, fun j hj => (hft j hj).kept hz (fun _ h => h), hpl.kept hz (fun _ h => h)⟩, p6.kept (fun j h1 h2 => hk j (by omega) h2), ⟨hnF.1, fd_kept hz hnF.2⟩, hfl⟩, ho⟩
end VXS
