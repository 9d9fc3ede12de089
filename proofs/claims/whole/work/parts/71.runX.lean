section RUNX
variable {dA : Nat → ClassId} {ad : Nat → Nat} {P : PD} {wk q kt vt k : Nat} {Fz Fz4 Fz6 : Nat → Prop} {rows rows4 : Nat → Option Nat} {w w1 w2 w3 w4 w6 : fw_W} {σ σ1 σ6 : SS} {x x4 : XS}
theorem RU.make (hR : RS dA ad Fz P wk rows w1 σ1) (hq : w1 q = none) (h1 : w1 kt = none) (h2 : w1 vt = none) (hT : aT dA w3 q kt vt k [] 0) (hfr : ∀ z, z ≠ q → z ≠ kt → z ≠ vt → w3 z = w1 z) : RU dA ad P wk q kt vt k Fz rows w3 ([], σ1) := by
  have hb : ∀ i, i < 27 → q ≠ ad i ∧ kt ≠ ad i ∧ vt ≠ ad i := fun i hi => ⟨fun e => hR.blk i hi (e ▸ hq), fun e => hR.blk i hi (e ▸ h1), fun e => hR.blk i hi (e ▸ h2)⟩
  have f1 : ¬ Fz q := fun h => hR.2.2.2.1.2 q h hq
  have f2 : ¬ Fz kt := fun h => hR.2.2.2.1.2 kt h h1
  have f3 : ¬ Fz vt := fun h => hR.2.2.2.1.2 vt h h2
  exact ⟨hR.keptO (fun i hi => hfr _ (Ne.symm (hb i hi).1) (Ne.symm (hb i hi).2.1) (Ne.symm (hb i hi).2.2)) (fun z hz => hfr z (fun e => f1 (e ▸ hz)) (fun e => f2 (e ▸ hz)) (fun e => f3 (e ▸ hz))), hT, f1, f2, f3, hb⟩
theorem VQ.run (hR : RS dA ad Fz P wk rows w σ) (ho : Out ad w w1) (hq : w1 q = none) (h1 : w1 kt = none) (h2 : w1 vt = none) (hfr : ∀ z, z ≠ q → z ≠ kt → z ≠ vt → w3 z = w1 z) (hx : s_opn x.2 = s_opn σ) (hU : RU dA ad P wk q kt vt k Fz rows w3 x)
    (hX : VX dA ad P wk q kt vt k Fz rows w3 x Fz4 rows4 w4 x4) (hR6 : RS dA ad Fz6 P wk rows4 w6 σ6) (h46 : ∀ z, Fz4 z → Fz6 z) (h64 : ∀ z, Fz6 z → Fz4 z ∨ z = q ∨ z = kt ∨ z = vt) (hc : ∀ (z : Nat) (e : va_E), w4 z = some e → (∀ i, i < 27 → z ≠ ad i) → z ≠ q → z ≠ kt → z ≠ vt → w6 z = some e) : VQ dA ad P wk Fz rows w σ Fz6 rows4 w6 σ6 := by
  have hw1 : ∀ z, (∀ i, i < 27 → z ≠ ad i) → w1 z = w z := ho
  have hnb : ∀ z, w z = none → ∀ i, i < 27 → z ≠ ad i := fun z hz i hi e => hR.blk i hi (e ▸ hz)
  have hqb := hU.2.2.2.2.2
  refine ⟨hR6, fun z hz => h46 z (hX.2.1 z hz), fun z hz => ?_, fun z e hz hn => ?_, fun z hz => ?_⟩
  · rcases h64 z hz with h | h | h | h
    · rcases hX.2.2.1 z h with h9 | h9
      · exact Or.inl h9
      · refine Or.inr ?_
        have n1 : z ≠ q := fun e => (hU.2.1.in).1 (e ▸ h9)
        have n2 : z ≠ kt := fun e => (hU.2.1.in).2.1 (e ▸ h9)
        have n3 : z ≠ vt := fun e => (hU.2.1.in).2.2 (e ▸ h9)
        rw [hfr z n1 n2 n3] at h9
        have nb : ∀ i, i < 27 → z ≠ ad i := fun i hi e => hR6.2.2.2.1.1 i hi (e ▸ hz)
        rw [← hw1 z nb]; exact h9
    · subst h
      rw [← hw1 z (fun i hi => (hqb i hi).1)]; exact Or.inr hq
    · subst h
      rw [← hw1 z (fun i hi => (hqb i hi).2.1)]; exact Or.inr h1
    · subst h
      rw [← hw1 z (fun i hi => (hqb i hi).2.2)]; exact Or.inr h2
  · have e1 : w1 z = some e := (hw1 z hn).trans hz
    have n1 : z ≠ q := fun e9 => by rw [e9, hq] at e1; cases e1
    have n2 : z ≠ kt := fun e9 => by rw [e9, h1] at e1; cases e1
    have n3 : z ≠ vt := fun e9 => by rw [e9, h2] at e1; cases e1
    exact hc z e (hX.2.2.2.1 z e ((hfr z n1 n2 n3).trans e1) hn n1 n2 n3) hn n1 n2 n3
  · exact hX.2.2.2.2 z (by rw [hx]; exact hz)
end RUNX
