def okI (L : Nat) (a : Int32) : Prop := a = -1 ∨ ∃ j, j < L ∧ a = nI j
theorem okI_1 {L : Nat} {a : Int32} (h : okI L a) (hL : L < 2 ^ 31) : ¬ a < -1 ∧ a < nI L := by
  have e : (-1 : Int32).toInt = -1 := by decide
  rcases h with rfl | ⟨j, hj, rfl⟩
  · refine ⟨by decide, ?_⟩
    rw [Int32.lt_iff_toInt_lt, nI_toInt hL, e]; omega
  · refine ⟨?_, (nI_ltI (by omega) hL).mpr hj⟩
    rw [Int32.lt_iff_toInt_lt, nI_toInt (by omega), e]; omega
theorem okI_2 {L : Nat} {a : Int32} (hL : L < 2 ^ 31) (h1 : ¬ a < -1) (h2 : a < nI L) : okI L a := by
  by_cases h0 : a < 0
  · left
    have e : (-1 : Int32).toInt = -1 := by decide
    rw [Int32.lt_iff_toInt_lt, e] at h1
    rw [Int32.lt_iff_toInt_lt, Int32.toInt_zero] at h0
    apply Int32.toInt_inj.mp
    rw [e]; omega
  · right
    obtain ⟨j, hj, rfl⟩ := nI_of h0
    exact ⟨j, (nI_ltI hj hL).mp h2, rfl⟩
def trI (T : tv) (a : Int32) : Int32 := if a = -1 then nI T.2.1.length else nI (T.2.1.getD a.toNatClampNeg (0, 0)).1
def trL (T : tv) (a : Int32) : Int64 := if a = -1 then T.2.2 else (T.2.1.getD a.toNatClampNeg (0, 0)).2
def bCount (j : Nat) (β : BS) : Int32 := if j = 7 then nI (b_cl β).length else if j = 8 then nI (cntT (b_tr β) 0 12) else if j = 9 then nI (cntT (b_tr β) 1 12) else b_ta β j
theorem getD_at {L : List (Nat × Int64)} {j : Nat} (hj : j < L.length) : L[j]? = some (L.getD j (0, 0)) := by
  rw [List.getD_eq_getElem?_getD, List.getElem?_eq_getElem hj]; rfl
section PUBY
variable {dA : Nat → ClassId} {AD : Nat → Nat} {Fz Fz1 : Nat → Prop} {w w1 w2 : fw_W} {P P' : PD} {tr tr' : Nat → Option tv} {cl cl' : List tv} {ta ta' : Nat → Int32} {β β' : BS}
theorem M4.forg {ft : Nat → Option Nat} {pl : List Nat} {wk : Nat} (hft : ∀ i, i < 24 → rT dA Fz w (ft i) (tr i)) (hpl : poolL dA Fz w pl cl) (hM : aM dA w1 (AD 5) (AD 6) (AD 7) (AD 8) (dropF ft wk 12) pl ta) (hz : ∀ q, Fz q → w1 q = w q) : M4 dA AD Fz w1 (dropW tr wk) cl ta := by
  refine ⟨_, _, hM, fun i hi => ?_, hpl.kept hz (fun _ h => h)⟩
  unfold dropF dropW
  by_cases e1 : 12 * wk ≤ i ∧ i < 12 * wk + 12
  · rw [if_pos e1, if_pos e1]; trivial
  · rw [if_neg e1, if_neg e1]
    exact (hft i hi).kept hz (fun _ h => h)
theorem rT_some {o : Option Nat} {T : tv} (h : rT dA Fz w o (some T)) : ∃ t, o = some t ∧ isT dA Fz w t T := by
  cases o with
  | none => exact absurd h id
  | some t => exact ⟨t, rfl, h⟩
theorem rT_some2 {t : Nat} {o : Option tv} (h : rT dA Fz w (some t) o) : ∃ T, o = some T ∧ isT dA Fz w t T := by
  cases o with
  | none => exact absurd h id
  | some T => exact ⟨T, rfl, h⟩
end PUBY
