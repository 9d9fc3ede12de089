theorem xor_neg (a b : Int64) (hb : b.toBitVec.msb = false) : (a ^^^ b) < 0 ↔ a < 0 := by
  rw [Int64.lt_iff_toInt_lt, Int64.lt_iff_toInt_lt, Int64.toInt_zero]
  have h1 := BitVec.msb_eq_toInt (x := (a ^^^ b).toBitVec)
  have h2 := BitVec.msb_eq_toInt (x := a.toBitVec)
  rw [Int64.toBitVec_xor, BitVec.msb_xor, hb, Bool.xor_false] at h1
  have e1 : decide ((a ^^^ b).toInt < 0) = decide (a.toInt < 0) := h1.symm.trans h2
  exact decide_eq_decide.mp e1
theorem tdiv_two (A B : Int) : (0 ≤ A → A.tdiv B = A / B) ∧ (A < 0 → A.tdiv B = -((-A) / B)) := by
  refine ⟨fun h => Int.tdiv_eq_ediv_of_nonneg h, fun h => ?_⟩
  have e : A.tdiv B = -((-A).tdiv B) := by rw [Int.neg_tdiv, Int.neg_neg]
  rw [e, Int.tdiv_eq_ediv_of_nonneg (by omega)]
theorem rem_12 (a b : Int64) (B : Int) (hb : b.toInt = B) (hB : B = 12 ∨ B = 4) : ∃ r : Int, (a - a / b * b).toInt = r ∧ (0 ≤ a.toInt → 0 ≤ r ∧ r < B) ∧ (a.toInt < 0 → -B < r ∧ r ≤ 0) := by
  have h1 := Int64.toInt_lt a
  have h2 := Int64.le_toInt a
  obtain ⟨t1, t2⟩ := tdiv_two a.toInt B
  have hd : (a / b).toInt = (a.toInt.tdiv B).bmod (2 ^ 64) := by rw [Int64.toInt_div, hb]
  generalize a.toInt.tdiv B = q at t1 t2 hd
  have hm : (a / b * b).toInt = ((a / b).toInt * B).bmod (2 ^ 64) := by rw [Int64.toInt_mul, hb]
  have hs : (a - a / b * b).toInt = (a.toInt - (a / b * b).toInt).bmod (2 ^ 64) := by rw [Int64.toInt_sub]
  generalize a.toInt = A at *
  have hq : q.bmod (2 ^ 64) = q := Int.bmod_eq_of_le (by rcases hB with rfl | rfl <;> omega) (by rcases hB with rfl | rfl <;> omega)
  rw [hq] at hd
  rw [hd] at hm
  have hqB : (q * B).bmod (2 ^ 64) = q * B := Int.bmod_eq_of_le (by rcases hB with rfl | rfl <;> omega) (by rcases hB with rfl | rfl <;> omega)
  rw [hqB] at hm
  rw [hm] at hs
  have hr : (A - q * B).bmod (2 ^ 64) = A - q * B := Int.bmod_eq_of_le (by rcases hB with rfl | rfl <;> omega) (by rcases hB with rfl | rfl <;> omega)
  rw [hr] at hs
  refine ⟨A - q * B, hs, fun h => ?_, fun h => ?_⟩
  · rcases hB with rfl | rfl <;> omega
  · rcases hB with rfl | rfl <;> omega
theorem fMod_lN (a b : Int64) (B : Nat) (hb : b.toInt = B) (hB : B = 12 ∨ B = 4) (hm : b.toBitVec.msb = false) : ∃ t : Nat, t < B ∧ fMod a b = lN t := by
  obtain ⟨r, hr, r1, r2⟩ := rem_12 a b B hb (by omega)
  unfold fMod
  have hx := xor_neg a b hm
  by_cases h : (a - a / b * b) ≠ 0 ∧ (a ^^^ b) < 0
  · rw [if_pos h]
    have ha : a.toInt < 0 := by have := hx.mp h.2; rw [Int64.lt_iff_toInt_lt, Int64.toInt_zero] at this; exact this
    have hr0 : r ≠ 0 := fun e => h.1 (Int64.toInt_inj.mp (by rw [hr, e, Int64.toInt_zero]))
    have r3 := r2 ha
    refine ⟨(r + B).toNat, by omega, Int64.toInt_inj.mp ?_⟩
    rw [Int64.toInt_add, hr, hb, lN_toInt (by omega)]
    rw [Int.bmod_eq_of_le (by omega) (by omega)]
    omega
  · rw [if_neg h]
    have hr0 : 0 ≤ r ∧ r < B := by
      by_cases ha : 0 ≤ a.toInt
      · exact r1 ha
      · have r3 := r2 (by omega)
        have : r = 0 := Classical.byContradiction fun hne => h ⟨fun e => hne (by rw [← hr, e, Int64.toInt_zero]), hx.mpr (by rw [Int64.lt_iff_toInt_lt, Int64.toInt_zero]; omega)⟩
        omega
    refine ⟨r.toNat, by omega, Int64.toInt_inj.mp ?_⟩
    rw [hr, lN_toInt (by omega)]
    omega
theorem fMod_nI (a b : Int64) (B : Nat) (hb : b.toInt = B) (hB : B = 12 ∨ B = 4) (hm : b.toBitVec.msb = false) : (fMod a b).toInt32 = nI (fMod a b).toInt32.toNatClampNeg ∧ (fMod a b).toInt32.toNatClampNeg < B := by
  obtain ⟨t, h1, h2⟩ := fMod_lN a b B hb hB hm
  rw [h2, lN_i, nI_clamp (by omega)]
  exact ⟨rfl, h1⟩
theorem fMod12 (a : Int64) : (fMod a 12).toInt32 = nI (fMod a 12).toInt32.toNatClampNeg ∧ (fMod a 12).toInt32.toNatClampNeg < 12 := fMod_nI a 12 12 (by decide) (by decide) (by decide)
theorem fMod4 (a : Int64) : (fMod a 4).toInt32 = nI (fMod a 4).toInt32.toNatClampNeg ∧ (fMod a 4).toInt32.toNatClampNeg < 4 := fMod_nI a 4 4 (by decide) (by decide) (by decide)
