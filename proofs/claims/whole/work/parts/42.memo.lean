/-- how many of the first n of worker wk's traces there are -/
def cntS (ft : Nat → Option Nat) (wk : Nat) : Nat → Nat
  | 0 => 0
  | n + 1 => cntS ft wk n + (if ft (wk * 12 + n) = none then 0 else 1)
theorem cntS_le (ft : Nat → Option Nat) (wk : Nat) : ∀ n, cntS ft wk n ≤ n
  | 0 => Nat.le_refl 0
  | n + 1 => by
    have h := cntS_le ft wk n
    unfold cntS
    split <;> omega
def cP (fc : Nat → Option Nat) (pl : List Nat) : Prop := ∀ (i t : Nat), pl[i]? = some t → fc i = some t
/-- a Memory object: its traces ft, its cache's entries pl (addresses, the oldest first), its tallies fa -/
def aM (dA : Nat → ClassId) (w : fw_W) (h tr ca ta : Nat) (ft : Nat → Option Nat) (pl : List Nat) (fa : Nat → Int32) : Prop := ∃ fc : Nat → Option Nat, w h = some (.inr (0, [.ref tr, .ref ca, .int (nI pl.length), .ref ta])) ∧ w tr = some (.inl (dA 3, 24, .inr (.inr (.inr (.inr ft))))) ∧ w ca = some (.inl (dA 3, 16, .inr (.inr (.inr (.inr fc))))) ∧ w ta = some (.inl (dA 0, 11, .inl fa)) ∧ pl.length ≤ 16 ∧ cP fc pl
def oT (w : fw_W) (t o : Nat) : Prop := ∃ x1 x2 x3 x4 : Value, w t = some (.inr (3, [.int (nI o), x1, x2, x3, x4]))
theorem pI_neg {x : Int32} {cs : Nat} (hcs : cs < 2 ^ 31) (h : ¬ x < 0) (h2 : x < nI cs) : ∃ j, j < cs ∧ x = nI j := by
  obtain ⟨j, hj, rfl⟩ := nI_of h
  exact ⟨j, (nI_ltI hj hcs).mp h2, rfl⟩
def dropF (ft : Nat → Option Nat) (wk n : Nat) : Nat → Option Nat := fun z => if 12 * wk ≤ z ∧ z < 12 * wk + n then none else ft z
theorem dropF_0 (ft : Nat → Option Nat) (wk : Nat) : dropF ft wk 0 = ft := by
  funext z
  unfold dropF
  rw [if_neg (by omega)]
theorem dropF_up (ft : Nat → Option Nat) (wk n : Nat) : va_up (dropF ft wk n) (12 * wk + n) none = dropF ft wk (n + 1) := by
  funext z
  unfold va_up dropF
  by_cases h : z = 12 * wk + n
  · rw [if_pos h, if_pos (by omega)]
  · rw [if_neg h]
    by_cases h2 : 12 * wk ≤ z ∧ z < 12 * wk + n
    · rw [if_pos h2, if_pos (by omega)]
    · rw [if_neg h2, if_neg (by omega)]
theorem cP_to {fc fc' : Nat → Option Nat} {pl pl' : List Nat} (h : cP fc pl) (g : Nat → Nat) (h1 : ∀ i t : Nat, pl'[i]? = some t → pl[g i]? = some t) (h2 : ∀ i : Nat, i < pl'.length → fc' i = fc (g i)) : cP fc' pl' := fun i t hi => by
  rw [h2 i (List.getElem?_eq_some_iff.mp hi).1]
  exact h (g i) t (h1 i t hi)
theorem gt_sub {a b : Nat} (ha : a < 2 ^ 30) (hb : b < 2 ^ 30) (h : a ≤ b) : ¬ (0 : Int32) < nI a - nI b := by
  rw [Int32.lt_iff_toInt_lt, pk_sub_toInt ha hb, Int32.toInt_zero]
  omega
theorem gt_nI {a : Nat} (h0 : 0 < a) (ha : a < 2 ^ 31) : (0 : Int32) < nI a := by
  rw [Int32.lt_iff_toInt_lt, nI_toInt ha, Int32.toInt_zero]
  omega
