/-- how many of the first n of worker wk's traces there are -/
def cntS (ft : Nat → Option Nat) (wk : Nat) : Nat → Nat
  | 0 => 0
  | n + 1 => cntS ft wk n + (if ft (wk * 12 + n) = none then 0 else 1)
theorem cntS_le (ft : Nat → Option Nat) (wk : Nat) : ∀ n, cntS ft wk n ≤ n
  | 0 => Nat.le_refl 0
  | n + 1 => by
    have h := cntS_le ft wk n
    unfold cntS
    split <;> omega
def cP (fc : Nat → Option Nat) (pl : List Nat) : Prop := ∀ (i t : Nat), pl[i]? = some t → fc i = some t
/-- a Memory object: its traces ft, its cache's entries pl (addresses, the oldest first), its tallies fa -/
def aM (dA : Nat → ClassId) (w : fw_W) (h tr ca ta : Nat) (ft : Nat → Option Nat) (pl : List Nat) (fa : Nat → Int32) : Prop := ∃ fc : Nat → Option Nat, w h = some (.inr (0, [.ref tr, .ref ca, .int (nI pl.length), .ref ta])) ∧ w tr = some (.inl (dA 3, 24, .inr (.inr (.inr (.inr ft))))) ∧ w ca = some (.inl (dA 3, 16, .inr (.inr (.inr (.inr fc))))) ∧ w ta = some (.inl (dA 0, 11, .inl fa)) ∧ pl.length ≤ 16 ∧ cP fc pl
def oT (w : fw_W) (t o : Nat) : Prop := ∃ x1 x2 x3 x4 : Value, w t = some (.inr (3, [.int (nI o), x1, x2, x3, x4]))
theorem pI_neg {x : Int32} {cs : Nat} (hcs : cs < 2 ^ 31) (h : ¬ x < 0) (h2 : x < nI cs) : ∃ j, j < cs ∧ x = nI j := by
  obtain ⟨j, hj, rfl⟩ := nI_of h
  exact ⟨j, (nI_ltI hj hcs).mp h2, rfl⟩
