/-- how many of the first n of worker wk's traces there are -/
def cntS (ft : Nat → Option Nat) (wk : Nat) : Nat → Nat
  | 0 => 0
  | n + 1 => cntS ft wk n + (if ft (wk * 12 + n) = none then 0 else 1)
theorem cntS_le (ft : Nat → Option Nat) (wk : Nat) : ∀ n, cntS ft wk n ≤ n
  | 0 => Nat.le_refl 0
  | n + 1 => by
    have h := cntS_le ft wk n
    unfold cntS
    split <;> omega
def cP (fc : Nat → Option Nat) (pl : List Nat) : Prop := ∀ (i t : Nat), pl[i]? = some t → fc i = some t
def cN (fc : Nat → Option Nat) (n : Nat) : Prop := ∀ i : Nat, n ≤ i → i < 16 → fc i = none
/-- a Memory object: its traces ft, its cache's entries pl (addresses, the oldest first), its tallies fa -/
def aM (dA : Nat → ClassId) (w : fw_W) (h tr ca ta : Nat) (ft : Nat → Option Nat) (pl : List Nat) (fa : Nat → Int32) : Prop := ∃ fc : Nat → Option Nat, w h = some (.inr (0, [.ref tr, .ref ca, .int (nI pl.length), .ref ta])) ∧ w tr = some (.inl (dA 3, 24, .inr (.inr (.inr (.inr ft))))) ∧ w ca = some (.inl (dA 3, 16, .inr (.inr (.inr (.inr fc))))) ∧ w ta = some (.inl (dA 0, 11, .inl fa)) ∧ pl.length ≤ 16 ∧ cP fc pl ∧ cN fc pl.length
def oT (w : fw_W) (t o : Nat) : Prop := ∃ x1 x2 x3 x4 : Value, w t = some (.inr (3, [.int (nI o), x1, x2, x3, x4]))
theorem pI_neg {x : Int32} {cs : Nat} (hcs : cs < 2 ^ 31) (h : ¬ x < 0) (h2 : x < nI cs) : ∃ j, j < cs ∧ x = nI j := by
  obtain ⟨j, hj, rfl⟩ := nI_of h
  exact ⟨j, (nI_ltI hj hcs).mp h2, rfl⟩
def dropF (ft : Nat → Option Nat) (wk n : Nat) : Nat → Option Nat := fun z => if 12 * wk ≤ z ∧ z < 12 * wk + n then none else ft z
theorem dropF_0 (ft : Nat → Option Nat) (wk : Nat) : dropF ft wk 0 = ft := by
  funext z
  unfold dropF
  rw [if_neg (by omega)]
theorem dropF_up (ft : Nat → Option Nat) (wk n : Nat) : va_up (dropF ft wk n) (12 * wk + n) none = dropF ft wk (n + 1) := by
  funext z
  unfold va_up dropF
  by_cases h : z = 12 * wk + n
  · rw [if_pos h, if_pos (by omega)]
  · rw [if_neg h]
    by_cases h2 : 12 * wk ≤ z ∧ z < 12 * wk + n
    · rw [if_pos h2, if_pos (by omega)]
    · rw [if_neg h2, if_neg (by omega)]
theorem cP_to {fc fc' : Nat → Option Nat} {pl pl' : List Nat} (h : cP fc pl) (g : Nat → Nat) (h1 : ∀ i t : Nat, pl'[i]? = some t → pl[g i]? = some t) (h2 : ∀ i : Nat, i < pl'.length → fc' i = fc (g i)) : cP fc' pl' := fun i t hi => by
  rw [h2 i (List.getElem?_eq_some_iff.mp hi).1]
  exact h (g i) t (h1 i t hi)
theorem gt_sub {a b : Nat} (ha : a < 2 ^ 30) (hb : b < 2 ^ 30) (h : a ≤ b) : ¬ (0 : Int32) < nI a - nI b := by
  rw [Int32.lt_iff_toInt_lt, pk_sub_toInt ha hb, Int32.toInt_zero]
  omega
theorem gt_nI {a : Nat} (h0 : 0 < a) (ha : a < 2 ^ 31) : (0 : Int32) < nI a := by
  rw [Int32.lt_iff_toInt_lt, nI_toInt ha, Int32.toInt_zero]
  omega
theorem cP_drop {fc fc' : Nat → Option Nat} {pl : List Nat} {g : Nat} (h : cP fc pl) (h2 : ∀ i : Nat, i < pl.length - g → fc' i = fc (i + g)) : cP fc' (pl.drop g) := by
  refine cP_to h (fun i => i + g) (fun i t hi => ?_) (fun i hi => h2 i (by rw [List.length_drop] at hi; exact hi))
  rw [List.getElem?_drop, Nat.add_comm] at hi
  exact hi
theorem cP_app {fc : Nat → Option Nat} {pl : List Nat} {t : Nat} (h : cP fc pl) : cP (va_up fc pl.length (some t)) (pl ++ [t]) := by
  intro i u hi
  by_cases hl : i < pl.length
  · rw [List.getElem?_append_left hl] at hi
    rw [va_up_ne _ _ (by omega)]
    exact h i u hi
  · rw [List.getElem?_append_right (by omega)] at hi
    have h1 : i - pl.length < 1 := (List.getElem?_eq_some_iff.mp hi).1
    have h2 : i = pl.length := by omega
    subst h2
    simp at hi
    rw [va_up_self, hi]
/-- the entries kept of the first i -/
theorem cP_filt {fx : Nat → Option Nat} {pl : List Nat} {p : Nat → Bool} {i t : Nat} (ht : pl[i]? = some t) (h1 : cP fx ((pl.take i).filter p)) (hp : p t = true) : cP (va_up fx ((pl.take i).filter p).length (some t)) ((pl.take (i + 1)).filter p) := by
  have e : (pl.take (i + 1)).filter p = (pl.take i).filter p ++ [t] := by
    rw [List.take_succ, ht, List.filter_append]
    simp [hp]
  rw [e]
  exact cP_app h1
theorem cP_skip {pl : List Nat} {p : Nat → Bool} {i t : Nat} (ht : pl[i]? = some t) (hp : p t = false) : (pl.take (i + 1)).filter p = (pl.take i).filter p := by
  rw [List.take_succ, ht, List.filter_append]
  simp [hp]
theorem filt_len {pl : List Nat} {p : Nat → Bool} {i : Nat} : ((pl.take i).filter p).length ≤ i := by
  have h1 := List.length_filter_le p (pl.take i)
  have h2 := List.length_take_le i pl
  omega
theorem filt_one {pl : List Nat} {p : Nat → Bool} {i t : Nat} (ht : pl[i]? = some t) (hp : p t = true) : ((pl.take (i + 1)).filter p).length = ((pl.take i).filter p).length + 1 := by
  rw [List.take_succ, ht, List.filter_append]
  simp [hp]
theorem cN_app {fc : Nat → Option Nat} {n t : Nat} (h : cN fc n) : cN (va_up fc n (some t)) (n + 1) := fun i h1 h2 => by
  rw [va_up_ne _ _ (by omega)]
  exact h i (by omega) h2
