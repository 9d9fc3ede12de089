theorem tbl_ao : Cond.arrayOver (.object R_T) ∈ lw_tbl := by decide +kernel
theorem tbl_aoa : Cond.arrayOver (.array .int) ∈ lw_tbl := by decide +kernel
theorem EE.ao {s0 U : State} {dC : Nat → ClassId} {dI : Nat → Nat → Nat} {dA : Nat → ClassId} (B0 : BB s0 dC dI dA) (h : EE s0 U) : va_AO R_T U := by
  obtain ⟨⟨a0, h0⟩, -⟩ := B0
  exact va_AO.moved h.1.alike (va_AO.of (h0 _ tbl_ao))
theorem EE.aoa {s0 U : State} {dC : Nat → ClassId} {dI : Nat → Nat → Nat} {dA : Nat → ClassId} (B0 : BB s0 dC dI dA) (h : EE s0 U) : va_AOA .int U := by
  obtain ⟨⟨a0, h0⟩, -⟩ := B0
  exact va_AOA.moved h.1.alike (va_AOA.of (h0 _ tbl_aoa))
def mI (m : Nat) : Int32 := nI m - nI 1
theorem mI_s (m : Nat) : mI (m + 1) = nI m := by
  unfold mI
  rw [pk_sub (by omega), Nat.add_sub_cancel]
theorem mI_0 : mI 0 < 0 := by decide
theorem mI_dec (m : Nat) : nI m + Int32.ofInt (-1) = mI m := by
  unfold mI
  rw [Int32.sub_eq_add_neg]
  rfl
/-- the entries of a kind among the newest, the newest first -/
def roL (pl : List Nat) (p : Nat → Bool) (m : Nat) : List Nat := ((pl.drop m).filter p).reverse
theorem roL_end (pl : List Nat) (p : Nat → Bool) : roL pl p pl.length = [] := by simp [roL]
theorem roL_0 (pl : List Nat) (p : Nat → Bool) : roL pl p 0 = (pl.filter p).reverse := by simp [roL]
theorem roL_yes {pl : List Nat} {p : Nat → Bool} {m t : Nat} (ht : pl[m]? = some t) (hp : p t = true) : roL pl p m = roL pl p (m + 1) ++ [t] := by
  have hm := (List.getElem?_eq_some_iff.mp ht).1
  have e : pl.drop m = t :: pl.drop (m + 1) := by
    rw [List.drop_eq_getElem_cons hm]
    congr 1
    exact (List.getElem?_eq_some_iff.mp ht).2
  unfold roL
  rw [e, List.filter_cons, if_pos hp, List.reverse_cons]
theorem roL_no {pl : List Nat} {p : Nat → Bool} {m t : Nat} (ht : pl[m]? = some t) (hp : p t = false) : roL pl p m = roL pl p (m + 1) := by
  have hm := (List.getElem?_eq_some_iff.mp ht).1
  have e : pl.drop m = t :: pl.drop (m + 1) := by
    rw [List.drop_eq_getElem_cons hm]
    congr 1
    exact (List.getElem?_eq_some_iff.mp ht).2
  unfold roL
  rw [e, List.filter_cons, if_neg (by rw [hp]; decide)]
theorem roL_len (pl : List Nat) (p : Nat → Bool) (m : Nat) : (roL pl p m).length ≤ pl.length - m := by
  unfold roL
  rw [List.length_reverse]
  have h := List.length_filter_le p (pl.drop m)
  rw [List.length_drop] at h
  exact h
theorem cP_row {fr : Nat → Option Nat} {L : List Nat} {st t : Nat} (h : cP (fun j => fr (st + j)) L) : cP (fun j => va_up fr (st + L.length) (some t) (st + j)) (L ++ [t]) := by
  have h2 := cP_app (t := t) h
  have e : (fun j => va_up fr (st + L.length) (some t) (st + j)) = va_up (fun j => fr (st + j)) L.length (some t) := by
    funext j
    by_cases hj : j = L.length
    · rw [hj, va_up_self, va_up_self]
    · rw [va_up_ne _ _ hj, va_up_ne _ _ (by omega)]
  rw [e]
  exact h2
