theorem arrV_congr (c : ClassId) (n : Nat) {f g : Nat → Value} (h : ∀ j, j < n → f j = g j) : arrV c n f = arrV c n g := by
  unfold arrV
  congr 1
  congr 1
  funext j
  exact h j.1 j.2
/-- an array's picture may be any that is the same within -/
theorem fw_relab {D : va_G} {cl : List vw_C} {A : Nat → Prop} {w : fw_W} {H : Heap} {a n : Nat} {c : ClassId} {f g : Nat → Int32} (hP : fw_P D cl A w H) (ha : w a = some (.inl (c, n, .inl f))) (h : ∀ j, j < n → f j = g j) : fw_P D cl A (va_up w a (some (.inl (c, n, .inl g)))) H := by
  intro q e hq
  by_cases hqa : q = a
  · subst hqa
    rw [va_up_self] at hq
    cases hq
    obtain ⟨h1, h2⟩ := hP q _ ha
    refine ⟨?_, h2⟩
    show H[q]? = some (vp_cell c (n, .inl g))
    rw [vp_cell_i, ← arrV_congr c n (f := fun j => .int (f j)) (fun j hj => by rw [h j hj]), ← vp_cell_i]
    exact h1
  · rw [va_up_ne _ _ hqa] at hq
    exact hP q e hq
def s_0 (tr : Nat → Option tv) (cl : List tv) (ta : Nat → Int32) : SS := (tr, cl, ta, fun _ => false, fun _ => false, fun _ => 0, false, 0, 0)
theorem fr_0 (tr : Nat → Option tv) (cl : List tv) (ta : Nat → Int32) : fr12 (s_0 tr cl ta) = 12 := by
  have h : ∀ n, frS (s_0 tr cl ta) n = n := by
    intro n
    induction n with
    | zero => rfl
    | succ n ih =>
      unfold frS
      rw [ih]
      rfl
  exact h 12
/-- a session's object at rest -/
def SI (dA : Nat → ClassId) (ad : Nat → Nat) (w : fw_W) : Prop := ∃ (mr wk0 ran0 fl0 : Value) (fin opn : Nat → Bool) (vf : Nat → Int64) (rows : Nat → Option Nat), w (ad 0) = some (.inr (2, [.ref (ad 9), mr, wk0, .ref (ad 1), .ref (ad 2), .ref (ad 3), .ref (ad 4), ran0, fl0])) ∧ w (ad 1) = some (.inl (dA 2, 12, .inl (zf fin))) ∧ w (ad 2) = some (.inl (dA 2, 12, .inl (zf opn))) ∧ w (ad 3) = some (.inl (dA 1, 12, .inr (.inl vf))) ∧ w (ad 4) = some (.inl (dA 3, 192, .inr (.inr (.inr (.inr rows)))))
theorem SI.of {dA : Nat → ClassId} {ad : Nat → Nat} {wk : Nat} {rows : Nat → Option Nat} {w : fw_W} {σ : SS} (h : S5 dA ad wk rows w σ) : SI dA ad w := by
  obtain ⟨a, b, c, ⟨vf, d, -⟩, f⟩ := h
  exact ⟨_, _, _, _, _, _, _, _, a, b, c, d, f⟩
theorem SI.kept {dA : Nat → ClassId} {ad : Nat → Nat} {w w' : fw_W} (h : SI dA ad w) (hk : ∀ i, i < 5 → w' (ad i) = w (ad i)) : SI dA ad w' := by
  obtain ⟨x1, x2, x3, x4, x5, x6, x7, x8, a, b, c, d, f⟩ := h
  exact ⟨x1, x2, x3, x4, x5, x6, x7, x8, (hk 0 (by omega)).trans a, (hk 1 (by omega)).trans b, (hk 2 (by omega)).trans c, (hk 3 (by omega)).trans d, (hk 4 (by omega)).trans f⟩
/-- what a whole session leaves: from w to w' -/
def VS (dA : Nat → ClassId) (ad : Nat → Nat) (P : PD) (wk : Nat) (Fz : Nat → Prop) (w w' : fw_W) (σ' : SS) : Prop := ∃ (Fz' : Nat → Prop) (rows' : Nat → Option Nat), RS dA ad Fz' P wk rows' w' σ' ∧ (∀ q, Fz q → Fz' q) ∧ (∀ q, Fz' q → Fz q ∨ w q = none) ∧ ∀ (q : Nat) (e : va_E), w q = some e → (∀ i, i < 27 → q ≠ ad i) → w' q = some e
