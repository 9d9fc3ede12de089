theorem hcy_int {D : va_G} {cl : List vw_C} {dA : Nat → ClassId} {s : State} (hK : va_K D cl (tyl dA) s) : s.vm.findClass (FieldType.array .int).toString = some (dA 0) := (hK.2 0 _ rfl).2
def naP (ki va ru pa pc : Nat) (ra : Nat → Nat) : Nat → Nat := fun i => match i with
  | 0 => ki
  | 1 => va
  | 2 => ru
  | 3 => pa
  | 4 => pc
  | i + 5 => ra i
theorem naP_inj {ki va ru pa pc : Nat} {ra : Nat → Nat} (h01 : ki ≠ va) (h02 : ki ≠ ru) (h03 : ki ≠ pa) (h04 : ki ≠ pc) (h12 : va ≠ ru) (h13 : va ≠ pa) (h14 : va ≠ pc) (h23 : ru ≠ pa) (h24 : ru ≠ pc) (h34 : pa ≠ pc) (r0 : ∀ i, i < 12 → ra i ≠ ki) (r1 : ∀ i, i < 12 → ra i ≠ va) (r2 : ∀ i, i < 12 → ra i ≠ ru) (r3 : ∀ i, i < 12 → ra i ≠ pa) (r4 : ∀ i, i < 12 → ra i ≠ pc) (rr : ∀ i j, i < 12 → j < 12 → ra i = ra j → i = j) : ∀ i j, i < 17 → j < 17 → naP ki va ru pa pc ra i = naP ki va ru pa pc ra j → i = j := by
  intro i j hi hj e
  match i, j, hi, hj, e with
  | 0, 0, _, _, _ => rfl
  | 1, 1, _, _, _ => rfl
  | 2, 2, _, _, _ => rfl
  | 3, 3, _, _, _ => rfl
  | 4, 4, _, _, _ => rfl
  | 0, 1, _, _, e => exact absurd e h01
  | 0, 2, _, _, e => exact absurd e h02
  | 0, 3, _, _, e => exact absurd e h03
  | 0, 4, _, _, e => exact absurd e h04
  | 1, 0, _, _, e => exact absurd e.symm h01
  | 1, 2, _, _, e => exact absurd e h12
  | 1, 3, _, _, e => exact absurd e h13
  | 1, 4, _, _, e => exact absurd e h14
  | 2, 0, _, _, e => exact absurd e.symm h02
  | 2, 1, _, _, e => exact absurd e.symm h12
  | 2, 3, _, _, e => exact absurd e h23
  | 2, 4, _, _, e => exact absurd e h24
  | 3, 0, _, _, e => exact absurd e.symm h03
  | 3, 1, _, _, e => exact absurd e.symm h13
  | 3, 2, _, _, e => exact absurd e.symm h23
  | 3, 4, _, _, e => exact absurd e h34
  | 4, 0, _, _, e => exact absurd e.symm h04
  | 4, 1, _, _, e => exact absurd e.symm h14
  | 4, 2, _, _, e => exact absurd e.symm h24
  | 4, 3, _, _, e => exact absurd e.symm h34
  | 0, j + 5, _, hj, e => exact absurd e.symm (r0 j (by omega))
  | 1, j + 5, _, hj, e => exact absurd e.symm (r1 j (by omega))
  | 2, j + 5, _, hj, e => exact absurd e.symm (r2 j (by omega))
  | 3, j + 5, _, hj, e => exact absurd e.symm (r3 j (by omega))
  | 4, j + 5, _, hj, e => exact absurd e.symm (r4 j (by omega))
  | i + 5, 0, hi, _, e => exact absurd e (r0 i (by omega))
  | i + 5, 1, hi, _, e => exact absurd e (r1 i (by omega))
  | i + 5, 2, hi, _, e => exact absurd e (r2 i (by omega))
  | i + 5, 3, hi, _, e => exact absurd e (r3 i (by omega))
  | i + 5, 4, hi, _, e => exact absurd e (r4 i (by omega))
  | i + 5, j + 5, hi, hj, e => rw [rr i j (by omega) (by omega) e]
