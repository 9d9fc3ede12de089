/-! ===== worlds as functions of the address ===== -/
abbrev fw_W : Type := Nat → Option va_E
/-- the heap holds the world w, and all its cells are of the kind A -/
def fw_P (D : va_G) (cl : List vw_C) (A : Nat → Prop) (w : fw_W) (H : Heap) : Prop := ∀ (q : Nat) (e : va_E), w q = some e → va_at D cl (q, e) H ∧ A q
def fw_L (w : fw_W) : Nat → va_W
  | 0 => []
  | n + 1 => fw_L w n ++ (match w n with | none => [] | some e => [(n, e)])
theorem fw_L_lt {w : fw_W} : ∀ {n i : Nat} {q : Nat × va_E}, (fw_L w n)[i]? = some q → q.1 < n ∧ w q.1 = some q.2
  | 0, i, q, h => by simp [fw_L] at h
  | n + 1, i, q, h => by
    have hm := List.mem_of_getElem? h
    rw [fw_L] at hm
    rcases List.mem_append.mp hm with h1 | h1
    · obtain ⟨j, hj⟩ := List.getElem?_of_mem h1
      have h2 := fw_L_lt hj
      exact ⟨Nat.lt_succ_of_lt h2.1, h2.2⟩
    · cases hw : w n with
      | none => rw [hw] at h1; simp at h1
      | some e =>
        rw [hw] at h1
        simp at h1
        subst h1
        exact ⟨Nat.lt_succ_self n, hw⟩
theorem fw_L_at {w : fw_W} : ∀ {n q : Nat} {e : va_E}, w q = some e → q < n → ∃ i : Nat, (fw_L w n)[i]? = some (q, e)
  | 0, q, e, _, h => absurd h (Nat.not_lt_zero q)
  | n + 1, q, e, hq, h => by
    apply List.getElem?_of_mem
    rw [fw_L]
    by_cases hn : q = n
    · subst hn
      rw [hq]
      simp
    · obtain ⟨i, hi⟩ := fw_L_at hq (show q < n by omega)
      exact List.mem_append_left _ (List.mem_of_getElem? hi)
theorem fw_L_D {w : fw_W} {A : Nat → Prop} (hA : ∀ (q : Nat) (e : va_E), w q = some e → A q) : ∀ (n : Nat), va_D A (fw_L w n)
  | 0 => ⟨fun i j p q h => by simp [fw_L] at h, fun k q h => by simp [fw_L] at h⟩
  | n + 1 => by
    rw [fw_L]
    cases hw : w n with
    | none =>
      show va_D A (fw_L w n ++ [])
      rw [List.append_nil]
      exact fw_L_D hA n
    | some e =>
      refine va_D.app (fw_L_D hA n) ⟨fun i j p q hi hj _ => ?_, fun k q hk => ?_⟩ (fun i j p q hi hj => ?_)
      · have h1 : i < 1 := (List.getElem?_eq_some_iff.mp hi).1
        have h2 : j < 1 := (List.getElem?_eq_some_iff.mp hj).1
        omega
      · have h1 := List.mem_of_getElem? hk
        simp at h1
        subst h1
        exact hA n e hw
      · have h1 := List.mem_of_getElem? hj
        simp at h1
        subst h1
        exact Nat.ne_of_lt (fw_L_lt hi).1
theorem fw_P.lt {D : va_G} {cl : List vw_C} {A : Nat → Prop} {w : fw_W} {H : Heap} (h : fw_P D cl A w H) {q : Nat} {e : va_E} (hq : w q = some e) : q < H.size := (h q e hq).1.lt
theorem fw_P.one {D : va_G} {cl : List vw_C} {A : Nat → Prop} {w : fw_W} {H : Heap} (h : fw_P D cl A w H) {q : Nat} {e : va_E} (hq : w q = some e) : va_P D cl [(q, e)] H := by
  intro k x hx
  have h1 := List.mem_of_getElem? hx
  simp at h1
  subst h1
  exact (h q e hq).1
/-- a world as a list -/
theorem fw_open {D : va_G} {cl : List vw_C} {A : Nat → Prop} {w : fw_W} {H : Heap} (h : fw_P D cl A w H) : ∃ ws : va_W, va_P D cl ws H ∧ va_D A ws ∧ (∀ (q : Nat) (e : va_E), w q = some e → ∃ i : Nat, ws[i]? = some (q, e)) :=
  ⟨fw_L w H.size, fun k q hk => (h q.1 q.2 (fw_L_lt hk).2).1, fw_L_D (fun q e hq => (h q e hq).2) H.size, fun q e hq => fw_L_at hq (h.lt hq)⟩
theorem fw_set {D : va_G} {cl : List vw_C} {A : Nat → Prop} {w : fw_W} {H1 : Heap} {ws : va_W} {i a : Nat} {e0 e : va_E} (hw : ∀ (q : Nat) (e : va_E), w q = some e → ∃ i : Nat, ws[i]? = some (q, e)) (hi : ws[i]? = some (a, e0)) (hP : va_P D cl (ws.set i (a, e)) H1) (hD : va_D A (ws.set i (a, e))) : fw_P D cl A (va_up w a (some e)) H1 := by
  have hl := (List.getElem?_eq_some_iff.mp hi).1
  intro q x hq
  by_cases hqa : q = a
  · subst hqa
    rw [va_up_self] at hq
    cases hq
    have h : (ws.set i (q, e))[i]? = some (q, e) := by rw [List.getElem?_set_self hl]
    exact ⟨hP i _ h, hD.2 i _ h⟩
  · rw [va_up_ne _ _ hqa] at hq
    obtain ⟨j, hj⟩ := hw q x hq
    have hji : j ≠ i := fun h => hqa (by rw [h, hi] at hj; cases hj; rfl)
    have h : (ws.set i (a, e))[j]? = some (q, x) := by rw [List.getElem?_set_ne (Ne.symm hji)]; exact hj
    exact ⟨hP j _ h, hD.2 j _ h⟩
theorem fw_push {D : va_G} {cl : List vw_C} {A : Nat → Prop} {w : fw_W} {H1 : Heap} {ws : va_W} {a : Nat} {e : va_E} (hw : ∀ (q : Nat) (e : va_E), w q = some e → ∃ i : Nat, ws[i]? = some (q, e)) (hP : va_P D cl (ws ++ [(a, e)]) H1) (hD : va_D A (ws ++ [(a, e)])) : w a = none ∧ fw_P D cl A (va_up w a (some e)) H1 := by
  have hlast : (ws ++ [(a, e)])[ws.length]? = some (a, e) := by simp
  have hold : ∀ (j : Nat) (q : Nat × va_E), ws[j]? = some q → (ws ++ [(a, e)])[j]? = some q := fun j q hj => by
    rw [List.getElem?_append_left (List.getElem?_eq_some_iff.mp hj).1]
    exact hj
  constructor
  · cases hn : w a with
    | none => rfl
    | some x =>
      obtain ⟨j, hj⟩ := hw a x hn
      have h1 := hD.1 j ws.length _ _ (hold j _ hj) hlast rfl
      have h2 := (List.getElem?_eq_some_iff.mp hj).1
      omega
  · intro q x hq
    by_cases hqa : q = a
    · subst hqa
      rw [va_up_self] at hq
      cases hq
      exact ⟨hP _ _ hlast, hD.2 _ _ hlast⟩
    · rw [va_up_ne _ _ hqa] at hq
      obtain ⟨j, hj⟩ := hw q x hq
      exact ⟨hP j _ (hold j _ hj), hD.2 j _ (hold j _ hj)⟩
theorem fw_ne {w : fw_W} {a b : Nat} {x y : va_E} (ha : w a = some x) (hb : w b = some y) (h : x ≠ y) : a ≠ b := fun q => h (Option.some.inj (ha.symm.trans ((congrArg w q).trans hb)))
theorem fw_neN {w : fw_W} {a b : Nat} {x : va_E} (ha : w a = some x) (hb : w b = none) : a ≠ b := fun q => by rw [q, hb] at ha; cases ha
