/-! ===== traces as values: the owner, what was asked for and got, the value that came of it ===== -/
abbrev tv : Type := Nat × List (Nat × Int64) × Int64
def noteL (L : List (Nat × Int64)) (k : Nat) (v : Int64) : List (Nat × Int64) := if L.length < 3 ∧ ∀ q ∈ L, q.1 ≠ k then L ++ [(k, v)] else L
/-- a Trace object at h, its arrays at kt and vt -/
def aT (dA : Nat → ClassId) (w : fw_W) (h kt vt o : Nat) (L : List (Nat × Int64)) (res : Int64) : Prop := ∃ (fk : Nat → Int32) (fv : Nat → Int64), w h = some (.inr (3, [.int (nI o), .ref kt, .ref vt, .int (nI L.length), .long res])) ∧ w kt = some (.inl (dA 0, 3, .inl fk)) ∧ w vt = some (.inl (dA 1, 3, .inr (.inl fv))) ∧ L.length ≤ 3 ∧ ∀ (i : Nat) (q : Nat × Int64), L[i]? = some q → fk i = nI q.1 ∧ fv i = q.2 ∧ q.1 < 12
theorem aT.kept {dA : Nat → ClassId} {w w' : fw_W} {h kt vt o : Nat} {L : List (Nat × Int64)} {res : Int64} (hT : aT dA w h kt vt o L res) (h1 : w' h = w h) (h2 : w' kt = w kt) (h3 : w' vt = w vt) : aT dA w' h kt vt o L res := by
  obtain ⟨fk, fv, a, b, c, d⟩ := hT
  exact ⟨fk, fv, h1.trans a, h2.trans b, h3.trans c, d⟩
theorem aT_has {L : List (Nat × Int64)} {fk : Nat → Int32} {fv : Nat → Int64} {k : Nat} (hk : k < 12) (hL : ∀ (i : Nat) (q : Nat × Int64), L[i]? = some q → fk i = nI q.1 ∧ fv i = q.2 ∧ q.1 < 12) : (∃ j, j < L.length ∧ fk j = nI k) ↔ ¬ ∀ q ∈ L, q.1 ≠ k := by
  constructor
  · rintro ⟨j, hj, e⟩ h
    have hq : L[j]? = some L[j] := List.getElem?_eq_getElem hj
    obtain ⟨e1, -, e3⟩ := hL j _ hq
    exact h _ (List.getElem_mem hj) ((nI_eq (by omega) (by omega)).mp (e1.symm.trans e))
  · intro h
    refine Classical.byContradiction fun hn => h fun q hq e => hn ?_
    obtain ⟨j, hj⟩ := List.getElem?_of_mem hq
    exact ⟨j, (List.getElem?_eq_some_iff.mp hj).1, by rw [(hL j q hj).1, e]⟩
theorem aT_note {L : List (Nat × Int64)} {fk : Nat → Int32} {fv : Nat → Int64} {k : Nat} {v : Int64} (hk : k < 12) (h3 : L.length < 3) (hL : ∀ (i : Nat) (q : Nat × Int64), L[i]? = some q → fk i = nI q.1 ∧ fv i = q.2 ∧ q.1 < 12) : ∀ (i : Nat) (q : Nat × Int64), (L ++ [(k, v)])[i]? = some q → upd fk L.length (nI k) i = nI q.1 ∧ vp_updL fv L.length v i = q.2 ∧ q.1 < 12 := by
  intro i q hq
  by_cases hi : i < L.length
  · rw [List.getElem?_append_left hi] at hq
    rw [pk_un (by omega), pk_uLn (by omega)]
    exact hL i q hq
  · rw [List.getElem?_append_right (by omega)] at hq
    have h1 : i - L.length < 1 := (List.getElem?_eq_some_iff.mp hq).1
    have h2 : i = L.length := by omega
    subst h2
    simp at hq
    subst hq
    exact ⟨pk_us, pk_uLs, hk⟩
