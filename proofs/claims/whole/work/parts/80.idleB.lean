/-! ===== the whole object at rest; AD: 0 to 26 as in a session, 27 the object, 28 the scratch memory (29 traces, 30 cache, 31 tallies) ===== -/
def Inj2 (AD : Nat → Nat) : Prop := ∀ i j, i < 32 → j < 32 → AD i = AD j → i = j
theorem Inj2.one {AD : Nat → Nat} (h : Inj2 AD) : Inj AD := fun i j hi hj => h i j (by omega) (by omega)
theorem Inj2.ne {AD : Nat → Nat} (h : Inj2 AD) {i j : Nat} (hi : i < 32) (hj : j < 32) (n : i ≠ j) : AD i ≠ AD j := fun e => n (h i j hi hj e)
theorem ct_inj {AD : Nat → Nat} {st : Nat → Nat} {D : Nat → fw_W} (mono : ∀ s z, D s z ≠ none → D (s + 1) z ≠ none) (hN : ∀ i, i < 32 → D (st i) (AD i) = none) (hY : ∀ i, i < 32 → D (st i + 1) (AD i) ≠ none) (hG : ∀ i j, i < 32 → j < 32 → st i = st j → AD i = AD j → i = j) : Inj2 AD := by
  have mono2 : ∀ (d s : Nat) (z : Nat), D s z ≠ none → D (s + d) z ≠ none := by
    intro d
    induction d with
    | zero => exact fun s z h => h
    | succ d ih => exact fun s z h => mono (s + d) z (ih s z h)
  intro i j hi hj e
  rcases Nat.lt_trichotomy (st i) (st j) with h | h | h
  · refine absurd (hN j hj) ?_
    rw [← e, show st j = st i + 1 + (st j - st i - 1) by omega]
    exact mono2 _ _ _ (hY i hi)
  · exact hG i j hi hj h e
  · refine absurd (hN i hi) ?_
    rw [e, show st i = st j + 1 + (st i - st j - 1) by omega]
    exact mono2 _ _ _ (hY j hj)
def AD0 (h q1 q2 q3 q4 t1 t2 t3 s1 s2 s3 a1 a2 a3 a4 : Nat) (na : Nat → Nat) : Nat → Nat := fun i => if 10 ≤ i ∧ i < 27 then na (i - 10) else match i with
  | 0 => q4
  | 1 => a1
  | 2 => a2
  | 3 => a3
  | 4 => a4
  | 5 => q2
  | 6 => t1
  | 7 => t2
  | 8 => t3
  | 9 => q1
  | 27 => h
  | 28 => q3
  | 29 => s1
  | 30 => s2
  | _ => s3
def ct_st : Nat → Nat := fun i => if 10 ≤ i ∧ i < 27 then 2 else match i with
  | 0 => 7
  | 1 => 8
  | 2 => 8
  | 3 => 8
  | 4 => 8
  | 5 => 3
  | 6 => 4
  | 7 => 4
  | 8 => 4
  | 9 => 1
  | 27 => 0
  | 28 => 5
  | 29 => 6
  | 30 => 6
  | _ => 6
theorem AD0_na {h q1 q2 q3 q4 t1 t2 t3 s1 s2 s3 a1 a2 a3 a4 : Nat} {na : Nat → Nat} {i : Nat} (hi : i < 17) : AD0 h q1 q2 q3 q4 t1 t2 t3 s1 s2 s3 a1 a2 a3 a4 na (10 + i) = na i := by
  unfold AD0
  rw [if_pos (by omega), show 10 + i - 10 = i by omega]
/-- an index is a block's or one of fifteen -/
theorem ad_split {p : Nat → Prop} (hb : ∀ i, i < 17 → p (10 + i)) (h0 : p 0) (h1 : p 1) (h2 : p 2) (h3 : p 3) (h4 : p 4) (h5 : p 5) (h6 : p 6) (h7 : p 7) (h8 : p 8) (h9 : p 9) (h27 : p 27) (h28 : p 28) (h29 : p 29) (h30 : p 30) (h31 : p 31) : ∀ i, i < 32 → p i := by
  intro i hi
  by_cases h : 10 ≤ i ∧ i < 27
  · have := hb (i - 10) (by omega)
    rw [show 10 + (i - 10) = i by omega] at this
    exact this
  · rcases (show i = 0 ∨ i = 1 ∨ i = 2 ∨ i = 3 ∨ i = 4 ∨ i = 5 ∨ i = 6 ∨ i = 7 ∨ i = 8 ∨ i = 9 ∨ i = 27 ∨ i = 28 ∨ i = 29 ∨ i = 30 ∨ i = 31 by omega) with rfl | rfl | rfl | rfl | rfl | rfl | rfl | rfl | rfl | rfl | rfl | rfl | rfl | rfl | rfl <;> assumption
theorem ct_grp {i j : Nat} (hi : i < 32) (hj : j < 32) (h : ct_st i = ct_st j) : i = j ∨ (10 ≤ i ∧ i < 27 ∧ 10 ≤ j ∧ j < 27) ∨ (6 ≤ i ∧ i < 9 ∧ 6 ≤ j ∧ j < 9) ∨ (29 ≤ i ∧ i < 32 ∧ 29 ≤ j ∧ j < 32) ∨ (1 ≤ i ∧ i < 5 ∧ 1 ≤ j ∧ j < 5) := by
  have := (by decide +kernel : ∀ i j : Fin 32, ct_st i.1 = ct_st j.1 → i.1 = j.1 ∨ (10 ≤ i.1 ∧ i.1 < 27 ∧ 10 ≤ j.1 ∧ j.1 < 27) ∨ (6 ≤ i.1 ∧ i.1 < 9 ∧ 6 ≤ j.1 ∧ j.1 < 9) ∨ (29 ≤ i.1 ∧ i.1 < 32 ∧ 29 ≤ j.1 ∧ j.1 < 32) ∨ (1 ≤ i.1 ∧ i.1 < 5 ∧ 1 ≤ j.1 ∧ j.1 < 5))
  exact this ⟨i, hi⟩ ⟨j, hj⟩ h
theorem ct_hG {h q1 q2 q3 q4 t1 t2 t3 s1 s2 s3 a1 a2 a3 a4 : Nat} {na : Nat → Nat} (hna : ∀ i j, i < 17 → j < 17 → na i = na j → i = j) (t12 : t1 ≠ t2) (t13 : t1 ≠ t3) (t23 : t2 ≠ t3) (s12 : s1 ≠ s2) (s13 : s1 ≠ s3) (s23 : s2 ≠ s3) (a12 : a1 ≠ a2) (a13 : a1 ≠ a3) (a14 : a1 ≠ a4) (a23 : a2 ≠ a3) (a24 : a2 ≠ a4) (a34 : a3 ≠ a4) :
    ∀ i j, i < 32 → j < 32 → ct_st i = ct_st j → AD0 h q1 q2 q3 q4 t1 t2 t3 s1 s2 s3 a1 a2 a3 a4 na i = AD0 h q1 q2 q3 q4 t1 t2 t3 s1 s2 s3 a1 a2 a3 a4 na j → i = j := by
  intro i j hi hj hs e
  rcases ct_grp hi hj hs with hh | hh | hh | hh | hh
  · exact hh
  · have ei := AD0_na (h := h) (q1 := q1) (q2 := q2) (q3 := q3) (q4 := q4) (t1 := t1) (t2 := t2) (t3 := t3) (s1 := s1) (s2 := s2) (s3 := s3) (a1 := a1) (a2 := a2) (a3 := a3) (a4 := a4) (na := na) (i := i - 10) (by omega)
    have ej := AD0_na (h := h) (q1 := q1) (q2 := q2) (q3 := q3) (q4 := q4) (t1 := t1) (t2 := t2) (t3 := t3) (s1 := s1) (s2 := s2) (s3 := s3) (a1 := a1) (a2 := a2) (a3 := a3) (a4 := a4) (na := na) (i := j - 10) (by omega)
    rw [show 10 + (i - 10) = i by omega] at ei
    rw [show 10 + (j - 10) = j by omega] at ej
    have := hna (i - 10) (j - 10) (by omega) (by omega) (by rw [← ei, ← ej]; exact e)
    omega
  · rcases (show i = 6 ∨ i = 7 ∨ i = 8 by omega) with rfl | rfl | rfl <;> rcases (show j = 6 ∨ j = 7 ∨ j = 8 by omega) with rfl | rfl | rfl <;> first | rfl | exact absurd e t12 | exact absurd e t13 | exact absurd e t23 | exact absurd e.symm t12 | exact absurd e.symm t13 | exact absurd e.symm t23
  · rcases (show i = 29 ∨ i = 30 ∨ i = 31 by omega) with rfl | rfl | rfl <;> rcases (show j = 29 ∨ j = 30 ∨ j = 31 by omega) with rfl | rfl | rfl <;> first | rfl | exact absurd e s12 | exact absurd e s13 | exact absurd e s23 | exact absurd e.symm s12 | exact absurd e.symm s13 | exact absurd e.symm s23
  · rcases (show i = 1 ∨ i = 2 ∨ i = 3 ∨ i = 4 by omega) with rfl | rfl | rfl | rfl <;> rcases (show j = 1 ∨ j = 2 ∨ j = 3 ∨ j = 4 by omega) with rfl | rfl | rfl | rfl <;> first | rfl | exact absurd e a12 | exact absurd e a13 | exact absurd e a14 | exact absurd e a23 | exact absurd e a24 | exact absurd e a34 | exact absurd e.symm a12 | exact absurd e.symm a13 | exact absurd e.symm a14 | exact absurd e.symm a23 | exact absurd e.symm a24 | exact absurd e.symm a34
def P_0 : PD := (fun _ => 0, fun _ => 0, fun _ => 0, fun _ _ => 0, fun _ => 0)
/-- the scratch memory: anything -/
def X4 (dA : Nat → ClassId) (AD : Nat → Nat) (w : fw_W) : Prop := ∃ (ft : Nat → Option Nat) (pl : List Nat) (fa : Nat → Int32), aM dA w (AD 28) (AD 29) (AD 30) (AD 31) ft pl fa
theorem X4.kept {dA : Nat → ClassId} {AD : Nat → Nat} {w w' : fw_W} (h : X4 dA AD w) (hk : ∀ i, 28 ≤ i → i < 32 → w' (AD i) = w (AD i)) : X4 dA AD w' := by
  obtain ⟨ft, pl, fa, a⟩ := h
  exact ⟨ft, pl, fa, a.kept (hk 28 (by omega) (by omega)) (hk 29 (by omega) (by omega)) (hk 30 (by omega) (by omega)) (hk 31 (by omega) (by omega))⟩
/-- the object at rest -/
def RB (dA : Nat → ClassId) (AD : Nat → Nat) (Fz : Nat → Prop) (w : fw_W) (P : PD) (tr : Nat → Option tv) (cl : List tv) (ta : Nat → Int32) : Prop :=
  w (AD 27) = some (.inr (4, [.ref (AD 9), .ref (AD 5), .ref (AD 28), .ref (AD 0)])) ∧ SI dA AD w ∧ M4 dA AD Fz w tr cl ta ∧ X4 dA AD w ∧ P6 dA AD w P ∧ ((∀ i, i < 32 → ¬ Fz (AD i)) ∧ ∀ q, Fz q → w q ≠ none) ∧ p_ok P ∧ ∀ k, p_rl P k < 10
/-- only the object's own cells change, and cells may come -/
def Oth (AD : Nat → Nat) (w w' : fw_W) : Prop := ∀ (q : Nat) (e : va_E), w q = some e → (∀ i, i < 32 → q ≠ AD i) → w' q = some e
theorem Oth.rf {AD : Nat → Nat} {w : fw_W} : Oth AD w w := fun _ _ h _ => h
theorem Oth.tr {AD : Nat → Nat} {w w1 w2 : fw_W} (h1 : Oth AD w w1) (h2 : Oth AD w1 w2) : Oth AD w w2 := fun q e h n => h2 q e (h1 q e h n) n
/-- one stage of the constructor: a new object, its own constructor, the field -/
theorem ct_step {u v x y : fw_W} {h q : Nat} {E E' : va_E} (hn : u q = none) (ev : v = va_up u q (some E)) (hf : ∀ z, v z ≠ none → z ≠ q → x z = v z) (ey : y = va_up x h (some E')) : ∀ (z : Nat) (e : va_E), u z = some e → z ≠ h → y z = some e := by
  intro z e hz hh
  have n1 : z ≠ q := fun e9 => by rw [e9, hn] at hz; cases hz
  have hv : v z = some e := by rw [ev, va_up_ne _ _ n1]; exact hz
  rw [ey, va_up_ne _ _ hh, hf z (by rw [hv]; exact fun h => by cases h) n1]
  exact hv
theorem ne_some {w : fw_W} {q : Nat} {e : va_E} (h : w q = some e) : w q ≠ none := fun h2 => by rw [h] at h2; cases h2
theorem some_ne {w : fw_W} {q : Nat} (h : w q ≠ none) : ∃ e, w q = some e := by
  cases hw : w q with
  | none => exact absurd hw h
  | some e => exact ⟨e, rfl⟩
theorem mu_ne {u : fw_W} {q : Nat} {E : va_E} (z : Nat) (hz : u z ≠ none) : va_up u q (some E) z ≠ none := by
  by_cases e9 : z = q
  · rw [e9, va_up_self]; exact fun h9 => by cases h9
  · rw [va_up_ne _ _ e9]; exact hz
theorem mu_call {v x : fw_W} {q : Nat} (hr : ∀ z, v z ≠ none → z ≠ q → x z = v z) (hq : x q ≠ none) (z : Nat) (hz : v z ≠ none) : x z ≠ none := by
  by_cases e9 : z = q
  · rw [e9]; exact hq
  · rw [hr z hz e9]; exact hz
