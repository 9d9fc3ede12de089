section PUBX
variable {dA : Nat → ClassId} {AD : Nat → Nat} {Fz Fz1 : Nat → Prop} {w w1 w2 : fw_W} {P P' : PD} {tr tr' : Nat → Option tv} {cl cl' : List tv} {ta ta' : Nat → Int32} {β β' : BS}
theorem VB.of (h : RBb dA AD Fz w1 β') (ho : Oth AD w w1) : VB dA AD Fz w w1 β' := ⟨Fz, h, fun _ h => Or.inl h, ho⟩
theorem VB.one (h : RBb dA AD Fz w1 β' ∧ Oth AD w w1) : VB dA AD Fz w w1 β' := VB.of h.1 h.2
/-- the plan with the kind of one key set to nothing -/
theorem P6.no (hinj : Inj2 AD) (h : P6 dA AD w P) {k : Nat} (hw : w1 = va_up w (AD 10) (some (.inl (dA 0, 12, .inl (nf (va_up (p_kd P) k 0)))))) : P6 dA AD w1 (pNo P k) := by
  have hk : ∀ i, i ≠ 10 → i < 32 → w1 (AD i) = w (AD i) := fun i h1 h2 => by rw [hw, va_up_ne _ _ (hinj.ne h2 (by omega) h1)]
  obtain ⟨a, b, c, d, ⟨rows, e, e2⟩, f, g, r⟩ := h
  exact ⟨(hk 9 (by omega) (by omega)).trans a, by rw [hw]; exact va_up_self _ _ _, (hk 11 (by omega) (by omega)).trans c, (hk 12 (by omega) (by omega)).trans d, ⟨rows, (hk 13 (by omega) (by omega)).trans e, e2⟩, fun k hk2 => (hk (15 + k) (by omega) (by omega)).trans (f k hk2), (hk 14 (by omega) (by omega)).trans g, r⟩
/-- back from a session -/
theorem RB.ofRS {wk : Nat} {rows : Nat → Option Nat} {σ : SS} (hR : RS dA AD Fz1 P wk rows w1 σ) (hinj : Inj2 AD) (hB : RB dA AD Fz w P tr cl ta) (hnew : ∀ q, Fz1 q → Fz q ∨ w q = none) (hk : ∀ (q : Nat) (e : va_E), w q = some e → (∀ i, i < 27 → q ≠ AD i) → w1 q = some e) : RB dA AD Fz1 w1 P (s_tr σ) (s_cl σ) (s_ta σ) ∧ Oth AD w w1 := by
  have hb := hB.blk
  have hkk : ∀ i, 27 ≤ i → i < 32 → w1 (AD i) = w (AD i) := fun i h1 h2 => by
    obtain ⟨e, he⟩ := some_ne (hb i h2)
    rw [he]
    exact hk _ _ he (fun j hj => hinj.ne h2 (by omega) (by omega))
  obtain ⟨h27, -, -, hX, -, ⟨hn, -⟩, hpo, hrl⟩ := hB
  refine ⟨⟨(hkk 27 (by omega) (by omega)).trans h27, SI.of hR.1, hR.2.1, hX.kept (fun i h1 h2 => hkk i (by omega) h2), hR.2.2.1, ⟨fun i hi h9 => ?_, hR.2.2.2.1.2⟩, hpo, hrl⟩, fun q e hq hn9 => hk q e hq (fun i hi => hn9 i (by omega))⟩
  rcases hnew _ h9 with h8 | h8
  · exact hn i hi h8
  · exact hb i hi h8
theorem dm_12 (P : PD) (wk k : Nat) (tr : Nat → Option tv) (cl : List tv) (ta : Nat → Int32) : dm (s_0 tr cl ta) (sv P wk 13 k (s_0 tr cl ta)).2 ≤ 12 := by
  have h := (Kp_sv P wk 13 k (s_0 tr cl ta)).2.2.2
  rw [fr_0] at h
  unfold dm
  have e : s_md (s_0 tr cl ta) = 0 := rfl
  omega
/-- the scratch memory in the memory's place -/
def adX (AD : Nat → Nat) : Nat → Nat := fun i => if 5 ≤ i ∧ i < 9 then AD (23 + i) else AD i
theorem adX_ne {i : Nat} (h : i < 5 ∨ 9 ≤ i) : adX AD i = AD i := if_neg (by omega)
theorem adX_in {i : Nat} (h1 : 5 ≤ i) (h2 : i < 9) : adX AD i = AD (23 + i) := if_pos ⟨h1, h2⟩
theorem adX_inj (h : Inj2 AD) : Inj (adX AD) := by
  intro i j hi hj e
  by_cases h1 : 5 ≤ i ∧ i < 9 <;> by_cases h2 : 5 ≤ j ∧ j < 9
  · rw [adX_in h1.1 h1.2, adX_in h2.1 h2.2] at e
    have := h _ _ (by omega) (by omega) e
    omega
  · rw [adX_in h1.1 h1.2, adX_ne (by omega)] at e
    have := h _ _ (by omega) (by omega) e
    omega
  · rw [adX_ne (by omega), adX_in h2.1 h2.2] at e
    have := h _ _ (by omega) (by omega) e
    omega
  · rw [adX_ne (by omega), adX_ne (by omega)] at e
    exact h _ _ (by omega) (by omega) e
theorem adX_out (h : Inj2 AD) {j : Nat} (hj : j = 27 ∨ (5 ≤ j ∧ j < 9)) : ∀ i, i < 27 → AD j ≠ adX AD i := by
  intro i hi
  by_cases h1 : 5 ≤ i ∧ i < 9
  · rw [adX_in h1.1 h1.2]; exact h.ne (by omega) (by omega) (by omega)
  · rw [adX_ne (by omega)]; exact h.ne (by omega) (by omega) (by omega)
theorem adX_is {i : Nat} : ∃ j, j < 32 ∧ (i < 27 → adX AD i = AD j) := by
  by_cases h1 : 5 ≤ i ∧ i < 9
  · exact ⟨23 + i, by omega, fun _ => adX_in h1.1 h1.2⟩
  · by_cases h2 : i < 27
    · exact ⟨i, by omega, fun _ => adX_ne (by omega)⟩
    · exact ⟨0, by omega, fun h => absurd h h2⟩
theorem P6.x (h : P6 dA AD w P) : P6 dA (adX AD) w P := by
  have e : (fun k => adX AD (15 + k)) = fun k => AD (15 + k) := funext (fun k => adX_ne (by omega))
  unfold P6
  rw [e]
  exact h
theorem P6.unx (h : P6 dA (adX AD) w P) : P6 dA AD w P := by
  have e : (fun k => adX AD (15 + k)) = fun k => AD (15 + k) := funext (fun k => adX_ne (by omega))
  unfold P6 at h
  rw [e] at h
  exact h
theorem SI.x (h : SI dA AD w) : SI dA (adX AD) w := h
theorem SI.unx (h : SI dA (adX AD) w) : SI dA AD w := h
end PUBX
