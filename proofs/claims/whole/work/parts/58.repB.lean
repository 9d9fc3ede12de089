def VQ (dA : Nat → ClassId) (ad : Nat → Nat) (P : PD) (wk : Nat) (Fz : Nat → Prop) (rows : Nat → Option Nat) (w : fw_W) (σ : SS) (Fz' : Nat → Prop) (rows' : Nat → Option Nat) (w' : fw_W) (σ' : SS) : Prop :=
  RS dA ad Fz' P wk rows' w' σ' ∧ (∀ q, Fz q → Fz' q) ∧ (∀ q, Fz' q → Fz q ∨ w q = none) ∧ (∀ (q : Nat) (e : va_E), w q = some e → (∀ i, i < 27 → q ≠ ad i) → w' q = some e) ∧ ∀ z, s_opn σ (z / 16) = true → rows' z = rows z
section VQS
variable {dA : Nat → ClassId} {ad : Nat → Nat} {P : PD} {wk : Nat} {Fz Fz1 Fz2 : Nat → Prop} {rows rows1 rows2 : Nat → Option Nat} {w w1 w2 : fw_W} {σ σ1 σ2 : SS}
theorem VQ.p (h : VQ dA ad P wk Fz rows w σ Fz1 rows1 w1 σ1) : VP dA ad P wk Fz rows w σ w1 σ1 := ⟨Fz1, rows1, h⟩
theorem VQ.rf (h : RS dA ad Fz P wk rows w σ) : VQ dA ad P wk Fz rows w σ Fz rows w σ := ⟨h, fun _ h => h, fun _ h => Or.inl h, fun _ _ h _ => h, fun _ _ => rfl⟩
theorem VQ.of (h : RS dA ad Fz P wk rows w1 σ1) (ho : Out ad w w1) : VQ dA ad P wk Fz rows w σ Fz rows w1 σ1 := ⟨h, fun _ h => h, fun _ h => Or.inl h, fun q e hq hn => (ho q hn).trans hq, fun _ _ => rfl⟩
theorem VQ.tr (h1 : VQ dA ad P wk Fz rows w σ Fz1 rows1 w1 σ1) (h2 : VQ dA ad P wk Fz1 rows1 w1 σ1 Fz2 rows2 w2 σ2) (hk : ∀ j, s_opn σ j = true → s_opn σ1 j = true) (h0 : RS dA ad Fz P wk rows w σ) (hb : ∀ i, i < 27 → w (ad i) ≠ none) : VQ dA ad P wk Fz rows w σ Fz2 rows2 w2 σ2 := by
  obtain ⟨a1, a2, a3, a4, a5⟩ := h1
  obtain ⟨b1, b2, b3, b4, b5⟩ := h2
  refine ⟨b1, fun q hq => b2 q (a2 q hq), fun q hq => ?_, fun q e hq hn => b4 q e (a4 q e hq hn) hn, fun z hz => (b5 z (hk _ hz)).trans (a5 z hz)⟩
  rcases b3 q hq with h | h
  · exact a3 q h
  · cases hw : w q with
    | none => exact Or.inr rfl
    | some e =>
      by_cases hn : ∀ i, i < 27 → q ≠ ad i
      · rw [a4 q e hw hn] at h; cases h
      · exact absurd hq (fun hq => hn (fun i hi e9 => b1.2.2.2.1.1 i hi (e9 ▸ hq)))
theorem RS.blk (h : RS dA ad Fz P wk rows w σ) : ∀ i, i < 27 → w (ad i) ≠ none := by
  obtain ⟨⟨g0, g1, g2, ⟨vf, g3, -⟩, g4⟩, ⟨ft, pl, ⟨fc, m1, m2, m3, m4, -⟩, -⟩, ⟨p0, p1, p2, p3, ⟨rw, p4, -⟩, p5, p6, -⟩, -⟩ := h
  intro i hi
  match i, hi with
  | 0, _ => rw [g0]; exact fun h => by cases h
  | 1, _ => rw [g1]; exact fun h => by cases h
  | 2, _ => rw [g2]; exact fun h => by cases h
  | 3, _ => rw [g3]; exact fun h => by cases h
  | 4, _ => rw [g4]; exact fun h => by cases h
  | 5, _ => rw [m1]; exact fun h => by cases h
  | 6, _ => rw [m2]; exact fun h => by cases h
  | 7, _ => rw [m3]; exact fun h => by cases h
  | 8, _ => rw [m4]; exact fun h => by cases h
  | 9, _ => rw [p0]; exact fun h => by cases h
  | 10, _ => rw [p1]; exact fun h => by cases h
  | 11, _ => rw [p2]; exact fun h => by cases h
  | 12, _ => rw [p3]; exact fun h => by cases h
  | 13, _ => rw [p4]; exact fun h => by cases h
  | 14, _ => rw [p6]; exact fun h => by cases h
  | n + 15, h =>
    have := p5 n (by omega)
    rw [show n + 15 = 15 + n by omega, this]
    exact fun h => by cases h
theorem VQ.aT {h kt vt o : Nat} {L : List (Nat × Int64)} {res : Int64} (hV : VQ dA ad P wk Fz rows w σ Fz1 rows1 w1 σ1) (hT : aT dA w h kt vt o L res) (n1 : ∀ i, i < 27 → h ≠ ad i) (n2 : ∀ i, i < 27 → kt ≠ ad i) (n3 : ∀ i, i < 27 → vt ≠ ad i) : aT dA w1 h kt vt o L res := by
  obtain ⟨fk, fv, a, b, c, d⟩ := hT
  exact ⟨fk, fv, hV.2.2.2.1 _ _ a n1, hV.2.2.2.1 _ _ b n2, hV.2.2.2.1 _ _ c n3, d⟩
theorem VQ.isT {t : Nat} {T : tv} (h0 : RS dA ad Fz P wk rows w σ) (hV : VQ dA ad P wk Fz rows w σ Fz1 rows1 w1 σ1) (hT : isT dA Fz w t T) : isT dA Fz1 w1 t T := by
  obtain ⟨⟨kt, vt, a, b, c, d⟩, e⟩ := hT
  exact ⟨⟨kt, vt, hV.aT a (fun i hi e9 => h0.2.2.2.1.1 i hi (e9 ▸ b)) (fun i hi e9 => h0.2.2.2.1.1 i hi (e9 ▸ c)) (fun i hi e9 => h0.2.2.2.1.1 i hi (e9 ▸ d)), hV.2.1 _ b, hV.2.1 _ c, hV.2.1 _ d⟩, e⟩
end VQS
/-- how many traces a step has made -/
def dm (σ τ : SS) : Nat := s_md τ - s_md σ
def rmV (n d : Nat) : Room := { frames := 7 * n + 4, cells := 3 * d, slots := 11 * d, locals := 210 * n + 60 }
/-- valueOf, where at most n keys are free -/
def VO (l : Launch) (s0 : State) (dC : Nat → ClassId) (dI : Nat → Nat → Nat) (dA : Nat → ClassId) (ad : Nat → Nat) (P : PD) (wk n : Nat) : Prop :=
  ∀ (w : fw_W) (Fz : Nat → Prop) (rows : Nat → Option Nat) (σ : SS) (k : Nat), RS dA ad Fz P wk rows w σ → k < 12 → fr12 σ ≤ n →
    Met l y_S_valueOf [.code y_S_valueOf b_S_valueOf 2 (some .long)] (rmV n (dm σ (sv P wk (n + 1) k σ).2)) (mP s0 dC dI w [.ref (ad 0), .int (nI k)]) (mQl s0 dC dI (fun r w' => r = (sv P wk (n + 1) k σ).1 ∧ VP dA ad P wk Fz rows w σ w' (sv P wk (n + 1) k σ).2)) (3 * dm σ (sv P wk (n + 1) k σ).2) (11 * dm σ (sv P wk (n + 1) k σ).2) (AA s0)
theorem agrV_drop {rec : RX} {L : List (Nat × Int64)} {i : Nat} {q : Nat × Int64} (h : L[i]? = some q) : L.drop i = q :: L.drop (i + 1) := by
  have hm := (List.getElem?_eq_some_iff.mp h).1
  rw [List.drop_eq_getElem_cons hm]
  congr 1
  exact (List.getElem?_eq_some_iff.mp h).2
