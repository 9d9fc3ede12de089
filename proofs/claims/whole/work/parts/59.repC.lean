/-- the owner that the heap's picture says -/
def owF (w : fw_W) (t : Nat) : Nat := match w t with
  | some (.inr (3, .int x :: _)) => x.toNatClampNeg
  | _ => 0
theorem owF_eq {dA : Nat → ClassId} {Fz : Nat → Prop} {w : fw_W} {t : Nat} {T : tv} (h : isT dA Fz w t T) : owF w t = T.1 := by
  obtain ⟨⟨kt, vt, ⟨fk, fv, a, -⟩, -⟩, e⟩ := h
  unfold owF
  rw [a]
  exact nI_clamp (by omega)
theorem poolL.nil {dA : Nat → ClassId} {Fz : Nat → Prop} {w : fw_W} : poolL dA Fz w [] [] := ⟨rfl, fun i t T h => by simp at h⟩
theorem poolL.cons {dA : Nat → ClassId} {Fz : Nat → Prop} {w : fw_W} {t : Nat} {T : tv} {pl : List Nat} {cl : List tv} (h : isT dA Fz w t T) (hp : poolL dA Fz w pl cl) : poolL dA Fz w (t :: pl) (T :: cl) := by
  refine ⟨congrArg (· + 1) hp.1, fun i u U h1 h2 => ?_⟩
  cases i with
  | zero => cases h1; cases h2; exact h
  | succ i => exact hp.2 i u U h1 h2
theorem poolL.uncons {dA : Nat → ClassId} {Fz : Nat → Prop} {w : fw_W} {t : Nat} {T : tv} {pl : List Nat} {cl : List tv} (h : poolL dA Fz w (t :: pl) (T :: cl)) : isT dA Fz w t T ∧ poolL dA Fz w pl cl := ⟨h.2 0 t T rfl rfl, Nat.succ.inj h.1, fun i u U h1 h2 => h.2 (i + 1) u U h1 h2⟩
theorem poolL.app {dA : Nat → ClassId} {Fz : Nat → Prop} {w : fw_W} : ∀ {a c : List Nat} {b d : List tv}, poolL dA Fz w a b → poolL dA Fz w c d → poolL dA Fz w (a ++ c) (b ++ d)
  | [], c, [], d, _, h2 => h2
  | [], c, _ :: _, d, h1, _ => absurd h1.1 (by simp)
  | _ :: _, c, [], d, h1, _ => absurd h1.1 (by simp)
  | t :: a, c, T :: b, d, h1, h2 => poolL.cons h1.uncons.1 (poolL.app h1.uncons.2 h2)
theorem poolL.rev {dA : Nat → ClassId} {Fz : Nat → Prop} {w : fw_W} : ∀ {a : List Nat} {b : List tv}, poolL dA Fz w a b → poolL dA Fz w a.reverse b.reverse
  | [], [], h => h
  | [], _ :: _, h1 => absurd h1.1 (by simp)
  | _ :: _, [], h1 => absurd h1.1 (by simp)
  | t :: a, T :: b, h => by
    rw [List.reverse_cons, List.reverse_cons]
    exact poolL.app (poolL.rev h.uncons.2) (poolL.cons h.uncons.1 poolL.nil)
theorem poolL.filt {dA : Nat → ClassId} {Fz : Nat → Prop} {w : fw_W} {f : Nat → Bool} : ∀ {a : List Nat} {b : List tv}, poolL dA Fz w a b → poolL dA Fz w (a.filter (fun t => f (owF w t))) (b.filter (fun T => f T.1))
  | [], [], h => h
  | [], _ :: _, h1 => absurd h1.1 (by simp)
  | _ :: _, [], h1 => absurd h1.1 (by simp)
  | t :: a, T :: b, h => by
    rw [List.filter_cons, List.filter_cons, owF_eq h.uncons.1]
    split
    · exact poolL.cons h.uncons.1 (poolL.filt h.uncons.2)
    · exact poolL.filt h.uncons.2
theorem poolL.drop {dA : Nat → ClassId} {Fz : Nat → Prop} {w : fw_W} {a : List Nat} {b : List tv} (h : poolL dA Fz w a b) (n : Nat) : poolL dA Fz w (a.drop n) (b.drop n) := by
  refine ⟨by rw [List.length_drop, List.length_drop, h.1], fun i t T h1 h2 => ?_⟩
  rw [List.getElem?_drop] at h1 h2
  exact h.2 _ t T h1 h2
theorem poolL.mem {dA : Nat → ClassId} {Fz : Nat → Prop} {w : fw_W} {a : List Nat} {b : List tv} (h : poolL dA Fz w a b) {t : Nat} (ht : t ∈ a) : ∃ T, T ∈ b ∧ isT dA Fz w t T := by
  obtain ⟨i, hi⟩ := List.getElem?_of_mem ht
  have hl := (List.getElem?_eq_some_iff.mp hi).1
  have hl2 : i < b.length := by rw [← h.1]; exact hl
  exact ⟨b[i], List.getElem_mem _, h.2 i t _ hi (List.getElem?_eq_getElem hl2)⟩
theorem poolL.o {dA : Nat → ClassId} {Fz : Nat → Prop} {w : fw_W} {a : List Nat} {b : List tv} (h : poolL dA Fz w a b) : ∀ t ∈ a, oT w t (owF w t) := fun t ht => by
  obtain ⟨T, -, hT⟩ := h.mem ht
  rw [owF_eq hT]
  exact hT.o
theorem poolL.o12 {dA : Nat → ClassId} {Fz : Nat → Prop} {w : fw_W} {a : List Nat} {b : List tv} (h : poolL dA Fz w a b) : ∀ t ∈ a, owF w t < 12 := fun t ht => by
  obtain ⟨T, -, hT⟩ := h.mem ht
  rw [owF_eq hT]
  exact hT.2
theorem filt_rev_le {α : Type} (l : List α) (f : α → Bool) : (l.filter f).reverse.length ≤ l.length := by
  rw [List.length_reverse]
  exact List.length_filter_le f l
/-- as VQ, but the row of k is free -/
def VR (dA : Nat → ClassId) (ad : Nat → Nat) (P : PD) (wk k : Nat) (Fz : Nat → Prop) (rows : Nat → Option Nat) (w : fw_W) (σ : SS) (Fz' : Nat → Prop) (rows' : Nat → Option Nat) (w' : fw_W) (σ' : SS) : Prop :=
  RS dA ad Fz' P wk rows' w' σ' ∧ (∀ q, Fz q → Fz' q) ∧ (∀ q, Fz' q → Fz q ∨ w q = none) ∧ (∀ (q : Nat) (e : va_E), w q = some e → (∀ i, i < 27 → q ≠ ad i) → w' q = some e) ∧ ∀ z, z / 16 ≠ k → s_opn σ (z / 16) = true → rows' z = rows z
section VRS
variable {dA : Nat → ClassId} {ad : Nat → Nat} {P : PD} {wk k : Nat} {Fz Fz1 Fz2 : Nat → Prop} {rows rows1 rows2 : Nat → Option Nat} {w w1 w2 : fw_W} {σ σ1 σ2 : SS}
theorem VQ.r (h : VQ dA ad P wk Fz rows w σ Fz1 rows1 w1 σ1) : VR dA ad P wk k Fz rows w σ Fz1 rows1 w1 σ1 := ⟨h.1, h.2.1, h.2.2.1, h.2.2.2.1, fun z _ h2 => h.2.2.2.2 z h2⟩
theorem VR.tr (h1 : VR dA ad P wk k Fz rows w σ Fz1 rows1 w1 σ1) (h2 : VR dA ad P wk k Fz1 rows1 w1 σ1 Fz2 rows2 w2 σ2) (hk : ∀ j, s_opn σ j = true → s_opn σ1 j = true) (hb : ∀ i, i < 27 → w (ad i) ≠ none) : VR dA ad P wk k Fz rows w σ Fz2 rows2 w2 σ2 := by
  obtain ⟨a1, a2, a3, a4, a5⟩ := h1
  obtain ⟨b1, b2, b3, b4, b5⟩ := h2
  refine ⟨b1, fun q hq => b2 q (a2 q hq), fun q hq => ?_, fun q e hq hn => b4 q e (a4 q e hq hn) hn, fun z h9 hz => (b5 z h9 (hk _ hz)).trans (a5 z h9 hz)⟩
  rcases b3 q hq with h | h
  · exact a3 q h
  · cases hw : w q with
    | none => exact Or.inr rfl
    | some e =>
      by_cases hn : ∀ i, i < 27 → q ≠ ad i
      · rw [a4 q e hw hn] at h; cases h
      · exact absurd hq (fun hq => hn (fun i hi e9 => b1.2.2.2.1.1 i hi (e9 ▸ hq)))
theorem VR.isT {t : Nat} {T : tv} (h0 : RS dA ad Fz P wk rows w σ) (hV : VR dA ad P wk k Fz rows w σ Fz1 rows1 w1 σ1) (hT : isT dA Fz w t T) : isT dA Fz1 w1 t T := by
  obtain ⟨⟨kt, vt, ⟨fk, fv, a1, a2, a3, a4⟩, b, c, d⟩, e⟩ := hT
  exact ⟨⟨kt, vt, ⟨fk, fv, hV.2.2.2.1 _ _ a1 (fun i hi e9 => h0.2.2.2.1.1 i hi (e9 ▸ b)), hV.2.2.2.1 _ _ a2 (fun i hi e9 => h0.2.2.2.1.1 i hi (e9 ▸ c)), hV.2.2.2.1 _ _ a3 (fun i hi e9 => h0.2.2.2.1.1 i hi (e9 ▸ d)), a4⟩, hV.2.1 _ b, hV.2.1 _ c, hV.2.1 _ d⟩, e⟩
theorem VR.close (h1 : s_opn σ k = false) {w0 : fw_W} (ho : Out ad w0 w) (h : VR dA ad P wk k Fz rows w (sOpen k σ) Fz1 rows1 w1 σ1) (hn : ∀ q, w q = none → w0 q = none) : VQ dA ad P wk Fz rows w0 σ Fz1 rows1 w1 σ1 := by
  obtain ⟨a1, a2, a3, a4, a5⟩ := h
  refine ⟨a1, a2, fun q hq => (a3 q hq).elim Or.inl (fun h => Or.inr (hn q h)), fun q e hq hn2 => a4 q e ((ho q hn2).trans hq) hn2, fun z hz => a5 z (fun e => ?_) ?_⟩
  · rw [e, h1] at hz; cases hz
  · have e : z / 16 ≠ k := fun e => by rw [e, h1] at hz; cases hz
    exact (va_up_ne _ _ e).trans hz
end VRS
