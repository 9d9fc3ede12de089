/-! ===== the class's cells in a session; ad: 0 session (1 finished, 2 open, 3 values, 4 rows), 5 memory (6 traces, 7 cache, 8 tallies), 9 plan (10 kinds, 11 values, 12 rules, 13 parts, 14 counts, 15.. rows) ===== -/
def isT (dA : Nat → ClassId) (Fz : Nat → Prop) (w : fw_W) (t : Nat) (T : tv) : Prop := (∃ kt vt : Nat, aT dA w t kt vt T.1 T.2.1 T.2.2 ∧ Fz t ∧ Fz kt ∧ Fz vt) ∧ T.1 < 12
theorem isT.kept {dA : Nat → ClassId} {Fz Fz' : Nat → Prop} {w w' : fw_W} {t : Nat} {T : tv} (h : isT dA Fz w t T) (hz : ∀ q, Fz q → w' q = w q) (hF : ∀ q, Fz q → Fz' q) : isT dA Fz' w' t T := by
  obtain ⟨⟨kt, vt, a, b, c, d⟩, e⟩ := h
  exact ⟨⟨kt, vt, a.kept (hz _ b) (hz _ c) (hz _ d), hF _ b, hF _ c, hF _ d⟩, e⟩
theorem isT.o {dA : Nat → ClassId} {Fz : Nat → Prop} {w : fw_W} {t : Nat} {T : tv} (h : isT dA Fz w t T) : oT w t T.1 := by
  obtain ⟨⟨kt, vt, ⟨fk, fv, a, -⟩, -⟩, -⟩ := h
  exact ⟨_, _, _, _, a⟩
def rT (dA : Nat → ClassId) (Fz : Nat → Prop) (w : fw_W) : Option Nat → Option tv → Prop
  | none, none => True
  | some t, some T => isT dA Fz w t T
  | _, _ => False
theorem rT.kept {dA : Nat → ClassId} {Fz Fz' : Nat → Prop} {w w' : fw_W} {r : Option Nat} {o : Option tv} (h : rT dA Fz w r o) (hz : ∀ q, Fz q → w' q = w q) (hF : ∀ q, Fz q → Fz' q) : rT dA Fz' w' r o := by
  cases r <;> cases o
  · trivial
  · exact h
  · exact h
  · exact isT.kept h hz hF
def poolL (dA : Nat → ClassId) (Fz : Nat → Prop) (w : fw_W) (pl : List Nat) (cl : List tv) : Prop := pl.length = cl.length ∧ ∀ (i t : Nat) (T : tv), pl[i]? = some t → cl[i]? = some T → isT dA Fz w t T
theorem poolL.kept {dA : Nat → ClassId} {Fz Fz' : Nat → Prop} {w w' : fw_W} {pl : List Nat} {cl : List tv} (h : poolL dA Fz w pl cl) (hz : ∀ q, Fz q → w' q = w q) (hF : ∀ q, Fz q → Fz' q) : poolL dA Fz' w' pl cl := ⟨h.1, fun i t T a b => (h.2 i t T a b).kept hz hF⟩
def S5 (dA : Nat → ClassId) (ad : Nat → Nat) (wk : Nat) (rows : Nat → Option Nat) (w : fw_W) (σ : SS) : Prop :=
  w (ad 0) = some (.inr (2, [.ref (ad 9), .ref (ad 5), .int (nI wk), .ref (ad 1), .ref (ad 2), .ref (ad 3), .ref (ad 4), .int (nI (s_ran σ).toNat), .int (nI (s_fl σ))])) ∧ w (ad 1) = some (.inl (dA 2, 12, .inl (zf (s_fin σ)))) ∧ w (ad 2) = some (.inl (dA 2, 12, .inl (zf (s_opn σ)))) ∧ (∃ vf : Nat → Int64, w (ad 3) = some (.inl (dA 1, 12, .inr (.inl vf))) ∧ ∀ k, s_fin σ k = true → vf k = s_val σ k) ∧ w (ad 4) = some (.inl (dA 3, 192, .inr (.inr (.inr (.inr rows)))))
def M4 (dA : Nat → ClassId) (ad : Nat → Nat) (Fz : Nat → Prop) (w : fw_W) (tr : Nat → Option tv) (cl : List tv) (ta : Nat → Int32) : Prop :=
  ∃ (ft : Nat → Option Nat) (pl : List Nat), aM dA w (ad 5) (ad 6) (ad 7) (ad 8) ft pl ta ∧ (∀ i, i < 24 → rT dA Fz w (ft i) (tr i)) ∧ poolL dA Fz w pl cl
def P6 (dA : Nat → ClassId) (ad : Nat → Nat) (w : fw_W) (P : PD) : Prop := aP dA w (ad 9) (ad 10) (ad 11) (ad 12) (ad 13) (ad 14) (fun k => ad (15 + k)) (p_kd P) (p_vl P) (p_rl P) (p_pf P) (p_cn P)
def RS (dA : Nat → ClassId) (ad : Nat → Nat) (Fz : Nat → Prop) (P : PD) (wk : Nat) (rows : Nat → Option Nat) (w : fw_W) (σ : SS) : Prop :=
  S5 dA ad wk rows w σ ∧ M4 dA ad Fz w (s_tr σ) (s_cl σ) (s_ta σ) ∧ P6 dA ad w P ∧ ((∀ i, i < 27 → ¬ Fz (ad i)) ∧ ∀ q, Fz q → w q ≠ none) ∧ s_fl σ < 4
theorem aM.kept {dA : Nat → ClassId} {w w' : fw_W} {h tr ca ta : Nat} {ft : Nat → Option Nat} {pl : List Nat} {fa : Nat → Int32} (hM : aM dA w h tr ca ta ft pl fa) (h1 : w' h = w h) (h2 : w' tr = w tr) (h3 : w' ca = w ca) (h4 : w' ta = w ta) : aM dA w' h tr ca ta ft pl fa := by
  obtain ⟨fc, a, b, c, d, e⟩ := hM
  exact ⟨fc, h1.trans a, h2.trans b, h3.trans c, h4.trans d, e⟩
theorem S5.kept {dA : Nat → ClassId} {ad : Nat → Nat} {wk : Nat} {rows : Nat → Option Nat} {w w' : fw_W} {σ : SS} (h : S5 dA ad wk rows w σ) (hk : ∀ i, i < 5 → w' (ad i) = w (ad i)) : S5 dA ad wk rows w' σ := by
  obtain ⟨a, b, c, ⟨vf, d, e⟩, f⟩ := h
  exact ⟨(hk 0 (by omega)).trans a, (hk 1 (by omega)).trans b, (hk 2 (by omega)).trans c, ⟨vf, (hk 3 (by omega)).trans d, e⟩, (hk 4 (by omega)).trans f⟩
theorem M4.kept {dA : Nat → ClassId} {ad : Nat → Nat} {Fz Fz' : Nat → Prop} {w w' : fw_W} {tr : Nat → Option tv} {cl : List tv} {ta : Nat → Int32} (h : M4 dA ad Fz w tr cl ta) (hk : ∀ i, 5 ≤ i → i < 9 → w' (ad i) = w (ad i)) (hz : ∀ q, Fz q → w' q = w q) (hF : ∀ q, Fz q → Fz' q) : M4 dA ad Fz' w' tr cl ta := by
  obtain ⟨ft, pl, a, b, c⟩ := h
  exact ⟨ft, pl, a.kept (hk 5 (by omega) (by omega)) (hk 6 (by omega) (by omega)) (hk 7 (by omega) (by omega)) (hk 8 (by omega) (by omega)), fun i hi => (b i hi).kept hz hF, c.kept hz hF⟩
theorem P6.kept {dA : Nat → ClassId} {ad : Nat → Nat} {w w' : fw_W} {P : PD} (h : P6 dA ad w P) (hk : ∀ i, 9 ≤ i → i < 27 → w' (ad i) = w (ad i)) : P6 dA ad w' P := by
  obtain ⟨a, b, c, d, ⟨rows, e, e2⟩, f, g, r⟩ := h
  exact ⟨(hk 9 (by omega) (by omega)).trans a, (hk 10 (by omega) (by omega)).trans b, (hk 11 (by omega) (by omega)).trans c, (hk 12 (by omega) (by omega)).trans d, ⟨rows, (hk 13 (by omega) (by omega)).trans e, e2⟩, fun k hk2 => (hk (15 + k) (by omega) (by omega)).trans (f k hk2), (hk 14 (by omega) (by omega)).trans g, r⟩
def Inj (ad : Nat → Nat) : Prop := ∀ i j, i < 27 → j < 27 → ad i = ad j → i = j
theorem Inj.ne {ad : Nat → Nat} (h : Inj ad) {i j : Nat} (hi : i < 27) (hj : j < 27) (n : i ≠ j) : ad i ≠ ad j := fun e => n (h i j hi hj e)
/-- only the block's cells change -/
def Out (ad : Nat → Nat) (w w' : fw_W) : Prop := ∀ q, (∀ i, i < 27 → q ≠ ad i) → w' q = w q
theorem RS.fz {dA : Nat → ClassId} {ad : Nat → Nat} {Fz : Nat → Prop} {P : PD} {wk : Nat} {rows : Nat → Option Nat} {w w' : fw_W} {σ : SS} (h : RS dA ad Fz P wk rows w σ) (ho : Out ad w w') : ∀ q, Fz q → w' q = w q := fun q hq => ho q (fun i hi e => h.2.2.2.1.1 i hi (e ▸ hq))
/-- a step of a session: from w, σ to w', σ' -/
def VP (dA : Nat → ClassId) (ad : Nat → Nat) (P : PD) (wk : Nat) (Fz : Nat → Prop) (rows : Nat → Option Nat) (w : fw_W) (σ : SS) (w' : fw_W) (σ' : SS) : Prop :=
  ∃ (Fz' : Nat → Prop) (rows' : Nat → Option Nat), RS dA ad Fz' P wk rows' w' σ' ∧ (∀ q, Fz q → Fz' q) ∧ (∀ q, Fz' q → Fz q ∨ w q = none) ∧ (∀ (q : Nat) (e : va_E), w q = some e → (∀ i, i < 27 → q ≠ ad i) → w' q = some e) ∧ ∀ z, s_opn σ (z / 16) = true → rows' z = rows z
theorem VP.of {dA : Nat → ClassId} {ad : Nat → Nat} {P : PD} {wk : Nat} {Fz : Nat → Prop} {rows : Nat → Option Nat} {w w' : fw_W} {σ σ' : SS} (h : RS dA ad Fz P wk rows w' σ') (ho : Out ad w w') : VP dA ad P wk Fz rows w σ w' σ' := ⟨Fz, rows, h, fun _ h => h, fun _ h => Or.inl h, fun q e hq hn => (ho q hn).trans hq, fun _ _ => rfl⟩
theorem fd_kept {Fz : Nat → Prop} {w w' : fw_W} (hz : ∀ q, Fz q → w' q = w q) (h : ∀ q, Fz q → w q ≠ none) : ∀ q, Fz q → w' q ≠ none := fun q hq => by rw [hz q hq]; exact h q hq
