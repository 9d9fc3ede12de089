/-! ===== a session as a function ===== -/
/-- traces, cache, tallies, finished, open, values, something ran, failure, traces made -/
abbrev SS : Type := (Nat → Option tv) × List tv × (Nat → Int32) × (Nat → Bool) × (Nat → Bool) × (Nat → Int64) × Bool × Nat × Nat
abbrev s_tr (σ : SS) : Nat → Option tv := σ.1
abbrev s_cl (σ : SS) : List tv := σ.2.1
abbrev s_ta (σ : SS) : Nat → Int32 := σ.2.2.1
abbrev s_fin (σ : SS) : Nat → Bool := σ.2.2.2.1
abbrev s_opn (σ : SS) : Nat → Bool := σ.2.2.2.2.1
abbrev s_val (σ : SS) : Nat → Int64 := σ.2.2.2.2.2.1
abbrev s_ran (σ : SS) : Bool := σ.2.2.2.2.2.2.1
abbrev s_fl (σ : SS) : Nat := σ.2.2.2.2.2.2.2.1
abbrev s_md (σ : SS) : Nat := σ.2.2.2.2.2.2.2.2
def sTal (i : Nat) (σ : SS) : SS := (s_tr σ, s_cl σ, upd (s_ta σ) i (s_ta σ i + nI 1), s_fin σ, s_opn σ, s_val σ, s_ran σ, s_fl σ, s_md σ)
def sFail (n : Nat) (σ : SS) : SS := (s_tr σ, s_cl σ, s_ta σ, s_fin σ, s_opn σ, s_val σ, s_ran σ, (if s_fl σ = 0 then n else s_fl σ), s_md σ)
def sFin (k : Nat) (v : Int64) (σ : SS) : SS := (s_tr σ, s_cl σ, s_ta σ, va_up (s_fin σ) k true, va_up (s_opn σ) k false, vp_updL (s_val σ) k v, s_ran σ, s_fl σ, s_md σ)
def sOpen (k : Nat) (σ : SS) : SS := (s_tr σ, s_cl σ, s_ta σ, s_fin σ, va_up (s_opn σ) k true, s_val σ, s_ran σ, s_fl σ, s_md σ)
def sGive (i : Nat) (T : tv) (σ : SS) : SS := (va_up (s_tr σ) i (some T), s_cl σ, s_ta σ, s_fin σ, s_opn σ, s_val σ, s_ran σ, s_fl σ, s_md σ)
def sApp (T : tv) (σ : SS) : SS := (s_tr σ, (s_cl σ).drop ((s_cl σ).length - 15) ++ [T], s_ta σ, s_fin σ, s_opn σ, s_val σ, s_ran σ, s_fl σ, s_md σ)
def sRan (σ : SS) : SS := (s_tr σ, s_cl σ, s_ta σ, s_fin σ, s_opn σ, s_val σ, true, s_fl σ, s_md σ + 1)
/-- the plan: kinds, inputs, rules, parts, how many -/
abbrev PD : Type := (Nat → Nat) × (Nat → Int64) × (Nat → Nat) × (Nat → Nat → Int32) × (Nat → Nat)
abbrev p_kd (P : PD) : Nat → Nat := P.1
abbrev p_vl (P : PD) : Nat → Int64 := P.2.1
abbrev p_rl (P : PD) : Nat → Nat := P.2.2.1
abbrev p_pf (P : PD) : Nat → Nat → Int32 := P.2.2.2.1
abbrev p_cn (P : PD) : Nat → Nat := P.2.2.2.2
def p_pt (P : PD) (k i : Nat) : Nat := (p_pf P k i).toNatClampNeg
def p_need (r : Nat) : Nat := if r = 2 then 3 else if r = 3 ∨ r = 5 ∨ r = 7 ∨ r = 9 then 2 else if r = 4 ∨ r = 8 then 1 else 0
/-- a plan that tasks may be made of -/
def p_ok (P : PD) : Prop := ∀ k, k < 12 → p_kd P k < 3 ∧ (p_kd P k = 2 → p_rl P k < 10 ∧ p_cn P k ≤ 3 ∧ p_need (p_rl P k) ≤ p_cn P k ∧ (∀ i, i < p_cn P k → p_pf P k i = nI (p_pt P k i) ∧ p_pt P k i < 12) ∧ ∀ i, p_cn P k ≤ i → i < 3 → p_pf P k i = -1)
abbrev RX : Type := Nat → SS → Int64 × SS
/-- what a running rule has: what it noted, the session -/
abbrev XS : Type := List (Nat × Int64) × SS
def askV (rec : RX) (k : Nat) (x : XS) : Int64 × XS := if s_fl x.2 = 0 then ((rec k (sTal 0 x.2)).1, noteL x.1 k (rec k (sTal 0 x.2)).1, (rec k (sTal 0 x.2)).2) else (0, x)
def foldV (rec : RX) (op : Int64 → Int64 → Int64) : List Nat → Int64 → XS → Int64 × XS
  | [], a, x => (a, x)
  | p :: r, a, x => foldV rec op r (op a (askV rec p x).1) (askV rec p x).2
def failV (n : Nat) (x : XS) : Int64 × XS := (0, x.1, sFail n x.2)
def fMod (a b : Int64) : Int64 := if (a - a / b * b) ≠ 0 ∧ (a ^^^ b) < 0 then (a - a / b * b) + b else a - a / b * b
def p_parts (P : PD) (k : Nat) : List Nat := (List.range (p_cn P k)).map (p_pt P k)
def ruleV (rec : RX) (P : PD) (k : Nat) (x : XS) : Int64 × XS :=
  match p_rl P k with
  | 0 => foldV rec (fun a b => a + b) (p_parts P k) 0 x
  | 1 => foldV rec (fun a b => a * b) (p_parts P k) 1 x
  | 2 => askV rec (if 0 < (askV rec (p_pt P k 0) x).1 then p_pt P k 1 else p_pt P k 2) (askV rec (p_pt P k 0) x).2
  | 3 => if (askV rec (p_pt P k 1) (askV rec (p_pt P k 0) x).2).1 = 0 then failV 2 (askV rec (p_pt P k 1) (askV rec (p_pt P k 0) x).2).2 else ((askV rec (p_pt P k 0) x).1 / (askV rec (p_pt P k 1) (askV rec (p_pt P k 0) x).2).1, (askV rec (p_pt P k 1) (askV rec (p_pt P k 0) x).2).2)
  | 4 => askV rec (fMod (askV rec (p_pt P k 0) x).1 12).toInt32.toNatClampNeg (askV rec (p_pt P k 0) x).2
  | 5 => if (askV rec (p_pt P k 1) (askV rec (p_pt P k 0) x).2).1 = 0 then failV 2 (askV rec (p_pt P k 1) (askV rec (p_pt P k 0) x).2).2 else ((askV rec (p_pt P k 0) x).1 - (askV rec (p_pt P k 0) x).1 / (askV rec (p_pt P k 1) (askV rec (p_pt P k 0) x).2).1 * (askV rec (p_pt P k 1) (askV rec (p_pt P k 0) x).2).1, (askV rec (p_pt P k 1) (askV rec (p_pt P k 0) x).2).2)
  | 6 => if p_cn P k = 0 then failV 1 x else foldV rec (fun a b => if a < b then b else a) ((p_parts P k).drop 1) (askV rec (p_pt P k 0) x).1 (askV rec (p_pt P k 0) x).2
  | 7 => foldV rec (fun a b => a + b) (List.replicate (fMod (askV rec (p_pt P k 0) x).1 4).toInt32.toNatClampNeg (p_pt P k 1)) (askV rec (p_pt P k 0) x).1 (askV rec (p_pt P k 0) x).2
  | 8 => (7, (askV rec (p_pt P k 0) x).2)
  | 9 => if (askV rec (p_pt P k 1) (askV rec (p_pt P k 0) x).2).1 < (askV rec (p_pt P k 0) x).1 then failV 3 (askV rec (p_pt P k 1) (askV rec (p_pt P k 0) x).2).2 else ((askV rec (p_pt P k 0) x).1, (askV rec (p_pt P k 1) (askV rec (p_pt P k 0) x).2).2)
  | _ => (0, x)
def agrV (rec : RX) : List (Nat × Int64) → SS → Bool × SS
  | [], σ => (decide (s_fl σ = 0), σ)
  | q :: r, σ => if s_fl σ = 0 then (if (rec q.1 σ).1 = q.2 then agrV rec r (rec q.1 σ).2 else (false, (rec q.1 σ).2)) else (false, σ)
def candV (rec : RX) : List tv → SS → Option tv × SS
  | [], σ => (none, σ)
  | T :: r, σ => if s_fl σ = 0 then (if (agrV rec T.2.1 σ).1 = true then (some T, (agrV rec T.2.1 σ).2) else candV rec r (agrV rec T.2.1 σ).2) else (none, σ)
def ownV (rec : RX) (o : Option tv) (σ : SS) : Bool × SS := match o with
  | none => (false, σ)
  | some T => agrV rec T.2.1 σ
def runV (rec : RX) (P : PD) (wk k : Nat) (σ : SS) : Int64 × SS :=
  if s_fl (ruleV rec P k ([], sRan σ)).2.2 = 0 then ((ruleV rec P k ([], sRan σ)).1, sFin k (ruleV rec P k ([], sRan σ)).1 (sApp (k, (ruleV rec P k ([], sRan σ)).2.1, (ruleV rec P k ([], sRan σ)).1) (sGive (wk * 12 + k) (k, (ruleV rec P k ([], sRan σ)).2.1, (ruleV rec P k ([], sRan σ)).1) (sTal 3 (ruleV rec P k ([], sRan σ)).2.2)))) else (0, sTal 4 (ruleV rec P k ([], sRan σ)).2.2)
def entV (k : Nat) (cl : List tv) : List tv := (cl.filter (fun T => T.1 == k)).reverse
def nextV (rec : RX) (P : PD) (wk k : Nat) (σ : SS) : Int64 × SS :=
  match (candV rec (entV k (s_cl σ)) σ).1 with
  | some T => (T.2.2, sFin k T.2.2 (sGive (wk * 12 + T.1) T (sTal 2 (candV rec (entV k (s_cl σ)) σ).2)))
  | none => if s_fl (candV rec (entV k (s_cl σ)) σ).2 = 0 then runV rec P wk k (candV rec (entV k (s_cl σ)) σ).2 else (0, (candV rec (entV k (s_cl σ)) σ).2)
def resV (o : Option tv) : Int64 := match o with
  | none => 0
  | some T => T.2.2
def taskV (rec : RX) (P : PD) (wk k : Nat) (σ : SS) : Int64 × SS :=
  if (ownV rec (s_tr σ (wk * 12 + k)) σ).1 = true then (resV (s_tr σ (wk * 12 + k)), sFin k (resV (s_tr σ (wk * 12 + k))) (sTal 1 (ownV rec (s_tr σ (wk * 12 + k)) σ).2))
  else nextV rec P wk k (ownV rec (s_tr σ (wk * 12 + k)) σ).2
def stepV (rec : RX) (P : PD) (wk k : Nat) (σ : SS) : Int64 × SS :=
  if 12 ≤ k then (0, σ)
  else if s_fin σ k = true then (s_val σ k, σ)
  else if s_opn σ k = true then (0, sFail 3 (sTal 10 σ))
  else if p_kd P k = 0 then (0, sFail 1 σ)
  else if p_kd P k = 1 then (p_vl P k, sFin k (p_vl P k) σ)
  else taskV rec P wk k (sOpen k σ)
def sv (P : PD) (wk : Nat) : Nat → RX
  | 0 => fun _ σ => (0, σ)
  | n + 1 => stepV (sv P wk n) P wk
/-- how many keys are neither open nor finished, of the first n -/
def frS (σ : SS) : Nat → Nat
  | 0 => 0
  | n + 1 => frS σ n + (if s_opn σ n = true ∨ s_fin σ n = true then 0 else 1)
abbrev fr12 (σ : SS) : Nat := frS σ 12
/-! what a session keeps: open keys stay open, finished ones finished; each trace made takes a free key -/
def Kp (σ τ : SS) : Prop := (∀ j, s_opn σ j = true → s_opn τ j = true) ∧ (∀ j, s_fin σ j = true → s_fin τ j = true ∧ s_val τ j = s_val σ j) ∧ s_md σ ≤ s_md τ ∧ s_md τ + fr12 τ ≤ s_md σ + fr12 σ
theorem frS_le {σ τ : SS} (h1 : ∀ j, s_opn σ j = true ∨ s_fin σ j = true → s_opn τ j = true ∨ s_fin τ j = true) : ∀ n, frS τ n ≤ frS σ n
  | 0 => Nat.le_refl 0
  | n + 1 => by
    have h := frS_le h1 n
    unfold frS
    by_cases h2 : s_opn σ n = true ∨ s_fin σ n = true
    · rw [if_pos h2, if_pos (h1 n h2)]; omega
    · rw [if_neg h2]; split <;> omega
theorem Kp.rf (σ : SS) : Kp σ σ := ⟨fun _ h => h, fun _ h => ⟨h, rfl⟩, Nat.le_refl _, Nat.le_refl _⟩
theorem Kp.tr {σ τ υ : SS} (h1 : Kp σ τ) (h2 : Kp τ υ) : Kp σ υ := ⟨fun j h => h2.1 j (h1.1 j h), fun j h => ⟨(h2.2.1 j (h1.2.1 j h).1).1, (h2.2.1 j (h1.2.1 j h).1).2.trans (h1.2.1 j h).2⟩, Nat.le_trans h1.2.2.1 h2.2.2.1, Nat.le_trans h2.2.2.2 h1.2.2.2⟩
theorem Kp.fr {σ τ : SS} (h : Kp σ τ) : fr12 τ ≤ fr12 σ := frS_le (fun j hj => hj.elim (fun a => Or.inl (h.1 j a)) (fun a => Or.inr (h.2.1 j a).1)) 12
theorem frS_same {σ τ : SS} (h1 : s_opn τ = s_opn σ) (h2 : s_fin τ = s_fin σ) : ∀ n, frS τ n = frS σ n
  | 0 => rfl
  | n + 1 => by unfold frS; rw [frS_same h1 h2 n, h1, h2]
theorem Kp.same {σ τ : SS} (h1 : s_opn τ = s_opn σ) (h2 : s_fin τ = s_fin σ) (h3 : s_val τ = s_val σ) (h4 : s_md τ = s_md σ) : Kp σ τ := ⟨fun j h => by rw [h1]; exact h, fun j h => ⟨by rw [h2]; exact h, by rw [h3]⟩, by rw [h4]; exact Nat.le_refl _, by rw [h4, show fr12 τ = fr12 σ from frS_same h1 h2 12]; exact Nat.le_refl _⟩
theorem Kp_tal (i : Nat) (σ : SS) : Kp σ (sTal i σ) := Kp.same rfl rfl rfl rfl
theorem Kp_fail (i : Nat) (σ : SS) : Kp σ (sFail i σ) := Kp.same rfl rfl rfl rfl
theorem Kp_give (i : Nat) (T : tv) (σ : SS) : Kp σ (sGive i T σ) := Kp.same rfl rfl rfl rfl
theorem Kp_app (T : tv) (σ : SS) : Kp σ (sApp T σ) := Kp.same rfl rfl rfl rfl
theorem Kp_ask {rec : RX} (hr : ∀ k σ, Kp σ (rec k σ).2) (k : Nat) (x : XS) : Kp x.2 (askV rec k x).2.2 := by
  unfold askV
  split
  · exact (Kp_tal 0 x.2).tr (hr k _)
  · exact Kp.rf _
theorem Kp_fold {rec : RX} (hr : ∀ k σ, Kp σ (rec k σ).2) (op : Int64 → Int64 → Int64) : ∀ (L : List Nat) (a : Int64) (x : XS), Kp x.2 (foldV rec op L a x).2.2
  | [], a, x => Kp.rf _
  | p :: r, a, x => (Kp_ask hr p x).tr (Kp_fold hr op r _ _)
theorem Kp_rule {rec : RX} (hr : ∀ k σ, Kp σ (rec k σ).2) (P : PD) (k : Nat) (x : XS) : Kp x.2 (ruleV rec P k x).2.2 := by
  unfold ruleV
  split
  · exact Kp_fold hr _ _ _ _
  · exact Kp_fold hr _ _ _ _
  · exact (Kp_ask hr _ _).tr (Kp_ask hr _ _)
  · split
    · exact ((Kp_ask hr _ _).tr (Kp_ask hr _ _)).tr (Kp_fail _ _)
    · exact (Kp_ask hr _ _).tr (Kp_ask hr _ _)
  · exact (Kp_ask hr _ _).tr (Kp_ask hr _ _)
  · split
    · exact ((Kp_ask hr _ _).tr (Kp_ask hr _ _)).tr (Kp_fail _ _)
    · exact (Kp_ask hr _ _).tr (Kp_ask hr _ _)
  · split
    · exact Kp_fail _ _
    · exact (Kp_ask hr _ _).tr (Kp_fold hr _ _ _ _)
  · exact (Kp_ask hr _ _).tr (Kp_fold hr _ _ _ _)
  · exact Kp_ask hr _ _
  · split
    · exact ((Kp_ask hr _ _).tr (Kp_ask hr _ _)).tr (Kp_fail _ _)
    · exact (Kp_ask hr _ _).tr (Kp_ask hr _ _)
  · exact Kp.rf _
theorem Kp_agr {rec : RX} (hr : ∀ k σ, Kp σ (rec k σ).2) : ∀ (L : List (Nat × Int64)) (σ : SS), Kp σ (agrV rec L σ).2
  | [], σ => Kp.rf _
  | q :: r, σ => by
    unfold agrV
    split
    · split
      · exact (hr _ _).tr (Kp_agr hr r _)
      · exact hr _ _
    · exact Kp.rf _
theorem Kp_cand {rec : RX} (hr : ∀ k σ, Kp σ (rec k σ).2) : ∀ (L : List tv) (σ : SS), Kp σ (candV rec L σ).2
  | [], σ => Kp.rf _
  | T :: r, σ => by
    unfold candV
    split
    · split
      · exact Kp_agr hr _ _
      · exact (Kp_agr hr _ _).tr (Kp_cand hr r _)
    · exact Kp.rf _
theorem Kp_own {rec : RX} (hr : ∀ k σ, Kp σ (rec k σ).2) (o : Option tv) (σ : SS) : Kp σ (ownV rec o σ).2 := by
  cases o with
  | none => exact Kp.rf _
  | some T => exact Kp_agr hr _ _
