/-! ===== a session's answers don't hang on the tallies ===== -/
def sTa (t : Nat → Int32) (σ : SS) : SS := (s_tr σ, s_cl σ, t, s_fin σ, s_opn σ, s_val σ, s_ran σ, s_fl σ, s_md σ)
def xTa (t : Nat → Int32) (x : XS) : XS := (x.1, sTa t x.2)
def TI (f : SS → Int64 × SS) : Prop := ∀ t σ, ∃ t', f (sTa t σ) = ((f σ).1, sTa t' (f σ).2)
def TX (f : XS → Int64 × XS) : Prop := ∀ t x, ∃ t', f (xTa t x) = ((f x).1, xTa t' (f x).2)
section TIS
variable {rec : RX}
theorem ti_ask (hr : ∀ k, TI (rec k)) (k : Nat) : TX (askV rec k) := by
  intro t x
  by_cases h : s_fl x.2 = 0
  · obtain ⟨t', e⟩ := hr k (upd t 0 (t 0 + nI 1)) (sTal 0 x.2)
    have e1 : rec k (sTal 0 (sTa t x.2)) = ((rec k (sTal 0 x.2)).1, sTa t' (rec k (sTal 0 x.2)).2) := e
    refine ⟨t', ?_⟩
    have a1 : askV rec k (xTa t x) = ((rec k (sTal 0 (sTa t x.2))).1, noteL x.1 k (rec k (sTal 0 (sTa t x.2))).1, (rec k (sTal 0 (sTa t x.2))).2) := if_pos h
    have a2 : askV rec k x = ((rec k (sTal 0 x.2)).1, noteL x.1 k (rec k (sTal 0 x.2)).1, (rec k (sTal 0 x.2)).2) := if_pos h
    rw [a1, a2, e1]
    rfl
  · refine ⟨t, ?_⟩
    have a1 : askV rec k (xTa t x) = (0, xTa t x) := if_neg h
    have a2 : askV rec k x = (0, x) := if_neg h
    rw [a1, a2]
theorem ti_fold (hr : ∀ k, TI (rec k)) (op : Int64 → Int64 → Int64) : ∀ (L : List Nat) (a : Int64), TX (foldV rec op L a)
  | [], a => fun t x => ⟨t, rfl⟩
  | p :: r, a => fun t x => by
    obtain ⟨t1, e1⟩ := ti_ask hr p t x
    obtain ⟨t2, e2⟩ := ti_fold hr op r (op a (askV rec p x).1) t1 (askV rec p x).2
    refine ⟨t2, ?_⟩
    unfold foldV
    rw [e1]
    exact e2
theorem ti_fail (n : Nat) : TX (failV n) := fun t x => ⟨t, rfl⟩
theorem ti_same (v : Int64) : TX (fun x => (v, x)) := fun t _ => ⟨t, rfl⟩
theorem ti_two (hr : ∀ k, TI (rec k)) (q1 q2 : Nat) (G : Int64 → Int64 → XS → Int64 × XS) (hG : ∀ a b, TX (G a b)) : TX (fun x => G (askV rec q1 x).1 (askV rec q2 (askV rec q1 x).2).1 (askV rec q2 (askV rec q1 x).2).2) := by
  intro t x
  obtain ⟨t1, e1⟩ := ti_ask hr q1 t x
  obtain ⟨t2, e2⟩ := ti_ask hr q2 t1 (askV rec q1 x).2
  obtain ⟨t3, e3⟩ := hG (askV rec q1 x).1 (askV rec q2 (askV rec q1 x).2).1 t2 (askV rec q2 (askV rec q1 x).2).2
  refine ⟨t3, ?_⟩
  dsimp only
  rw [e1]
  dsimp only
  rw [e2]
  exact e3
theorem ti_if {c : Prop} [Decidable c] {f g : XS → Int64 × XS} (hf : TX f) (hg : TX g) : TX (fun y => if c then f y else g y) := by
  intro t x
  dsimp only
  by_cases h : c
  · rw [if_pos h, if_pos h]; exact hf t x
  · rw [if_neg h, if_neg h]; exact hg t x
theorem ti_rule (hr : ∀ k, TI (rec k)) (P : PD) (k : Nat) : TX (ruleV rec P k) := by
  intro t x
  obtain ⟨t1, e1⟩ := ti_ask hr (p_pt P k 0) t x
  have h2 := fun q => ti_ask hr q t1 (askV rec (p_pt P k 0) x).2
  unfold ruleV
  generalize p_rl P k = r
  match r with
  | 0 => exact ti_fold hr _ _ _ t x
  | 1 => exact ti_fold hr _ _ _ t x
  | 2 => rw [e1]; exact h2 _
  | 3 => exact ti_two hr _ _ (fun a b y => if b = 0 then failV 2 y else (a / b, y)) (fun a b => ti_if (ti_fail 2) (ti_same _)) t x
  | 4 => rw [e1]; exact h2 _
  | 5 => exact ti_two hr _ _ (fun a b y => if b = 0 then failV 2 y else (a - a / b * b, y)) (fun a b => ti_if (ti_fail 2) (ti_same _)) t x
  | 6 =>
    by_cases hz : p_cn P k = 0
    · rw [if_pos hz, if_pos hz]; exact ⟨t, rfl⟩
    · rw [if_neg hz, if_neg hz, e1]; exact ti_fold hr _ _ _ t1 _
  | 7 => rw [e1]; exact ti_fold hr _ _ _ t1 _
  | 8 => rw [e1]; exact ⟨t1, rfl⟩
  | 9 => exact ti_two hr _ _ (fun a b y => if b < a then failV 3 y else (a, y)) (fun a b => ti_if (ti_fail 3) (ti_same _)) t x
  | n + 10 => exact ⟨t, rfl⟩
theorem ti_agr (hr : ∀ k, TI (rec k)) : ∀ (L : List (Nat × Int64)) (t : Nat → Int32) (σ : SS), ∃ t', agrV rec L (sTa t σ) = ((agrV rec L σ).1, sTa t' (agrV rec L σ).2)
  | [], t, σ => ⟨t, rfl⟩
  | q :: r, t, σ => by
    by_cases h : s_fl σ = 0
    · obtain ⟨t1, e1⟩ := hr q.1 t σ
      have a1 : agrV rec (q :: r) (sTa t σ) = (if (rec q.1 (sTa t σ)).1 = q.2 then agrV rec r (rec q.1 (sTa t σ)).2 else (false, (rec q.1 (sTa t σ)).2)) := if_pos h
      have a2 : agrV rec (q :: r) σ = (if (rec q.1 σ).1 = q.2 then agrV rec r (rec q.1 σ).2 else (false, (rec q.1 σ).2)) := if_pos h
      rw [a1, a2, e1]
      dsimp only
      by_cases hz : (rec q.1 σ).1 = q.2
      · rw [if_pos hz, if_pos hz]; exact ti_agr hr r t1 _
      · rw [if_neg hz, if_neg hz]; exact ⟨t1, rfl⟩
    · have a1 : agrV rec (q :: r) (sTa t σ) = (false, sTa t σ) := if_neg h
      have a2 : agrV rec (q :: r) σ = (false, σ) := if_neg h
      rw [a1, a2]; exact ⟨t, rfl⟩
theorem ti_cand (hr : ∀ k, TI (rec k)) : ∀ (L : List tv) (t : Nat → Int32) (σ : SS), ∃ t', candV rec L (sTa t σ) = ((candV rec L σ).1, sTa t' (candV rec L σ).2)
  | [], t, σ => ⟨t, rfl⟩
  | T :: r, t, σ => by
    by_cases h : s_fl σ = 0
    · obtain ⟨t1, e1⟩ := ti_agr hr T.2.1 t σ
      have a1 : candV rec (T :: r) (sTa t σ) = (if (agrV rec T.2.1 (sTa t σ)).1 = true then (some T, (agrV rec T.2.1 (sTa t σ)).2) else candV rec r (agrV rec T.2.1 (sTa t σ)).2) := if_pos h
      have a2 : candV rec (T :: r) σ = (if (agrV rec T.2.1 σ).1 = true then (some T, (agrV rec T.2.1 σ).2) else candV rec r (agrV rec T.2.1 σ).2) := if_pos h
      rw [a1, a2, e1]
      dsimp only
      by_cases hz : (agrV rec T.2.1 σ).1 = true
      · rw [if_pos hz, if_pos hz]; exact ⟨t1, rfl⟩
      · rw [if_neg hz, if_neg hz]; exact ti_cand hr r t1 _
    · have a1 : candV rec (T :: r) (sTa t σ) = (none, sTa t σ) := if_neg h
      have a2 : candV rec (T :: r) σ = (none, σ) := if_neg h
      rw [a1, a2]; exact ⟨t, rfl⟩
theorem ti_own (hr : ∀ k, TI (rec k)) (o : Option tv) (t : Nat → Int32) (σ : SS) : ∃ t', ownV rec o (sTa t σ) = ((ownV rec o σ).1, sTa t' (ownV rec o σ).2) := by
  cases o with
  | none => exact ⟨t, rfl⟩
  | some T => exact ti_agr hr T.2.1 t σ
theorem ti_run (hr : ∀ k, TI (rec k)) (P : PD) (wk k : Nat) : TI (runV rec P wk k) := by
  intro t σ
  obtain ⟨t1, e1⟩ := ti_rule hr P k t ([], sRan σ)
  have e1' : ruleV rec P k ([], sRan (sTa t σ)) = ((ruleV rec P k ([], sRan σ)).1, xTa t1 (ruleV rec P k ([], sRan σ)).2) := e1
  unfold runV
  rw [e1']
  dsimp only
  by_cases hz : s_fl (ruleV rec P k ([], sRan σ)).2.2 = 0
  · rw [if_pos (show s_fl (xTa t1 (ruleV rec P k ([], sRan σ)).2).2 = 0 from hz), if_pos hz]
    exact ⟨_, rfl⟩
  · rw [if_neg (show ¬ s_fl (xTa t1 (ruleV rec P k ([], sRan σ)).2).2 = 0 from hz), if_neg hz]
    exact ⟨_, rfl⟩
theorem ti_next (hr : ∀ k, TI (rec k)) (P : PD) (wk k : Nat) : TI (nextV rec P wk k) := by
  intro t σ
  obtain ⟨t1, e1⟩ := ti_cand hr (entV k (s_cl σ)) t σ
  have e1' : candV rec (entV k (s_cl (sTa t σ))) (sTa t σ) = _ := e1
  unfold nextV
  rw [e1']
  dsimp only
  cases (candV rec (entV k (s_cl σ)) σ).1 with
  | some T => exact ⟨_, rfl⟩
  | none =>
    dsimp only
    by_cases hz : s_fl (candV rec (entV k (s_cl σ)) σ).2 = 0
    · rw [if_pos (show s_fl (sTa t1 (candV rec (entV k (s_cl σ)) σ).2) = 0 from hz), if_pos hz]
      exact ti_run hr P wk k t1 _
    · rw [if_neg (show ¬ s_fl (sTa t1 (candV rec (entV k (s_cl σ)) σ).2) = 0 from hz), if_neg hz]
      exact ⟨_, rfl⟩
theorem ti_task (hr : ∀ k, TI (rec k)) (P : PD) (wk k : Nat) : TI (taskV rec P wk k) := by
  intro t σ
  obtain ⟨t1, e1⟩ := ti_own hr (s_tr σ (wk * 12 + k)) t σ
  have e1' : ownV rec (s_tr (sTa t σ) (wk * 12 + k)) (sTa t σ) = _ := e1
  unfold taskV
  rw [e1']
  dsimp only
  by_cases hz : (ownV rec (s_tr σ (wk * 12 + k)) σ).1 = true
  · rw [if_pos hz, if_pos hz]
    exact ⟨_, rfl⟩
  · rw [if_neg hz, if_neg hz]
    exact ti_next hr P wk k t1 _
theorem ti_step (hr : ∀ k, TI (rec k)) (P : PD) (wk k : Nat) : TI (stepV rec P wk k) := by
  intro t σ
  unfold stepV
  by_cases h1 : 12 ≤ k
  · rw [if_pos h1, if_pos h1]; exact ⟨t, rfl⟩
  rw [if_neg h1, if_neg h1]
  by_cases h2 : s_fin σ k = true
  · rw [if_pos (show s_fin (sTa t σ) k = true from h2), if_pos h2]; exact ⟨t, rfl⟩
  rw [if_neg (show ¬ s_fin (sTa t σ) k = true from h2), if_neg h2]
  by_cases h3 : s_opn σ k = true
  · rw [if_pos (show s_opn (sTa t σ) k = true from h3), if_pos h3]; exact ⟨_, rfl⟩
  rw [if_neg (show ¬ s_opn (sTa t σ) k = true from h3), if_neg h3]
  by_cases h4 : p_kd P k = 0
  · rw [if_pos h4, if_pos h4]; exact ⟨t, rfl⟩
  rw [if_neg h4, if_neg h4]
  by_cases h5 : p_kd P k = 1
  · rw [if_pos h5, if_pos h5]; exact ⟨t, rfl⟩
  rw [if_neg h5, if_neg h5]
  exact ti_task hr P wk k t (sOpen k σ)
end TIS
theorem ti_sv (P : PD) (wk : Nat) : ∀ (n k : Nat), TI (sv P wk n k)
  | 0, k => fun t _ => ⟨t, rfl⟩
  | n + 1, k => ti_step (ti_sv P wk n) P wk k
/-- a session with other tallies: same answer, same failure, same flag -/
theorem sess_ta (P : PD) (wk k : Nat) (tr : Nat → Option tv) (cl : List tv) (ta ta' : Nat → Int32) : (sv P wk 13 k (s_0 tr cl ta')).1 = (sv P wk 13 k (s_0 tr cl ta)).1 ∧ s_fl (sv P wk 13 k (s_0 tr cl ta')).2 = s_fl (sv P wk 13 k (s_0 tr cl ta)).2 ∧ s_ran (sv P wk 13 k (s_0 tr cl ta')).2 = s_ran (sv P wk 13 k (s_0 tr cl ta)).2 := by
  obtain ⟨t', e⟩ := ti_sv P wk 13 k ta' (s_0 tr cl ta)
  have e' : sv P wk 13 k (s_0 tr cl ta') = _ := e
  rw [e']
  exact ⟨rfl, rfl, rfl⟩
theorem c_B_throwF {l : Launch} {s0 : State} {dC : Nat → ClassId} {dI : Nat → Nat → Nat} {dA : Nat → ClassId} (B0 : BB s0 dC dI dA) (w : fw_W) (f : Nat) (hf : f = 0) : Met l y_B_throwFailure [.code y_B_throwFailure b_B_throwFailure 1 none] ({ frames := 0, cells := 0, slots := 0, locals := 0 }) (mP s0 dC dI w [.int (nI f)]) (mQv s0 dC dI (fun w' => w' = w)) 0 0 (AA s0) := by
  subst hf
  exact c_B_throwFailure B0 w
