theorem rem_ex (a b : Int64) (B : Int) (hb : b.toInt = B) (hB : B = 12 ∨ B = 4) : (a - a / b * b).toInt = a.toInt - (a.toInt.tdiv B) * B := by
  have h1 := Int64.toInt_lt a
  have h2 := Int64.le_toInt a
  obtain ⟨t1, t2⟩ := tdiv_two a.toInt B
  have hd : (a / b).toInt = (a.toInt.tdiv B).bmod (2 ^ 64) := by rw [Int64.toInt_div, hb]
  generalize a.toInt.tdiv B = q at t1 t2 hd ⊢
  have hm : (a / b * b).toInt = ((a / b).toInt * B).bmod (2 ^ 64) := by rw [Int64.toInt_mul, hb]
  have hs : (a - a / b * b).toInt = (a.toInt - (a / b * b).toInt).bmod (2 ^ 64) := by rw [Int64.toInt_sub]
  generalize a.toInt = A at *
  have hq : q.bmod (2 ^ 64) = q := Int.bmod_eq_of_le (by rcases hB with rfl | rfl <;> omega) (by rcases hB with rfl | rfl <;> omega)
  rw [hq] at hd
  rw [hd] at hm
  have hqB : (q * B).bmod (2 ^ 64) = q * B := Int.bmod_eq_of_le (by rcases hB with rfl | rfl <;> omega) (by rcases hB with rfl | rfl <;> omega)
  rw [hqB] at hm
  rw [hm] at hs
  have hr : (A - q * B).bmod (2 ^ 64) = A - q * B := Int.bmod_eq_of_le (by rcases hB with rfl | rfl <;> omega) (by rcases hB with rfl | rfl <;> omega)
  rw [hr] at hs
  exact hs
theorem mod_eq (a b : Int64) (B : Nat) (hb : b.toInt = B) (hB : B = 12 ∨ B = 4) (hm : b.toBitVec.msb = false) : (a - a / b * b + b) - (a - a / b * b + b) / b * b = fMod a b := by
  obtain ⟨r, hr, r1, r2⟩ := rem_12 a b B hb (by omega)
  have hs : (a - a / b * b + b).toInt = r + B := by
    rw [Int64.toInt_add, hr, hb, Int.bmod_eq_of_le (by omega) (by omega)]
  have he := rem_ex (a - a / b * b + b) b B hb (by omega)
  have ht := (tdiv_two (r + B) B).1 (by omega)
  rw [hs, ht] at he
  have hx := xor_neg a b hm
  apply Int64.toInt_inj.mp
  rw [he]
  unfold fMod
  by_cases h : (a - a / b * b) ≠ 0 ∧ (a ^^^ b) < 0
  · rw [if_pos h, hs]
    have ha : a.toInt < 0 := by have := hx.mp h.2; rw [Int64.lt_iff_toInt_lt, Int64.toInt_zero] at this; exact this
    have hr0 : r ≠ 0 := fun e => h.1 (Int64.toInt_inj.mp (by rw [hr, e, Int64.toInt_zero]))
    have r3 := r2 ha
    rcases hB with rfl | rfl <;> omega
  · rw [if_neg h, hr]
    have hr0 : 0 ≤ r ∧ r < B := by
      by_cases ha : 0 ≤ a.toInt
      · exact r1 ha
      · have r3 := r2 (by omega)
        have : r = 0 := Classical.byContradiction fun hne => h ⟨fun e => hne (by rw [← hr, e, Int64.toInt_zero]), hx.mpr (by rw [Int64.lt_iff_toInt_lt, Int64.toInt_zero]; omega)⟩
        omega
    rcases hB with rfl | rfl <;> omega
theorem dMod12 (a : Int64) : dMod a 12 = fMod a 12 := mod_eq a 12 12 (by decide) (by decide) (by decide)
theorem dMod4 (a : Int64) : dMod a 4 = fMod a 4 := mod_eq a 4 4 (by decide) (by decide) (by decide)
/-! the rules as the reference runs them -/
def wantI (P : PD) (k n : Nat) (fi : Int64) : Int32 :=
  if p_rl P k < 2 ∨ p_rl P k = 6 then (if n = 3 then -1 else p_pf P k n)
  else if n = 0 then p_pf P k 0
  else if p_rl P k = 2 then (if n = 2 then -1 else if 0 < fi then p_pf P k 1 else p_pf P k 2)
  else if p_rl P k = 4 then (if n = 2 then -1 else (dMod fi 12).toInt32)
  else if p_rl P k = 7 then (if dMod fi 4 < (nI n).toInt64 then -1 else p_pf P k 1)
  else if p_rl P k = 8 ∨ n = 2 then -1 else p_pf P k 1
def runM (rec : RX) (P : PD) (k : Nat) : Nat → Nat → Int64 → Int64 → XS → Int64 × XS
  | 0, _, _, _, x => (0, x)
  | m + 1, n, fi, su, x => if wantI P k n fi = -1 then (if dEndC (p_rl P k) n fi su = 0 then (dEndV (p_rl P k) fi su, x) else failV (dEndC (p_rl P k) n fi su - 1) x)
      else if s_fl (askV rec (wantI P k n fi).toNatClampNeg x).2.2 = 0 then runM rec P k m (n + 1) (if n = 0 then (askV rec (wantI P k n fi).toNatClampNeg x).1 else fi) (dAcc (p_rl P k) n su (askV rec (wantI P k n fi).toNatClampNeg x).1) (askV rec (wantI P k n fi).toNatClampNeg x).2
      else (0, (askV rec (wantI P k n fi).toNatClampNeg x).2)
def RE (A B : Int64 × XS) : Prop := A.2.2 = B.2.2 ∧ (s_fl B.2.2 = 0 → A = B)
theorem RE.rf {A B : Int64 × XS} (h : A = B) : RE A B := by subst h; exact ⟨rfl, fun _ => rfl⟩
theorem RE.l {A A' B : Int64 × XS} (h : A = A') (h2 : RE A' B) : RE A B := by subst h; exact h2
theorem RE.fl {A B : Int64 × XS} (h : A.2.2 = B.2.2) (hf : s_fl B.2.2 ≠ 0) : RE A B := ⟨h, fun e => absurd e hf⟩
theorem fail_fl {n : Nat} {σ : SS} (h : s_fl σ ≠ 0) : sFail n σ = σ := by
  unfold sFail
  rw [if_neg h]
theorem ask_fl {rec : RX} {q : Nat} {x : XS} (h : s_fl x.2 ≠ 0) : askV rec q x = (0, x) := if_neg h
theorem fold_fl {rec : RX} {op : Int64 → Int64 → Int64} : ∀ (L : List Nat) (a : Int64) {x : XS}, s_fl x.2 ≠ 0 → (foldV rec op L a x).2 = x
  | [], a, x, _ => rfl
  | p :: r, a, x, h => by
    unfold foldV
    rw [ask_fl h]
    exact fold_fl r _ h
section RUNM
variable {rec : RX} {P : PD} {k : Nat}
theorem runM_end {m n : Nat} {fi su : Int64} {x : XS} (hw : wantI P k n fi = -1) : runM rec P k (m + 1) n fi su x = (if dEndC (p_rl P k) n fi su = 0 then (dEndV (p_rl P k) fi su, x) else failV (dEndC (p_rl P k) n fi su - 1) x) := by
  conv => lhs; unfold runM
  rw [if_pos hw]
theorem runM_ask {m n q : Nat} {fi su : Int64} {x : XS} (hq : q < 12) (hw : wantI P k n fi = nI q) (hf : s_fl (askV rec q x).2.2 = 0) : runM rec P k (m + 1) n fi su x = runM rec P k m (n + 1) (if n = 0 then (askV rec q x).1 else fi) (dAcc (p_rl P k) n su (askV rec q x).1) (askV rec q x).2 := by
  conv => lhs; unfold runM
  rw [hw, nI_clamp (by omega), if_neg (nI_ne_m1 (by omega)), if_pos hf]
theorem runM_fl {m n q : Nat} {fi su : Int64} {x : XS} (hq : q < 12) (hw : wantI P k n fi = nI q) (hf : s_fl (askV rec q x).2.2 ≠ 0) : runM rec P k (m + 1) n fi su x = (0, (askV rec q x).2) := by
  conv => lhs; unfold runM
  rw [hw, nI_clamp (by omega), if_neg (nI_ne_m1 (by omega)), if_neg hf]
theorem chain {op : Int64 → Int64 → Int64} {G : Int64 → Prop} (hacc : ∀ n su v, 0 < n → dAcc (p_rl P k) n su v = op su v) (hend : ∀ n fi su, 0 < n ∨ p_rl P k ≠ 6 → dEndC (p_rl P k) n fi su = 0 ∧ dEndV (p_rl P k) fi su = su) : ∀ (L : List Nat) (m n : Nat) (fi su : Int64) (x : XS), L.length < m → G fi → (n = 0 → (∀ v, G v) ∧ (∀ su v, dAcc (p_rl P k) 0 su v = op su v) ∧ p_rl P k ≠ 6) → (∀ i p, L[i]? = some p → p < 12 ∧ ∀ fi, G fi → wantI P k (n + i) fi = nI p) → (∀ fi, G fi → wantI P k (n + L.length) fi = -1) → RE (foldV rec op L su x) (runM rec P k m n fi su x)
  | [], 0, _, _, _, _, h, _, _, _, _ => absurd h (Nat.not_lt_zero _)
  | _ :: _, 0, _, _, _, _, h, _, _, _, _ => absurd h (Nat.not_lt_zero _)
  | [], m + 1, n, fi, su, x, hm, hg, h0, hw, he => by
    obtain ⟨e1, e2⟩ := hend n fi su (by rcases Nat.eq_zero_or_pos n with h | h; exact Or.inr (h0 h).2.2; exact Or.inl h)
    refine RE.rf ?_
    rw [runM_end (show wantI P k n fi = -1 from he fi hg), if_pos e1, e2]
    rfl
  | p :: r, m + 1, n, fi, su, x, hm, hg, h0, hw, he => by
    obtain ⟨hp, hw0⟩ := hw 0 p rfl
    have hw1 : wantI P k n fi = nI p := hw0 fi hg
    by_cases hf : s_fl (askV rec p x).2.2 = 0
    · rw [runM_ask hp hw1 hf]
      have ea : dAcc (p_rl P k) n su (askV rec p x).1 = op su (askV rec p x).1 := by
        rcases Nat.eq_zero_or_pos n with h | h
        · rw [h]; exact (h0 h).2.1 _ _
        · exact hacc n _ _ h
      rw [ea]
      unfold foldV
      refine chain (G := G) hacc hend r m (n + 1) _ _ _ (by simpa using hm) ?_ (fun h => by omega) (fun i p' hi => ?_) (fun fi' hg' => ?_)
      · split
        · exact (h0 ‹_›).1 _
        · exact hg
      · obtain ⟨a, b⟩ := hw (i + 1) p' (by rw [List.getElem?_cons_succ]; exact hi)
        exact ⟨a, fun fi' hg' => by rw [show n + 1 + i = n + (i + 1) by omega]; exact b fi' hg'⟩
      · rw [show n + 1 + r.length = n + (p :: r).length by simp; omega]
        exact he fi' hg'
    · rw [runM_fl hp hw1 hf]
      refine RE.fl ?_ hf
      unfold foldV
      rw [fold_fl r _ hf]
theorem pt_of (hp : p_ok P) (hk : k < 12) (h2 : p_kd P k = 2) {i : Nat} (hi : i < p_cn P k) : p_pf P k i = nI (p_pt P k i) ∧ p_pt P k i < 12 := ((hp k hk).2 h2).2.2.2.1 i hi
theorem pparts_at {i p : Nat} (h : (p_parts P k)[i]? = some p) : i < p_cn P k ∧ p = p_pt P k i := by
  unfold p_parts at h
  rw [List.getElem?_map] at h
  by_cases hi : i < p_cn P k
  · rw [List.getElem?_range hi] at h
    injection h with h
    exact ⟨hi, h.symm⟩
  · rw [List.getElem?_eq_none (by rw [List.length_range]; omega)] at h
    cases h
theorem pparts_len : (p_parts P k).length = p_cn P k := by unfold p_parts; rw [List.length_map, List.length_range]
theorem want_part (hp : p_ok P) (hk : k < 12) (h2 : p_kd P k = 2) (hr : p_rl P k < 2 ∨ p_rl P k = 6) {n : Nat} (fi : Int64) (hn : n ≤ p_cn P k) : wantI P k n fi = if n = p_cn P k then -1 else nI (p_pt P k n) := by
  obtain ⟨a1, a2, a3, a4, a5⟩ := (hp k hk).2 h2
  unfold wantI
  rw [if_pos hr]
  by_cases e : n = p_cn P k
  · rw [if_pos e]
    split
    · rfl
    · exact a5 n (by omega) (by omega)
  · rw [if_neg e, if_neg (by omega)]
    exact (a4 n (by omega)).1
theorem two {q1 : Nat} {q2 : Int64 → Nat} (hq1 : q1 < 12) (hw1 : ∀ fi, wantI P k 0 fi = nI q1) (hq2 : ∀ v, q2 v < 12) (hw2 : ∀ v, wantI P k 1 v = nI (q2 v)) (hw3 : ∀ v, wantI P k 2 v = -1) (hacc : ∀ n su v, dAcc (p_rl P k) n su v = v) {F : Int64 → Int64 → XS → Int64 × XS} (hF : ∀ a b y, (if dEndC (p_rl P k) 2 a b = 0 then (dEndV (p_rl P k) a b, y) else failV (dEndC (p_rl P k) 2 a b - 1) y) = F a b y) (hFf : ∀ a b y, s_fl y.2 ≠ 0 → (F a b y).2.2 = y.2) (fi0 su0 : Int64) (x : XS) : RE (F (askV rec q1 x).1 (askV rec (q2 (askV rec q1 x).1) (askV rec q1 x).2).1 (askV rec (q2 (askV rec q1 x).1) (askV rec q1 x).2).2) (runM rec P k 5 0 fi0 su0 x) := by
  by_cases hf : s_fl (askV rec q1 x).2.2 = 0
  · rw [runM_ask hq1 (hw1 fi0) hf, if_pos rfl]
    generalize (askV rec q1 x).1 = v1
    generalize (askV rec q1 x).2 = y1
    by_cases hf2 : s_fl (askV rec (q2 v1) y1).2.2 = 0
    · rw [runM_ask (hq2 v1) (hw2 v1) hf2, if_neg (by omega), hacc, runM_end (hw3 v1), hF]
      exact RE.rf rfl
    · rw [runM_fl (hq2 v1) (hw2 v1) hf2]
      exact RE.fl (hFf _ _ _ hf2) hf2
  · rw [runM_fl hq1 (hw1 fi0) hf, ask_fl (q := q2 (askV rec q1 x).1) hf]
    exact RE.fl (hFf _ _ _ hf) hf
theorem rule_runM (hp : p_ok P) (hk : k < 12) (h2 : p_kd P k = 2) (fi0 : Int64) (x : XS) : RE (ruleV rec P k x) (runM rec P k 5 0 fi0 (if p_rl P k = 1 then 1 else 0) x) := by
  obtain ⟨a1, a2, a3, a4, a5⟩ := (hp k hk).2 h2
  rcases (show p_rl P k = 0 ∨ p_rl P k = 1 ∨ p_rl P k = 2 ∨ p_rl P k = 3 ∨ p_rl P k = 4 ∨ p_rl P k = 5 ∨ p_rl P k = 6 ∨ p_rl P k = 7 ∨ p_rl P k = 8 ∨ p_rl P k = 9 by omega) with e | e | e | e | e | e | e | e | e | e
  · have er : ruleV rec P k x = foldV rec (fun a b => a + b) (p_parts P k) 0 x := by unfold ruleV; rw [e] <;> rfl
    rw [er, if_neg (by omega)]
    refine chain (G := fun _ => True) (fun n su v _ => by unfold dAcc; rw [if_pos (Or.inl e)]) (fun n fi su _ => ⟨by unfold dEndC; rw [if_neg (by omega), if_neg (by omega), if_neg (by omega)], by unfold dEndV; rw [if_neg (by omega), if_neg (by omega), if_neg (by omega), if_neg (by omega)]⟩) _ _ 0 fi0 _ _ (by rw [pparts_len]; omega) trivial (fun _ => ⟨fun _ => trivial, fun su v => by unfold dAcc; rw [if_pos (Or.inl e)], by omega⟩) (fun i p h => ?_) (fun fi _ => ?_)
    · obtain ⟨h3, h4⟩ := pparts_at h
      rw [h4]
      exact ⟨(pt_of hp hk h2 h3).2, fun fi _ => by rw [want_part hp hk h2 (by omega) fi (by omega), Nat.zero_add, if_neg (by omega)]⟩
    · rw [pparts_len, Nat.zero_add, want_part hp hk h2 (by omega) fi (Nat.le_refl _), if_pos rfl]
  · have er : ruleV rec P k x = foldV rec (fun a b => a * b) (p_parts P k) 1 x := by unfold ruleV; rw [e] <;> rfl
    rw [er, if_pos e]
    refine chain (G := fun _ => True) (fun n su v _ => by unfold dAcc; rw [if_neg (by omega), if_pos e]) (fun n fi su _ => ⟨by unfold dEndC; rw [if_neg (by omega), if_neg (by omega), if_neg (by omega)], by unfold dEndV; rw [if_neg (by omega), if_neg (by omega), if_neg (by omega), if_neg (by omega)]⟩) _ _ 0 fi0 _ _ (by rw [pparts_len]; omega) trivial (fun _ => ⟨fun _ => trivial, fun su v => by unfold dAcc; rw [if_neg (by omega), if_pos e], by omega⟩) (fun i p h => ?_) (fun fi _ => ?_)
    · obtain ⟨h3, h4⟩ := pparts_at h
      rw [h4]
      exact ⟨(pt_of hp hk h2 h3).2, fun fi _ => by rw [want_part hp hk h2 (by omega) fi (by omega), Nat.zero_add, if_neg (by omega)]⟩
    · rw [pparts_len, Nat.zero_add, want_part hp hk h2 (by omega) fi (Nat.le_refl _), if_pos rfl]
  · obtain ⟨b0, b1⟩ := pt_of hp hk h2 (i := 0) (by rw [e] at a3; simp [p_need] at a3; omega)
    obtain ⟨b2, b3⟩ := pt_of hp hk h2 (i := 1) (by rw [e] at a3; simp [p_need] at a3; omega)
    obtain ⟨b4, b5⟩ := pt_of hp hk h2 (i := 2) (by rw [e] at a3; simp [p_need] at a3; omega)
    have er : ruleV rec P k x = (fun (_ b : Int64) (y : XS) => (b, y)) (askV rec (p_pt P k 0) x).1 (askV rec ((fun v => if 0 < v then p_pt P k 1 else p_pt P k 2) (askV rec (p_pt P k 0) x).1) (askV rec (p_pt P k 0) x).2).1 (askV rec ((fun v => if 0 < v then p_pt P k 1 else p_pt P k 2) (askV rec (p_pt P k 0) x).1) (askV rec (p_pt P k 0) x).2).2 := by unfold ruleV; rw [e] <;> rfl
    refine RE.l er (two (F := fun (_ b : Int64) (y : XS) => (b, y)) (q2 := fun v => if 0 < v then p_pt P k 1 else p_pt P k 2) b1 (fun fi => ?_) (fun v => ?_) (fun v => ?_) (fun v => ?_) (fun n su v => ?_) (fun a b y => ?_) (fun a b y _ => rfl) fi0 _ x)
    · unfold wantI; rw [if_neg (by omega), if_pos rfl]; exact b0
    · split
      · exact b3
      · exact b5
    · unfold wantI; rw [if_neg (by omega), if_neg (by omega), if_pos e, if_neg (by omega)]
      split
      · exact b2
      · exact b4
    · unfold wantI; rw [if_neg (by omega), if_neg (by omega), if_pos e, if_pos rfl]
    · unfold dAcc; rw [if_neg (by omega), if_neg (by omega), if_neg (by omega)]
    · rw [if_pos (by unfold dEndC; rw [if_neg (by omega), if_neg (by omega), if_neg (by omega)])]
      unfold dEndV; rw [if_neg (by omega), if_neg (by omega), if_neg (by omega), if_neg (by omega)]
  · obtain ⟨b0, b1⟩ := pt_of hp hk h2 (i := 0) (by rw [e] at a3; simp [p_need] at a3; omega)
    obtain ⟨b2, b3⟩ := pt_of hp hk h2 (i := 1) (by rw [e] at a3; simp [p_need] at a3; omega)
    have er : ruleV rec P k x = (fun (a b : Int64) (y : XS) => if b = 0 then failV 2 y else (a / b, y)) (askV rec (p_pt P k 0) x).1 (askV rec ((fun _ => p_pt P k 1) (askV rec (p_pt P k 0) x).1) (askV rec (p_pt P k 0) x).2).1 (askV rec ((fun _ => p_pt P k 1) (askV rec (p_pt P k 0) x).1) (askV rec (p_pt P k 0) x).2).2 := by unfold ruleV; rw [e] <;> rfl
    refine RE.l er (two (F := fun (a b : Int64) (y : XS) => if b = 0 then failV 2 y else (a / b, y)) (q2 := fun _ => p_pt P k 1) b1 (fun fi => ?_) (fun v => b3) (fun v => ?_) (fun v => ?_) (fun n su v => ?_) (fun a b y => ?_) (fun a b y hy => ?_) fi0 _ x)
    · unfold wantI; rw [if_neg (by omega), if_pos rfl]; exact b0
    · unfold wantI; rw [if_neg (by omega), if_neg (by omega), if_neg (by omega), if_neg (by omega), if_neg (by omega), if_neg (by omega)]; exact b2
    · unfold wantI; rw [if_neg (by omega), if_neg (by omega), if_neg (by omega), if_neg (by omega), if_neg (by omega), if_pos (by omega)]
    · unfold dAcc; rw [if_neg (by omega), if_neg (by omega), if_neg (by omega)]
    · by_cases hb : b = 0
      · have hc : dEndC (p_rl P k) 2 a b = 3 := by unfold dEndC; rw [if_neg (by omega), if_pos ⟨by omega, hb⟩]
        rw [hc, if_neg (by omega)]; rw [if_pos hb]
      · have hc : dEndC (p_rl P k) 2 a b = 0 := by unfold dEndC; rw [if_neg (by omega), if_neg (fun h => hb h.2), if_neg (by omega)]
        rw [hc, if_pos rfl]; rw [if_neg hb]; unfold dEndV; rw [if_pos e]
    · split
      · exact fail_fl hy
      · rfl
  · obtain ⟨b0, b1⟩ := pt_of hp hk h2 (i := 0) (by rw [e] at a3; simp [p_need] at a3; omega)
    have er : ruleV rec P k x = (fun (_ b : Int64) (y : XS) => (b, y)) (askV rec (p_pt P k 0) x).1 (askV rec ((fun v => (fMod v 12).toInt32.toNatClampNeg) (askV rec (p_pt P k 0) x).1) (askV rec (p_pt P k 0) x).2).1 (askV rec ((fun v => (fMod v 12).toInt32.toNatClampNeg) (askV rec (p_pt P k 0) x).1) (askV rec (p_pt P k 0) x).2).2 := by unfold ruleV; rw [e] <;> rfl
    refine RE.l er (two (F := fun (_ b : Int64) (y : XS) => (b, y)) (q2 := fun v => (fMod v 12).toInt32.toNatClampNeg) b1 (fun fi => ?_) (fun v => (fMod12 v).2) (fun v => ?_) (fun v => ?_) (fun n su v => ?_) (fun a b y => ?_) (fun a b y _ => rfl) fi0 _ x)
    · unfold wantI; rw [if_neg (by omega), if_pos rfl]; exact b0
    · unfold wantI; rw [if_neg (by omega), if_neg (by omega), if_neg (by omega), if_pos e, if_neg (by omega), dMod12]; exact (fMod12 v).1
    · unfold wantI; rw [if_neg (by omega), if_neg (by omega), if_neg (by omega), if_pos e, if_pos rfl]
    · unfold dAcc; rw [if_neg (by omega), if_neg (by omega), if_neg (by omega)]
    · rw [if_pos (by unfold dEndC; rw [if_neg (by omega), if_neg (by omega), if_neg (by omega)])]
      unfold dEndV; rw [if_neg (by omega), if_neg (by omega), if_neg (by omega), if_neg (by omega)]
  · obtain ⟨b0, b1⟩ := pt_of hp hk h2 (i := 0) (by rw [e] at a3; simp [p_need] at a3; omega)
    obtain ⟨b2, b3⟩ := pt_of hp hk h2 (i := 1) (by rw [e] at a3; simp [p_need] at a3; omega)
    have er : ruleV rec P k x = (fun (a b : Int64) (y : XS) => if b = 0 then failV 2 y else (a - a / b * b, y)) (askV rec (p_pt P k 0) x).1 (askV rec ((fun _ => p_pt P k 1) (askV rec (p_pt P k 0) x).1) (askV rec (p_pt P k 0) x).2).1 (askV rec ((fun _ => p_pt P k 1) (askV rec (p_pt P k 0) x).1) (askV rec (p_pt P k 0) x).2).2 := by unfold ruleV; rw [e] <;> rfl
    refine RE.l er (two (F := fun (a b : Int64) (y : XS) => if b = 0 then failV 2 y else (a - a / b * b, y)) (q2 := fun _ => p_pt P k 1) b1 (fun fi => ?_) (fun v => b3) (fun v => ?_) (fun v => ?_) (fun n su v => ?_) (fun a b y => ?_) (fun a b y hy => ?_) fi0 _ x)
    · unfold wantI; rw [if_neg (by omega), if_pos rfl]; exact b0
    · unfold wantI; rw [if_neg (by omega), if_neg (by omega), if_neg (by omega), if_neg (by omega), if_neg (by omega), if_neg (by omega)]; exact b2
    · unfold wantI; rw [if_neg (by omega), if_neg (by omega), if_neg (by omega), if_neg (by omega), if_neg (by omega), if_pos (by omega)]
    · unfold dAcc; rw [if_neg (by omega), if_neg (by omega), if_neg (by omega)]
    · by_cases hb : b = 0
      · have hc : dEndC (p_rl P k) 2 a b = 3 := by unfold dEndC; rw [if_neg (by omega), if_pos ⟨by omega, hb⟩]
        rw [hc, if_neg (by omega)]; rw [if_pos hb]
      · have hc : dEndC (p_rl P k) 2 a b = 0 := by unfold dEndC; rw [if_neg (by omega), if_neg (fun h => hb h.2), if_neg (by omega)]
        rw [hc, if_pos rfl]; rw [if_neg hb]; unfold dEndV; rw [if_neg (by omega), if_pos e]
    · split
      · exact fail_fl hy
      · rfl
  · by_cases hz : p_cn P k = 0
    · have er : ruleV rec P k x = failV 1 x := by unfold ruleV; rw [e, if_pos hz] <;> rfl
      have hc : dEndC (p_rl P k) 0 fi0 (if p_rl P k = 1 then 1 else 0) = 2 := by unfold dEndC; rw [if_pos ⟨e, rfl⟩]
      rw [er, runM_end (by rw [want_part hp hk h2 (by omega) fi0 (by omega), if_pos hz.symm]), hc, if_neg (by omega)]
      exact RE.rf rfl
    · obtain ⟨b0, b1⟩ := pt_of hp hk h2 (i := 0) (by omega)
      have er : ruleV rec P k x = foldV rec (fun a b => if a < b then b else a) ((p_parts P k).drop 1) (askV rec (p_pt P k 0) x).1 (askV rec (p_pt P k 0) x).2 := by unfold ruleV; rw [e, if_neg hz] <;> rfl
      have hw0 : wantI P k 0 fi0 = nI (p_pt P k 0) := by rw [want_part hp hk h2 (by omega) fi0 (by omega), if_neg (by omega)]
      rw [er]
      by_cases hf : s_fl (askV rec (p_pt P k 0) x).2.2 = 0
      · rw [runM_ask b1 hw0 hf]
        have ea : ∀ su v, dAcc (p_rl P k) 0 su v = v := fun su v => by unfold dAcc; rw [if_neg (by omega), if_neg (by omega), if_pos e, if_pos (Or.inl rfl)]
        rw [ea]
        refine chain (G := fun _ => True) (fun n su v hn => ?_) (fun n fi su hn => ⟨?_, ?_⟩) _ _ 1 _ _ _ (by rw [List.length_drop, pparts_len]; omega) trivial (fun h => by omega) (fun i p h => ?_) (fun fi _ => ?_)
        · unfold dAcc; rw [if_neg (by omega), if_neg (by omega), if_pos e]
          by_cases hlt : su < v
          · rw [if_pos (Or.inr hlt), if_pos hlt]
          · rw [if_neg (fun h => h.elim (by omega) hlt), if_neg hlt]
        · unfold dEndC; rw [if_neg (fun h => by omega), if_neg (by omega), if_neg (by omega)]
        · unfold dEndV; rw [if_neg (by omega), if_neg (by omega), if_neg (by omega), if_neg (by omega)]
        · rw [List.getElem?_drop] at h
          obtain ⟨h3, h4⟩ := pparts_at h
          rw [h4]
          exact ⟨(pt_of hp hk h2 h3).2, fun fi _ => by rw [want_part hp hk h2 (by omega) fi (by omega), if_neg (by omega)]⟩
        · rw [List.length_drop, pparts_len, show 1 + (p_cn P k - 1) = p_cn P k by omega, want_part hp hk h2 (by omega) fi (Nat.le_refl _), if_pos rfl]
      · rw [runM_fl b1 hw0 hf]
        exact RE.fl (by rw [fold_fl _ _ hf]) hf
  · obtain ⟨b0, b1⟩ := pt_of hp hk h2 (i := 0) (by rw [e] at a3; simp [p_need] at a3; omega)
    obtain ⟨b2, b3⟩ := pt_of hp hk h2 (i := 1) (by rw [e] at a3; simp [p_need] at a3; omega)
    have er : ruleV rec P k x = foldV rec (fun a b => a + b) (List.replicate (fMod (askV rec (p_pt P k 0) x).1 4).toInt32.toNatClampNeg (p_pt P k 1)) (askV rec (p_pt P k 0) x).1 (askV rec (p_pt P k 0) x).2 := by unfold ruleV; rw [e] <;> rfl
    have hw0 : wantI P k 0 fi0 = nI (p_pt P k 0) := by unfold wantI; rw [if_neg (by omega), if_pos rfl]; exact b0
    rw [er]
    by_cases hf : s_fl (askV rec (p_pt P k 0) x).2.2 = 0
    · rw [runM_ask b1 hw0 hf, if_pos rfl]
      have ea : ∀ n su v, dAcc (p_rl P k) n su v = su + v := fun n su v => by unfold dAcc; rw [if_pos (Or.inr e)]
      rw [ea, if_neg (by omega), Int64.zero_add]
      generalize (askV rec (p_pt P k 0) x).1 = v1
      obtain ⟨m1, hm1, hm2⟩ := fMod_lN v1 4 4 (by decide) (by decide) (by decide)
      have hm3 : (fMod v1 4).toInt32.toNatClampNeg = m1 := by rw [hm2, lN_i, nI_clamp (by omega)]
      rw [hm3]
      have hwn : ∀ n, n < 100 → 0 < n → wantI P k n v1 = if m1 < n then -1 else nI (p_pt P k 1) := by
        intro n hn hn0
        unfold wantI
        rw [if_neg (by omega), if_neg (by omega), if_neg (by omega), if_neg (by omega), if_pos e, dMod4, hm2, nI_l (by omega), b2]
        have h9 : lN m1 < lN n ↔ m1 < n := by rw [Int64.lt_iff_toInt_lt, lN_toInt (by omega), lN_toInt (by omega)]; omega
        by_cases hlt : m1 < n
        · rw [if_pos hlt, if_pos (h9.mpr hlt)]
        · rw [if_neg hlt, if_neg (fun h => hlt (h9.mp h))]
      refine chain (G := fun fi => fi = v1) (fun n su v _ => ea n su v) (fun n fi su hn => ⟨?_, ?_⟩) _ _ 1 _ _ _ (by rw [List.length_replicate]; omega) rfl (fun h => by omega) (fun i p h => ?_) (fun fi hfi => ?_)
      · unfold dEndC; rw [if_neg (fun h => by omega), if_neg (by omega), if_neg (by omega)]
      · unfold dEndV; rw [if_neg (by omega), if_neg (by omega), if_neg (by omega), if_neg (by omega)]
      · have hi : i < m1 := by
          rcases Nat.lt_or_ge i m1 with h9 | h9
          · exact h9
          · rw [List.getElem?_eq_none (by rw [List.length_replicate]; exact h9)] at h; cases h
        rw [List.getElem?_replicate, if_pos hi] at h
        injection h with h
        subst h
        exact ⟨b3, fun fi hfi => by rw [hfi, hwn (1 + i) (by omega) (by omega), if_neg (by omega)]⟩
      · rw [List.length_replicate, hfi, hwn (1 + m1) (by omega) (by omega), if_pos (by omega)]
    · rw [runM_fl b1 hw0 hf]
      exact RE.fl (by rw [fold_fl _ _ hf]) hf
  · obtain ⟨b0, b1⟩ := pt_of hp hk h2 (i := 0) (by rw [e] at a3; simp [p_need] at a3; omega)
    have er : ruleV rec P k x = (7, (askV rec (p_pt P k 0) x).2) := by unfold ruleV; rw [e] <;> rfl
    have hw0 : wantI P k 0 fi0 = nI (p_pt P k 0) := by unfold wantI; rw [if_neg (by omega), if_pos rfl]; exact b0
    have hw1 : ∀ v, wantI P k 1 v = -1 := fun v => by unfold wantI; rw [if_neg (by omega), if_neg (by omega), if_neg (by omega), if_neg (by omega), if_neg (by omega), if_pos (Or.inl e)]
    rw [er]
    by_cases hf : s_fl (askV rec (p_pt P k 0) x).2.2 = 0
    · rw [runM_ask b1 hw0 hf, runM_end (hw1 _), if_pos (by unfold dEndC; rw [if_neg (by omega), if_neg (by omega), if_neg (by omega)])]
      refine RE.rf ?_
      unfold dEndV; rw [if_neg (by omega), if_neg (by omega), if_pos e]
    · rw [runM_fl b1 hw0 hf]
      exact RE.fl rfl hf
  · obtain ⟨b0, b1⟩ := pt_of hp hk h2 (i := 0) (by rw [e] at a3; simp [p_need] at a3; omega)
    obtain ⟨b2, b3⟩ := pt_of hp hk h2 (i := 1) (by rw [e] at a3; simp [p_need] at a3; omega)
    have er : ruleV rec P k x = (fun (a b : Int64) (y : XS) => if b < a then failV 3 y else (a, y)) (askV rec (p_pt P k 0) x).1 (askV rec ((fun _ => p_pt P k 1) (askV rec (p_pt P k 0) x).1) (askV rec (p_pt P k 0) x).2).1 (askV rec ((fun _ => p_pt P k 1) (askV rec (p_pt P k 0) x).1) (askV rec (p_pt P k 0) x).2).2 := by unfold ruleV; rw [e] <;> rfl
    refine RE.l er (two (F := fun (a b : Int64) (y : XS) => if b < a then failV 3 y else (a, y)) (q2 := fun _ => p_pt P k 1) b1 (fun fi => ?_) (fun v => b3) (fun v => ?_) (fun v => ?_) (fun n su v => ?_) (fun a b y => ?_) (fun a b y hy => ?_) fi0 _ x)
    · unfold wantI; rw [if_neg (by omega), if_pos rfl]; exact b0
    · unfold wantI; rw [if_neg (by omega), if_neg (by omega), if_neg (by omega), if_neg (by omega), if_neg (by omega), if_neg (by omega)]; exact b2
    · unfold wantI; rw [if_neg (by omega), if_neg (by omega), if_neg (by omega), if_neg (by omega), if_neg (by omega), if_pos (by omega)]
    · unfold dAcc; rw [if_neg (by omega), if_neg (by omega), if_neg (by omega)]
    · by_cases hb : b < a
      · have hc : dEndC (p_rl P k) 2 a b = 4 := by unfold dEndC; rw [if_neg (by omega), if_neg (by omega), if_pos ⟨e, hb⟩]
        rw [hc, if_neg (by omega)]; rw [if_pos hb]
      · have hc : dEndC (p_rl P k) 2 a b = 0 := by unfold dEndC; rw [if_neg (by omega), if_neg (by omega), if_neg (fun h => hb h.2)]
        rw [hc, if_pos rfl]; rw [if_neg hb]; unfold dEndV; rw [if_neg (by omega), if_neg (by omega), if_neg (by omega), if_pos e]
    · split
      · exact fail_fl hy
      · rfl
end RUNM
