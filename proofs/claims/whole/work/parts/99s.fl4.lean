section FL4
variable {P : PD} {wk k : Nat} {σ : SS} {rec : RX}
theorem f4_fail {n : Nat} (hn : n < 4) (H : s_fl σ < 4) : s_fl (sFail n σ) < 4 := by
  show (if s_fl σ = 0 then n else s_fl σ) < 4
  split
  · exact hn
  · exact H
theorem f4_ask (hr : ∀ k σ, s_fl σ < 4 → s_fl (rec k σ).2 < 4) (k : Nat) (x : XS) (H : s_fl x.2 < 4) : s_fl (askV rec k x).2.2 < 4 := by
  unfold askV
  split
  · exact hr k _ H
  · exact H
theorem f4_fold (hr : ∀ k σ, s_fl σ < 4 → s_fl (rec k σ).2 < 4) (op : Int64 → Int64 → Int64) : ∀ (L : List Nat) (a : Int64) (x : XS), s_fl x.2 < 4 → s_fl (foldV rec op L a x).2.2 < 4
  | [], a, x, H => H
  | p :: r, a, x, H => f4_fold hr op r _ _ (f4_ask hr p x H)
theorem f4_rule (hr : ∀ k σ, s_fl σ < 4 → s_fl (rec k σ).2 < 4) (k : Nat) (x : XS) (H : s_fl x.2 < 4) : s_fl (ruleV rec P k x).2.2 < 4 := by
  have a1 := fun q => f4_ask hr q x H
  have a2 := fun q p => f4_ask hr q (askV rec p x).2 (a1 p)
  unfold ruleV
  split
  · exact f4_fold hr _ _ _ _ H
  · exact f4_fold hr _ _ _ _ H
  · exact a2 _ _
  · split
    · exact f4_fail (by omega) (a2 (p_pt P k 1) (p_pt P k 0))
    · exact a2 (p_pt P k 1) (p_pt P k 0)
  · exact a2 _ _
  · split
    · exact f4_fail (by omega) (a2 (p_pt P k 1) (p_pt P k 0))
    · exact a2 (p_pt P k 1) (p_pt P k 0)
  · split
    · exact f4_fail (by omega) H
    · exact f4_fold hr _ _ _ _ (a1 _)
  · exact f4_fold hr _ _ _ _ (a1 _)
  · exact a1 _
  · split
    · exact f4_fail (by omega) (a2 (p_pt P k 1) (p_pt P k 0))
    · exact a2 (p_pt P k 1) (p_pt P k 0)
  · exact H
theorem f4_agr (hr : ∀ k σ, s_fl σ < 4 → s_fl (rec k σ).2 < 4) : ∀ (L : List (Nat × Int64)) (σ : SS), s_fl σ < 4 → s_fl (agrV rec L σ).2 < 4
  | [], σ, H => H
  | q :: r, σ, H => by
    unfold agrV
    split
    · split
      · exact f4_agr hr r _ (hr _ _ H)
      · exact hr _ _ H
    · exact H
theorem f4_cand (hr : ∀ k σ, s_fl σ < 4 → s_fl (rec k σ).2 < 4) : ∀ (L : List tv) (σ : SS), s_fl σ < 4 → s_fl (candV rec L σ).2 < 4
  | [], σ, H => H
  | T :: r, σ, H => by
    have h1 := f4_agr hr T.2.1 σ H
    have h2 := f4_cand hr r _ h1
    unfold candV
    split
    · split
      · exact h1
      · exact h2
    · exact H
theorem f4_run (hr : ∀ k σ, s_fl σ < 4 → s_fl (rec k σ).2 < 4) (H : s_fl σ < 4) : s_fl (runV rec P wk k σ).2 < 4 := by
  have h3 : s_fl (ruleV rec P k ([], sRan σ)).2.2 < 4 := f4_rule hr k ([], sRan σ) H
  unfold runV
  split
  · exact h3
  · exact h3
theorem f4_next (hr : ∀ k σ, s_fl σ < 4 → s_fl (rec k σ).2 < 4) (H : s_fl σ < 4) : s_fl (nextV rec P wk k σ).2 < 4 := by
  have h3 := f4_cand hr (entV k (s_cl σ)) σ H
  unfold nextV
  split
  · exact h3
  · split
    · exact f4_run hr h3
    · exact h3
theorem f4_task (hr : ∀ k σ, s_fl σ < 4 → s_fl (rec k σ).2 < 4) (H : s_fl σ < 4) : s_fl (taskV rec P wk k σ).2 < 4 := by
  have h3 : s_fl (ownV rec (s_tr σ (wk * 12 + k)) σ).2 < 4 := by
    unfold ownV
    split
    · exact H
    · exact f4_agr hr _ _ H
  unfold taskV
  split
  · exact h3
  · exact f4_next hr h3
theorem f4_step (hr : ∀ k σ, s_fl σ < 4 → s_fl (rec k σ).2 < 4) (k : Nat) (σ : SS) (H : s_fl σ < 4) : s_fl (stepV rec P wk k σ).2 < 4 := by
  unfold stepV
  split
  · exact H
  · split
    · exact H
    · split
      · exact f4_fail (by omega) H
      · split
        · exact f4_fail (by omega) H
        · split
          · exact H
          · exact f4_task hr H
theorem f4_sv : ∀ (n k : Nat) (σ : SS), s_fl σ < 4 → s_fl (sv P wk n k σ).2 < 4
  | 0, k, σ, H => H
  | n + 1, k, σ, H => f4_step (f4_sv n) k σ H
theorem bFl4 (wk k : Nat) (β : BS) : bFl wk k β < 4 := f4_sv 13 k _ (show (0 : Nat) < 4 by omega)
end FL4
