theorem frS_open_ge {σ : SS} {k : Nat} : ∀ n, n ≤ k → frS (sOpen k σ) n = frS σ n
  | 0, _ => rfl
  | n + 1, h => by
    have e : s_opn (sOpen k σ) n = s_opn σ n := va_up_ne _ _ (by omega)
    have e2 : s_fin (sOpen k σ) n = s_fin σ n := rfl
    unfold frS
    rw [frS_open_ge n (by omega), e, e2]
theorem frS_open {σ : SS} {k : Nat} (h1 : s_opn σ k = false) (h2 : s_fin σ k = false) : ∀ n, k < n → frS (sOpen k σ) n + 1 = frS σ n
  | 0, h => absurd h (Nat.not_lt_zero k)
  | n + 1, h => by
    have e2 : s_fin (sOpen k σ) n = s_fin σ n := rfl
    by_cases hk : k = n
    · subst hk
      have e : s_opn (sOpen k σ) k = true := va_up_self _ _ _
      unfold frS
      rw [frS_open_ge k (Nat.le_refl _), e, if_pos (Or.inl rfl), h1, h2, if_neg (by simp)]
    · have e : s_opn (sOpen k σ) n = s_opn σ n := va_up_ne _ _ (by omega)
      have hi := frS_open h1 h2 n (by omega)
      unfold frS
      rw [e, e2, ← hi]
      omega
def Kq (σ τ : SS) : Prop := (∀ j, s_opn σ j = true → s_opn τ j = true) ∧ (∀ j, s_fin σ j = true → s_fin τ j = true ∧ s_val τ j = s_val σ j) ∧ s_md σ ≤ s_md τ ∧ s_md τ + fr12 τ ≤ s_md σ + fr12 σ + 1
theorem Kp.kq {σ τ : SS} (h : Kp σ τ) : Kq σ τ := ⟨h.1, h.2.1, h.2.2.1, Nat.le_succ_of_le h.2.2.2⟩
theorem Kq.kp {σ τ υ : SS} (h1 : Kq σ τ) (h2 : Kp τ υ) : Kq σ υ := ⟨fun j h => h2.1 j (h1.1 j h), fun j h => ⟨(h2.2.1 j (h1.2.1 j h).1).1, (h2.2.1 j (h1.2.1 j h).1).2.trans (h1.2.1 j h).2⟩, Nat.le_trans h1.2.2.1 h2.2.2.1, Nat.le_trans h2.2.2.2 h1.2.2.2⟩
theorem Kp.pq {σ τ υ : SS} (h1 : Kp σ τ) (h2 : Kq τ υ) : Kq σ υ := ⟨fun j h => h2.1 j (h1.1 j h), fun j h => ⟨(h2.2.1 j (h1.2.1 j h).1).1, (h2.2.1 j (h1.2.1 j h).1).2.trans (h1.2.1 j h).2⟩, Nat.le_trans h1.2.2.1 h2.2.2.1, Nat.le_trans h2.2.2.2 (Nat.succ_le_succ h1.2.2.2)⟩
theorem Kq_ran (σ : SS) : Kq σ (sRan σ) := ⟨fun _ h => h, fun _ h => ⟨h, rfl⟩, Nat.le_succ _, by rw [show fr12 (sRan σ) = fr12 σ from frS_same rfl rfl 12]; show s_md σ + 1 + _ ≤ _; omega⟩
theorem Kq.out {σ τ : SS} {k : Nat} (hk : k < 12) (h1 : s_opn σ k = false) (h2 : s_fin σ k = false) (h : Kq (sOpen k σ) τ) : Kp σ τ := by
  refine ⟨fun j hj => ?_, fun j hj => h.2.1 j hj, h.2.2.1, ?_⟩
  · refine h.1 j ?_
    by_cases e : j = k
    · rw [e, h1] at hj; cases hj
    · exact (va_up_ne _ _ e).trans hj
  · have a := h.2.2.2
    have b : fr12 (sOpen k σ) + 1 = fr12 σ := frS_open h1 h2 12 hk
    have d : s_md (sOpen k σ) = s_md σ := rfl
    omega
theorem Kq.fin {σ τ : SS} {k : Nat} {v : Int64} (hk : k < 12) (h1 : s_opn σ k = false) (h2 : s_fin σ k = false) (h : Kq (sOpen k σ) τ) : Kp σ (sFin k v τ) := by
  have h0 := h.out hk h1 h2
  have ho : s_opn τ k = true := h.1 k (va_up_self _ _ _)
  refine ⟨fun j hj => ?_, fun j hj => ?_, h0.2.2.1, Nat.le_trans (Nat.add_le_add_left (frS_le (fun j hj => ?_) 12) _) h0.2.2.2⟩
  · have e : j ≠ k := fun e => by rw [e, h1] at hj; cases hj
    exact (va_up_ne _ _ e).trans (h0.1 j hj)
  · have e : j ≠ k := fun e => by rw [e, h2] at hj; cases hj
    exact ⟨(va_up_ne _ _ e).trans (h0.2.1 j hj).1, (pk_uLn e).trans (h0.2.1 j hj).2⟩
  · by_cases e : j = k
    · rw [e]; exact Or.inr (va_up_self _ _ _)
    · exact hj.elim (fun a => Or.inl ((va_up_ne _ _ e).trans a)) (fun a => Or.inr ((va_up_ne _ _ e).trans a))
theorem Kp_fin1 {σ : SS} {k : Nat} {v : Int64} (h1 : s_opn σ k = false) (h2 : s_fin σ k = false) : Kp σ (sFin k v σ) := by
  refine ⟨fun j hj => ?_, fun j hj => ?_, Nat.le_refl _, Nat.add_le_add_left (frS_le (fun j hj => ?_) 12) _⟩
  · have e : j ≠ k := fun e => by rw [e, h1] at hj; cases hj
    exact (va_up_ne _ _ e).trans hj
  · have e : j ≠ k := fun e => by rw [e, h2] at hj; cases hj
    exact ⟨(va_up_ne _ _ e).trans hj, pk_uLn e⟩
  · by_cases e : j = k
    · rw [e]; exact Or.inr (va_up_self _ _ _)
    · exact hj.elim (fun a => Or.inl ((va_up_ne _ _ e).trans a)) (fun a => Or.inr ((va_up_ne _ _ e).trans a))
theorem Kp_run {rec : RX} (hr : ∀ k σ, Kp σ (rec k σ).2) (P : PD) (wk : Nat) {σ σ2 : SS} {k : Nat} (hk : k < 12) (h1 : s_opn σ k = false) (h2 : s_fin σ k = false) (h : Kp (sOpen k σ) σ2) : Kp σ (runV rec P wk k σ2).2 := by
  have h3 : Kq (sOpen k σ) (ruleV rec P k ([], sRan σ2)).2.2 := (h.pq (Kq_ran σ2)).kp (Kp_rule hr P k ([], sRan σ2))
  unfold runV
  split
  · exact Kq.fin hk h1 h2 (((h3.kp (Kp_tal _ _)).kp (Kp_give _ _ _)).kp (Kp_app _ _))
  · exact Kq.out hk h1 h2 (h3.kp (Kp_tal _ _))
theorem Kp_task {rec : RX} (hr : ∀ k σ, Kp σ (rec k σ).2) (P : PD) (wk : Nat) {σ : SS} {k : Nat} (hk : k < 12) (h1 : s_opn σ k = false) (h2 : s_fin σ k = false) : Kp σ (taskV rec P wk k (sOpen k σ)).2 := by
  have ho := Kp_own hr (s_tr (sOpen k σ) (wk * 12 + k)) (sOpen k σ)
  unfold taskV
  split
  · exact Kq.fin hk h1 h2 (ho.tr (Kp_tal _ _)).kq
  · generalize (ownV rec (s_tr (sOpen k σ) (wk * 12 + k)) (sOpen k σ)).2 = σ1 at ho ⊢
    have hc := Kp_cand hr (entV k (s_cl σ1)) σ1
    unfold nextV
    split
    · exact Kq.fin hk h1 h2 (((ho.tr hc).tr (Kp_tal _ _)).tr (Kp_give _ _ _)).kq
    · split
      · exact Kp_run hr P wk hk h1 h2 (ho.tr hc)
      · exact Kq.out hk h1 h2 (ho.tr hc).kq
theorem Kp_step {rec : RX} (hr : ∀ k σ, Kp σ (rec k σ).2) (P : PD) (wk k : Nat) (σ : SS) : Kp σ (stepV rec P wk k σ).2 := by
  unfold stepV
  split
  · exact Kp.rf _
  · split
    · exact Kp.rf _
    · split
      · exact (Kp_tal _ _).tr (Kp_fail _ _)
      · split
        · exact Kp_fail _ _
        · split
          · exact Kp_fin1 (by simpa using ‹¬ s_opn σ k = true›) (by simpa using ‹¬ s_fin σ k = true›)
          · exact Kp_task hr P wk (by omega) (by simpa using ‹¬ s_opn σ k = true›) (by simpa using ‹¬ s_fin σ k = true›)
theorem Kp_sv (P : PD) (wk : Nat) : ∀ (n k : Nat) (σ : SS), Kp σ (sv P wk n k σ).2
  | 0, k, σ => Kp.rf _
  | n + 1, k, σ => Kp_step (Kp_sv P wk n) P wk k σ
