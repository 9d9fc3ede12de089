section SESS
variable {P : PD} {wk k : Nat} {μ μ' : MS} {σ : SS}
/-- how a session's loop ends -/
def ZZ (P : PD) (wk k : Nat) (μi : MS) (σ0 : SS) (μ' : MS) : Prop := (s_fl (sv P wk 13 k σ0).2 = 0 ∧ OkS P wk 0 μi μ' k (sv P wk 13 k σ0).1 (sv P wk 13 k σ0).2) ∨ (s_fl (sv P wk 13 k σ0).2 ≠ 0 ∧ FlS P 0 μ' (sv P wk 13 k σ0).2 ∧ Pr 0 μi μ')
theorem ZZ.zok {μi : MS} {σ0 : SS} (H : ZZ P wk k μi σ0 μ') : zOK μ' ∧ stops μ' := by
  rcases H with ⟨h1, ok⟩ | ⟨h1, fl, -⟩
  · obtain ⟨⟨⟨d1, d2, d3, d4, d5, d6, d7, d8⟩, c2, c3, c4', c5⟩, -⟩ := ok
    exact ⟨⟨by omega, by omega, fun f hf => by omega⟩, Or.inl c2⟩
  · obtain ⟨a1, a2, a3, a4, a5, a6, a7, a8, a9, a10, a11, a12⟩ := fl
    exact ⟨⟨a10, by omega, a11⟩, Or.inr (by omega)⟩
theorem fr_00 (tr : Nat → Option tv) (cl : List tv) (ta : Nat → Int32) : ∀ n, frS (s_0 tr cl ta) n = n
  | 0 => rfl
  | n + 1 => by
    unfold frS
    rw [fr_00 tr cl ta n]
    rfl
theorem sess_rch (hp : p_ok P) (hwk : wk < 2) (hk : k < 12) {tr : Nat → Option tv} {cl : List tv} {ta : Nat → Int32} (h1 : Plq P μ) (h2 : Trq μ (s_0 tr cl ta)) (h3 : Cnq μ (s_0 tr cl ta)) (h4 : Odq μ) (h5 : m_thr μ = 0) {st : Nat → Nat} (hst : ∀ j, j < 12 → st j = 0) : Rch (ZZ P wk k (dInit wk st μ) (s_0 tr cl ta)) (dAsk k (dInit wk st μ)) := by
  intro X hX
  have hfr : fr12 (s_0 tr cl ta) = 12 := fr_00 tr cl ta 12
  have c : Ctx P wk 0 (dInit wk st μ) (s_0 tr cl ta) := ⟨⟨h1, h2, h3, fun j hj => ⟨hst j hj, fun h => by cases h⟩, rfl, h5, rfl, rfl⟩, rfl, fun f hf => absurd hf (Nat.not_lt_zero f), h4, by omega⟩
  have fin : ∀ μ', ZZ P wk k (dInit wk st μ) (s_0 tr cl ta) μ' → X μ' := fun μ' hz => (hX μ').1 hz.zok.2 hz.zok.1 hz
  rcases ask_all (Z := ZZ P wk k (dInit wk st μ) (s_0 tr cl ta)) hp hwk 13 0 (dInit wk st μ) (s_0 tr cl ta) k hk (by omega) c with ⟨-, b1, b2⟩ | ⟨-, b⟩
  · exact fin _ (Or.inl ⟨b1, b2⟩)
  · exact b X hX ⟨fun hf μ' ok => fin _ (Or.inl ⟨hf, ok⟩), fun hf μ' fl pr => fin _ (Or.inr ⟨hf, fl, pr⟩)⟩
theorem c4_s (ph : Nat → Nat) : ∀ (n h : Nat), c4 ph h (n + 1) = c4 ph h n + (if ph (h + n) = 3 then 1 else 0)
  | 0, h => by
    show (if ph h = 3 then 1 else 0) + 0 = 0 + (if ph (h + 0) = 3 then 1 else 0)
    simp
  | n + 1, h => by
    have e1 : c4 ph h (n + 1 + 1) = (if ph h = 3 then 1 else 0) + c4 ph (h + 1) (n + 1) := rfl
    have e2 : c4 ph h (n + 1) = (if ph h = 3 then 1 else 0) + c4 ph (h + 1) n := rfl
    rw [e1, e2, c4_s ph n (h + 1), show h + 1 + n = h + (n + 1) by omega]
    omega
theorem c3_c4 (ph : Nat → Nat) (cn : Nat → Int32) : ∀ (n j : Nat), c3 ph cn n j = if j = 4 then cn 4 + nI (c4 ph 0 n) else cn j
  | 0, j => by
    show cn j = _
    split
    · rename_i e
      rw [e, show nI (c4 ph 0 0) = 0 from rfl, Int32.add_zero]
    · rfl
  | n + 1, j => by
    unfold c3
    rw [c4_s, Nat.zero_add]
    by_cases h : ph n = 3
    · rw [if_pos h, if_pos h]
      by_cases e : j = 4
      · rw [if_pos e, e, pk_us, c3_c4 ph cn n 4, if_pos rfl, Int32.add_assoc, nI_add]
      · rw [if_neg e, pk_un e, c3_c4 ph cn n j, if_neg e]
    · rw [if_neg h, if_neg h, c3_c4 ph cn n j, Nat.add_zero]
theorem Pr.sle0 {μ μ' : MS} (p : Pr 0 μ μ') {t : Nat} (h : Hold 0 μ t) : SlE μ μ' t := (p.2.2.2.2.2 t h).1
/-- what a session leaves -/
theorem sess_end {st : Nat → Nat} {σ0 : SS} (H : ZZ P wk k (dInit wk st μ) σ0 μ') : Plq P (dClose μ') ∧ Trq (dClose μ') (sv P wk 13 k σ0).2 ∧ Cnq (dClose μ') (sv P wk 13 k σ0).2 ∧ g_pl (dClose μ') = g_pl μ ∧ g_od (dClose μ') = g_od μ ∧ (∀ f, f < 13 → m_mk (dClose μ') f < 320) ∧ m_thr μ' = (if s_fl (sv P wk 13 k σ0).2 = 0 then 0 else s_fl (sv P wk 13 k σ0).2 + 1) ∧ m_ran (dClose μ') = s_ran (sv P wk 13 k σ0).2 ∧ (s_fl (sv P wk 13 k σ0).2 = 0 → m_val μ' k = (sv P wk 13 k σ0).1) ∧ ∀ t, Hold 0 μ t → SlE μ (dClose μ') t := by
  rcases H with ⟨h1, ok⟩ | ⟨h1, fl, pr⟩
  · obtain ⟨⟨⟨d1, d2, d3, d4, d5, d6, d7, d8⟩, c2, c3', c4', c5⟩, pr, o3, o4⟩ := ok
    refine ⟨d1, d2, ⟨fun j hj => ?_, d3.2⟩, pr.1, pr.2.1, c4'.2.2.2, by rw [if_pos h1]; exact d6, d7, fun _ => o4, fun t ht => ?_⟩
    · show c3 (m_ph μ') (m_cnt μ') (m_hgt μ') j = _
      rw [c2]; exact d3.1 j hj
    · exact pr.sle0 (μ := dInit wk st μ) (ht.to (fun f hf => absurd hf (Nat.not_lt_zero f)) rfl (fun f hf => absurd hf (Nat.not_lt_zero f)))
  · obtain ⟨a1, a2, a3, a4, a5, a6, a7, a8, a9, a10, a11, a12⟩ := fl
    refine ⟨a1, a2, ⟨fun j hj => ?_, a8⟩, pr.1, pr.2.1, a3.2.2.2, by rw [if_neg h1]; exact a4, a7, fun h => absurd h h1, fun t ht => ?_⟩
    · show c3 (m_ph μ') (m_cnt μ') (m_hgt μ') j = _
      rw [c3_c4, a12 j hj, Nat.sub_zero]
    · exact pr.sle0 (μ := dInit wk st μ) (ht.to (fun f hf => absurd hf (Nat.not_lt_zero f)) rfl (fun f hf => absurd hf (Nat.not_lt_zero f)))
end SESS
