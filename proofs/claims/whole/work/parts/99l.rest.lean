/-! ===== the reference at rest against the class at rest ===== -/
def Odr (μ : MS) : Prop := (∀ i, i < 24 → m_otrc μ i = -1) ∧ m_ocached μ = 0 ∧ ∀ f, f < 13 → m_mk μ f < 320
abbrev b_0 (β : BS) : SS := s_0 (b_tr β) (b_cl β) (b_ta β)
def RQ (β : BS) (μ : MS) : Prop := Plq (b_P β) μ ∧ Trq μ (b_0 β) ∧ Cnq μ (b_0 β) ∧ Odr μ
theorem Odr.odq {μ : MS} (h : Odr μ) : Odq μ := ⟨fun i hi => Or.inl (h.1 i hi), by rw [h.2.1]; omega, fun i hi => by rw [h.2.1] at hi; omega, h.2.2⟩
/-- owners are tasks -/
def Ow (P : PD) (σ : SS) : Prop := (∀ i T, i < 24 → s_tr σ i = some T → T.1 < 12 ∧ p_kd P T.1 = 2 ∧ (i = T.1 ∨ i = 12 + T.1)) ∧ ∀ T ∈ s_cl σ, T.1 < 12 ∧ p_kd P T.1 = 2
section OWN
variable {P : PD} {wk k : Nat} {σ : SS} {rec : RX}
theorem Ow.give (H : Ow P σ) (hwk : wk < 2) {T : tv} (h1 : T.1 < 12) (h2 : p_kd P T.1 = 2) : Ow P (sGive (wk * 12 + T.1) T σ) := by
  refine ⟨fun i U hi hU => ?_, H.2⟩
  have hU' : va_up (s_tr σ) (wk * 12 + T.1) (some T) i = some U := hU
  by_cases e : i = wk * 12 + T.1
  · rw [e, va_up_self] at hU'
    injection hU' with hU'
    subst hU'
    exact ⟨h1, h2, by omega⟩
  · rw [va_up_ne _ _ e] at hU'
    exact H.1 i U hi hU'
theorem Ow.app (H : Ow P σ) {T : tv} (h1 : T.1 < 12) (h2 : p_kd P T.1 = 2) : Ow P (sApp T σ) := by
  refine ⟨H.1, fun U hU => ?_⟩
  have hU' : U ∈ (s_cl σ).drop ((s_cl σ).length - 15) ++ [T] := hU
  rcases List.mem_append.mp hU' with h | h
  · exact H.2 U (List.mem_of_mem_drop h)
  · rw [List.mem_singleton.mp h]; exact ⟨h1, h2⟩
theorem Ow_ask (hr : ∀ k σ, Ow P σ → Ow P (rec k σ).2) (k : Nat) (x : XS) (H : Ow P x.2) : Ow P (askV rec k x).2.2 := by
  unfold askV
  split
  · exact hr k _ H
  · exact H
theorem Ow_fold (hr : ∀ k σ, Ow P σ → Ow P (rec k σ).2) (op : Int64 → Int64 → Int64) : ∀ (L : List Nat) (a : Int64) (x : XS), Ow P x.2 → Ow P (foldV rec op L a x).2.2
  | [], a, x, H => H
  | p :: r, a, x, H => Ow_fold hr op r _ _ (Ow_ask hr p x H)
theorem Ow_rule (hr : ∀ k σ, Ow P σ → Ow P (rec k σ).2) (k : Nat) (x : XS) (H : Ow P x.2) : Ow P (ruleV rec P k x).2.2 := by
  have a1 := fun q => Ow_ask hr q x H
  have a2 := fun q p => Ow_ask hr q (askV rec p x).2 (a1 p)
  unfold ruleV
  split
  · exact Ow_fold hr _ _ _ _ H
  · exact Ow_fold hr _ _ _ _ H
  · exact Ow_ask hr _ _ (a1 _)
  · split
    · exact ⟨(a2 (p_pt P k 1) (p_pt P k 0)).1, (a2 (p_pt P k 1) (p_pt P k 0)).2⟩
    · exact a2 (p_pt P k 1) (p_pt P k 0)
  · exact Ow_ask hr _ _ (a1 _)
  · split
    · exact ⟨(a2 (p_pt P k 1) (p_pt P k 0)).1, (a2 (p_pt P k 1) (p_pt P k 0)).2⟩
    · exact a2 (p_pt P k 1) (p_pt P k 0)
  · split
    · exact ⟨H.1, H.2⟩
    · exact Ow_fold hr _ _ _ _ (a1 _)
  · exact Ow_fold hr _ _ _ _ (a1 _)
  · exact a1 _
  · split
    · exact ⟨(a2 (p_pt P k 1) (p_pt P k 0)).1, (a2 (p_pt P k 1) (p_pt P k 0)).2⟩
    · exact a2 (p_pt P k 1) (p_pt P k 0)
  · exact H
theorem Ow_agr (hr : ∀ k σ, Ow P σ → Ow P (rec k σ).2) : ∀ (L : List (Nat × Int64)) (σ : SS), Ow P σ → Ow P (agrV rec L σ).2
  | [], σ, H => H
  | q :: r, σ, H => by
    unfold agrV
    split
    · split
      · exact Ow_agr hr r _ (hr _ _ H)
      · exact hr _ _ H
    · exact H
theorem Ow_cand (hr : ∀ k σ, Ow P σ → Ow P (rec k σ).2) : ∀ (L : List tv) (σ : SS), Ow P σ → Ow P (candV rec L σ).2 ∧ ∀ T, (candV rec L σ).1 = some T → T ∈ L
  | [], σ, H => ⟨H, fun T h => by cases h⟩
  | T :: r, σ, H => by
    have h1 := Ow_agr hr T.2.1 σ H
    obtain ⟨h2, h3⟩ := Ow_cand hr r _ h1
    unfold candV
    split
    · split
      · exact ⟨h1, fun U h => by injection h with h; rw [← h]; exact List.mem_cons_self⟩
      · exact ⟨h2, fun U h => List.mem_cons_of_mem _ (h3 U h)⟩
    · exact ⟨H, fun U h => by cases h⟩
theorem Ow_run (hr : ∀ k σ, Ow P σ → Ow P (rec k σ).2) (hwk : wk < 2) (hk : k < 12) (h2 : p_kd P k = 2) (H : Ow P σ) : Ow P (runV rec P wk k σ).2 := by
  have h3 : Ow P (ruleV rec P k ([], sRan σ)).2.2 := Ow_rule hr k ([], sRan σ) H
  unfold runV
  split
  · exact Ow.app (Ow.give (T := (k, (ruleV rec P k ([], sRan σ)).2.1, (ruleV rec P k ([], sRan σ)).1)) h3 hwk hk h2) hk h2
  · exact h3
theorem Ow_next (hr : ∀ k σ, Ow P σ → Ow P (rec k σ).2) (hwk : wk < 2) (hk : k < 12) (h2 : p_kd P k = 2) (H : Ow P σ) : Ow P (nextV rec P wk k σ).2 := by
  obtain ⟨h3, h4⟩ := Ow_cand hr (entV k (s_cl σ)) σ H
  unfold nextV
  split
  · rename_i T hT
    have hm := h4 T hT
    unfold entV at hm
    have hm2 := List.mem_filter.mp (List.mem_reverse.mp hm)
    obtain ⟨a, b⟩ := H.2 T hm2.1
    exact Ow.give (σ := sTal 2 _) h3 hwk a b
  · split
    · exact Ow_run hr hwk hk h2 h3
    · exact h3
theorem Ow_task (hr : ∀ k σ, Ow P σ → Ow P (rec k σ).2) (hwk : wk < 2) (hk : k < 12) (h2 : p_kd P k = 2) (H : Ow P σ) : Ow P (taskV rec P wk k σ).2 := by
  have h3 : Ow P (ownV rec (s_tr σ (wk * 12 + k)) σ).2 := by
    unfold ownV
    split
    · exact H
    · exact Ow_agr hr _ _ H
  unfold taskV
  split
  · exact h3
  · exact Ow_next hr hwk hk h2 h3
theorem Ow_step (hp : p_ok P) (hr : ∀ k σ, Ow P σ → Ow P (rec k σ).2) (hwk : wk < 2) (k : Nat) (σ : SS) (H : Ow P σ) : Ow P (stepV rec P wk k σ).2 := by
  unfold stepV
  split
  · exact H
  · split
    · exact H
    · split
      · exact H
      · split
        · exact H
        · split
          · exact H
          · exact Ow_task hr hwk (by omega) (by have := (hp k (by omega)).1; omega) H
theorem Ow_sv (hp : p_ok P) (hwk : wk < 2) : ∀ (n k : Nat) (σ : SS), Ow P σ → Ow P (sv P wk n k σ).2
  | 0, k, σ, H => H
  | n + 1, k, σ, H => Ow_step hp (Ow_sv hp hwk n) hwk k σ H
end OWN
def OB (β : BS) : Prop := Ow (b_P β) (b_0 β)
theorem OB.build {β : BS} {wk k : Nat} (hp : p_ok (b_P β)) (hwk : wk < 2) (H : OB β) : OB (bBuild wk k β) := ⟨(Ow_sv hp hwk 13 k (b_0 β) H).1, (Ow_sv hp hwk 13 k (b_0 β) H).2⟩
theorem OB.forget {β : BS} {wk : Nat} (H : OB β) : OB (bForget wk β) := by
  refine ⟨fun i T hi hT => ?_, H.2⟩
  have hT' : dropW (b_tr β) wk i = some T := hT
  unfold dropW at hT'
  split at hT'
  · cases hT'
  · exact H.1 i T hi hT'
theorem OB.shrink {β : BS} {n : Nat} (H : OB β) : OB (bShrink n β) := ⟨H.1, fun T hT => H.2 T (List.mem_of_mem_drop hT)⟩
theorem OB.drop {β : BS} {P' : PD} {k : Nat} (H : OB β) (hk : k < 12) (hP : ∀ j, j ≠ k → p_kd P' j = p_kd (b_P β) j) : OB (bDrop P' k β) := by
  refine ⟨fun i T hi hT => ?_, fun T hT => ?_⟩
  · have hT' : dropT (b_tr β) k i = some T := hT
    unfold dropT at hT'
    by_cases e1 : i = 12 + k
    · rw [e1, va_up_self] at hT'; cases hT'
    · rw [va_up_ne _ _ e1] at hT'
      by_cases e2 : i = k
      · rw [e2, va_up_self] at hT'; cases hT'
      · rw [va_up_ne _ _ e2] at hT'
        obtain ⟨a, b, c⟩ := H.1 i T hi hT'
        exact ⟨a, (hP T.1 (by omega)).trans b, c⟩
  · have hT' : T ∈ (b_cl β).filter (fun T => !(T.1 == k)) := hT
    obtain ⟨h1, h2⟩ := List.mem_filter.mp hT'
    obtain ⟨a, b⟩ := H.2 T h1
    have : T.1 ≠ k := by simpa using h2
    exact ⟨a, (hP T.1 this).trans b⟩
theorem OB.input {β : BS} {k : Nat} {v : Int64} (H : OB β) (hk : k < 12) : OB (bInput k v β) := by
  unfold bInput
  split
  · exact H
  · exact H.drop hk (fun j hj => va_up_ne _ _ hj)
theorem OB.task {β : BS} {k r : Nat} {a b c : Int32} (H : OB β) (hk : k < 12) : OB (bTask k r a b c β) := by
  unfold bTask
  split
  · exact H
  · exact H.drop hk (fun j hj => va_up_ne _ _ hj)
theorem OB.remove {β : BS} {k : Nat} (H : OB β) (hk : k < 12) : OB (bRemove k β) := H.drop hk (fun j hj => va_up_ne _ _ hj)
/-! the steps -/
theorem LL_filt {μ : MS} (f : Nat → Bool) : ∀ (ts : List Nat) (cl : List tv), LL μ ts cl → LL μ (ts.filter (fun t => f (m_own μ t))) (cl.filter (fun T => f T.1))
  | [], [], _ => trivial
  | [], _ :: _, h => absurd h id
  | _ :: _, [], h => absurd h id
  | t :: ts, T :: cl, h => by
    have ih := LL_filt f ts cl h.2
    rw [List.filter_cons, List.filter_cons, h.1.2.1]
    split
    · exact ⟨h.1, ih⟩
    · exact ih
theorem LL_drop {μ : MS} : ∀ (g : Nat) (ts : List Nat) (cl : List tv), LL μ ts cl → LL μ (ts.drop g) (cl.drop g)
  | 0, _, _, h => h
  | g + 1, [], [], _ => trivial
  | g + 1, [], _ :: _, h => absurd h id
  | g + 1, _ :: _, [], h => absurd h id
  | g + 1, _ :: ts, _ :: cl, h => LL_drop g ts cl h.2
theorem rq_drop {β : BS} {μ : MS} (H : RQ β μ) {k : Nat} (hk : k < 12) {x : Nat → Nat} {c : Nat} (hx : lstN x c = (lstN (m_cch μ) (m_cached μ)).filter (fun t => !(m_own μ t == k))) {P' : PD} {pl : PL} (hP : Plq P' (u_pl (dFor k x c μ) pl)) : RQ (bDrop P' k β) (u_pl (dFor k x c μ) pl) := by
  obtain ⟨h1, ⟨t1, t2, t3⟩, h3, h4⟩ := H
  have hlen : c ≤ 16 := by
    have := congrArg List.length hx
    rw [lstN_len] at this
    have h9 := List.length_filter_le (fun t => !(m_own μ t == k)) (lstN (m_cch μ) (m_cached μ))
    rw [lstN_len] at h9
    omega
  refine ⟨hP, ⟨fun i hi => ?_, hlen, ?_⟩, h3, h4⟩
  · show SlO μ (upd (upd (m_trc μ) k (-1)) (12 + k) (-1) i) (dropT (b_tr β) k i)
    unfold dropT
    by_cases e1 : i = 12 + k
    · rw [e1, pk_us, va_up_self]; exact Or.inl ⟨rfl, rfl⟩
    · rw [pk_un e1, va_up_ne _ _ e1]
      by_cases e2 : i = k
      · rw [e2, pk_us, va_up_self]; exact Or.inl ⟨rfl, rfl⟩
      · rw [pk_un e2, va_up_ne _ _ e2]; exact t1 i hi
  · show SlL μ x c ((b_cl β).filter (fun T => !(T.1 == k)))
    rw [SlL_LL, hx]
    exact LL_filt (fun o => !(o == k)) _ _ (SlL_LL.mp t3)
theorem plq_in {β : BS} {μ μ' : MS} {k : Nat} {v : Int64} (H : Plq (b_P β) μ) (h1 : g_pl μ' = (va_up (m_sort μ) k 1, m_rule μ, m_parts μ, vp_updL (m_inp μ) k v)) : Plq (pIn (b_P β) k v) μ' := by
  intro j hj
  have e1 : m_sort μ' = va_up (m_sort μ) k 1 := congrArg (fun x => x.1) h1
  have e2 : m_rule μ' = m_rule μ := congrArg (fun x => x.2.1) h1
  have e3 : m_parts μ' = m_parts μ := congrArg (fun x => x.2.2.1) h1
  have e4 : m_inp μ' = vp_updL (m_inp μ) k v := congrArg (fun x => x.2.2.2) h1
  have f1 : p_kd (pIn (b_P β) k v) = va_up (p_kd (b_P β)) k 1 := rfl
  have f2 : p_vl (pIn (b_P β) k v) = vp_updL (p_vl (b_P β)) k v := rfl
  have f3 : p_rl (pIn (b_P β) k v) = p_rl (b_P β) := rfl
  have f4 : p_pf (pIn (b_P β) k v) = p_pf (b_P β) := rfl
  rw [e1, e2, e3, e4, f1, f2, f3, f4]
  by_cases e : j = k
  · subst e
    rw [va_up_self, va_up_self, pk_uLs, pk_uLs]
    exact ⟨rfl, fun _ => rfl, fun h => by omega⟩
  · rw [va_up_ne _ _ e, va_up_ne _ _ e, pk_uLn e, pk_uLn e]
    exact H j hj
theorem plq_no {β : BS} {μ μ' : MS} {k : Nat} (H : Plq (b_P β) μ) (h1 : g_pl μ' = (va_up (m_sort μ) k 0, m_rule μ, m_parts μ, m_inp μ)) : Plq (pNo (b_P β) k) μ' := by
  intro j hj
  have e1 : m_sort μ' = va_up (m_sort μ) k 0 := congrArg (fun x => x.1) h1
  have e2 : m_rule μ' = m_rule μ := congrArg (fun x => x.2.1) h1
  have e3 : m_parts μ' = m_parts μ := congrArg (fun x => x.2.2.1) h1
  have e4 : m_inp μ' = m_inp μ := congrArg (fun x => x.2.2.2) h1
  have f1 : p_kd (pNo (b_P β) k) = va_up (p_kd (b_P β)) k 0 := rfl
  have f2 : p_vl (pNo (b_P β) k) = p_vl (b_P β) := rfl
  have f3 : p_rl (pNo (b_P β) k) = p_rl (b_P β) := rfl
  have f4 : p_pf (pNo (b_P β) k) = p_pf (b_P β) := rfl
  rw [e1, e2, e3, e4, f1, f2, f3, f4]
  by_cases e : j = k
  · subst e
    rw [va_up_self, va_up_self]
    exact ⟨rfl, fun h => by omega, fun h => by omega⟩
  · rw [va_up_ne _ _ e, va_up_ne _ _ e]
    exact H j hj
theorem plq_task {β : BS} {μ μ' : MS} {k r : Nat} {a b c : Int32} (H : Plq (b_P β) μ) (h1 : g_pl μ' = (va_up (m_sort μ) k 2, va_up (m_rule μ) k r, upd (upd (upd (m_parts μ) (3 * k) a) (3 * k + 1) b) (3 * k + 2) c, m_inp μ)) : Plq (pTask (b_P β) k r a b c) μ' := by
  intro j hj
  have e1 : m_sort μ' = va_up (m_sort μ) k 2 := congrArg (fun x => x.1) h1
  have e2 : m_rule μ' = va_up (m_rule μ) k r := congrArg (fun x => x.2.1) h1
  have e3 : m_parts μ' = upd (upd (upd (m_parts μ) (3 * k) a) (3 * k + 1) b) (3 * k + 2) c := congrArg (fun x => x.2.2.1) h1
  have e4 : m_inp μ' = m_inp μ := congrArg (fun x => x.2.2.2) h1
  have f1 : p_kd (pTask (b_P β) k r a b c) = va_up (p_kd (b_P β)) k 2 := rfl
  have f2 : p_vl (pTask (b_P β) k r a b c) = p_vl (b_P β) := rfl
  have f3 : p_rl (pTask (b_P β) k r a b c) = va_up (p_rl (b_P β)) k r := rfl
  have f4 : p_pf (pTask (b_P β) k r a b c) = va_up (p_pf (b_P β)) k (upd (upd (upd (p_pf (b_P β) k) 0 a) 1 b) 2 c) := rfl
  rw [e1, e2, e3, e4, f1, f2, f3, f4]
  by_cases e : j = k
  · subst e
    rw [va_up_self, va_up_self, va_up_self, va_up_self, va_up_self]
    refine ⟨rfl, fun h => by omega, fun _ => ⟨rfl, fun i hi => ?_⟩⟩
    obtain ⟨u0, u1, u2⟩ := upd3 (p_pf (b_P β) j) a b c
    rcases (show i = 0 ∨ i = 1 ∨ i = 2 by omega) with rfl | rfl | rfl
    · rw [pk_un (by omega), pk_un (by omega), u0]; exact pk_us
    · rw [pk_un (by omega), pk_us, u1]
    · rw [pk_us, u2]
  · rw [va_up_ne _ _ e, va_up_ne _ _ e, va_up_ne _ _ e, va_up_ne _ _ e, va_up_ne _ _ e]
    refine ⟨(H j hj).1, (H j hj).2.1, fun h2 => ⟨((H j hj).2.2 h2).1, fun i hi => ?_⟩⟩
    rw [pk_un (by omega), pk_un (by omega), pk_un (by omega)]
    exact ((H j hj).2.2 h2).2 i hi
/-- a key that is nothing has left nothing -/
theorem rq_no {β : BS} {μ : MS} {k : Nat} (hk : k < 12) (hO : OB β) (h0 : p_kd (b_P β) k = 0) (H : RQ (bDrop (pNo (b_P β) k) k β) μ) : RQ β μ := by
  obtain ⟨h1, ⟨t1, t2, t3⟩, h3, h4⟩ := H
  refine ⟨fun j hj => ?_, ⟨fun i hi => ?_, t2, ?_⟩, h3, h4⟩
  · have h9 := h1 j hj
    have e : p_kd (pNo (b_P β) k) j = p_kd (b_P β) j := by
      show va_up (p_kd (b_P β)) k 0 j = _
      by_cases e : j = k
      · rw [e, va_up_self, h0]
      · rw [va_up_ne _ _ e]
    have h9' : m_sort μ j = p_kd (pNo (b_P β) k) j ∧ (p_kd (pNo (b_P β) k) j = 1 → m_inp μ j = p_vl (b_P β) j) ∧ (p_kd (pNo (b_P β) k) j = 2 → m_rule μ j = p_rl (b_P β) j ∧ ∀ i, i < 3 → m_parts μ (3 * j + i) = p_pf (b_P β) j i) := h9
    rw [e] at h9'
    exact h9'
  · have h9 : SlO μ (m_trc μ i) (dropT (b_tr β) k i) := t1 i hi
    have e : dropT (b_tr β) k i = b_tr β i := by
      unfold dropT
      have hn : i = k ∨ i = 12 + k → b_tr β i = none := by
        intro hi2
        cases hT : b_tr β i with
        | none => rfl
        | some T =>
          obtain ⟨a, b, c⟩ := hO.1 i T hi hT
          have : T.1 = k := by omega
          rw [this, h0] at b
          cases b
      by_cases e1 : i = 12 + k
      · rw [e1, va_up_self, ← e1, hn (Or.inr e1)]
      · rw [va_up_ne _ _ e1]
        by_cases e2 : i = k
        · rw [e2, va_up_self, ← e2, hn (Or.inl e2)]
        · rw [va_up_ne _ _ e2]
    rw [e] at h9
    exact h9
  · have h9 : SlL μ (m_cch μ) (m_cached μ) ((b_cl β).filter (fun T => !(T.1 == k))) := t3
    have e : (b_cl β).filter (fun T => !(T.1 == k)) = b_cl β := by
      apply List.filter_eq_self.mpr
      intro T hT
      obtain ⟨a, b⟩ := hO.2 T hT
      have : T.1 ≠ k := fun e => by rw [e, h0] at b; cases b
      simpa using this
    rw [e] at h9
    exact h9
theorem rq_forget {β : BS} {μ : MS} (H : RQ β μ) {wk : Nat} {f : Nat → Int32} (h1 : ∀ i, i < 12 → f (12 * wk + i) = -1) (h2 : ∀ z, z < 12 * wk ∨ 12 * wk + 12 ≤ z → f z = m_trc μ z) : RQ (bForget wk β) (u_mm μ (f, m_cch μ, m_cached μ, m_cnt μ, m_circ μ)) := by
  obtain ⟨h0, ⟨t1, t2, t3⟩, h3, h4⟩ := H
  refine ⟨h0, ⟨fun i hi => ?_, t2, t3⟩, h3, h4⟩
  show SlO μ (f i) (dropW (b_tr β) wk i)
  unfold dropW
  by_cases e : 12 * wk ≤ i ∧ i < 12 * wk + 12
  · rw [if_pos e, show i = 12 * wk + (i - 12 * wk) by omega, h1 _ (by omega)]
    exact Or.inl ⟨rfl, rfl⟩
  · rw [if_neg e, h2 i (by omega)]
    exact t1 i hi
theorem rq_shrink {β : BS} {μ : MS} (H : RQ β μ) {n0 : Nat} {x : Nat → Nat} (hx : ∀ i, i + (m_cached μ - n0) < m_cached μ → x i = m_cch μ (i + (m_cached μ - n0))) : RQ (bShrink n0 β) (s_cch μ x (m_cached μ - (m_cached μ - n0))) := by
  obtain ⟨h0, ⟨t1, t2, t3⟩, h3, h4⟩ := H
  refine ⟨h0, ⟨t1, (show m_cached μ - (m_cached μ - n0) ≤ 16 by omega), ?_⟩, h3, h4⟩
  show SlL μ x (m_cached μ - (m_cached μ - n0)) ((b_cl β).drop ((b_cl β).length - n0))
  rw [SlL_LL, lst_cut hx, show (b_cl β).length = m_cached μ from t3.1]
  exact LL_drop _ _ _ (SlL_LL.mp t3)
theorem cnt_RT {β : BS} {μ : MS} (H : RQ β μ) {wk : Nat} (hwk : wk < 2) : ∀ n, n ≤ 12 → cntR (m_trc μ) wk n = cntT (b_tr β) wk n
  | 0, _ => rfl
  | n + 1, h => by
    unfold cntR cntT
    rw [cnt_RT H hwk n (by omega), show 12 * wk + n = wk * 12 + n by omega]
    have h9 : SlO μ (m_trc μ (wk * 12 + n)) (b_tr β (wk * 12 + n)) := H.2.1.1 (wk * 12 + n) (by omega)
    rcases h9 with ⟨a, b⟩ | ⟨t, T, a, b, c⟩
    · rw [a, b, if_pos (by decide), if_pos rfl]
    · rw [a, b, if_neg (nI_nn (by have := c.1; omega)), if_neg (by simp)]
/-- the counts behind a build -/
def dTal (thr : Nat) (μ : MS) : MS := u_mm μ (m_trc μ, m_cch μ, m_cached μ, (if thr = 0 then upd (m_cnt μ) 5 (m_cnt μ 5 + nI 1) else upd (upd (m_cnt μ) 5 (m_cnt μ 5 + nI 1)) 6 (upd (m_cnt μ) 5 (m_cnt μ 5 + nI 1) 6 + nI 1)), m_circ μ)
theorem rq_build {β : BS} {μ μ' : MS} {wk k : Nat} {st : Nat → Nat} (H : RQ β μ) (Z : ZZ (b_P β) wk k (dInit wk st μ) (b_0 β) μ') : RQ (bBuild wk k β) (dTal (m_thr μ') (dClose μ')) ∧ m_thr μ' = (if bFl wk k β = 0 then 0 else bFl wk k β + 1) ∧ (bFl wk k β = 0 → m_val μ' k = (bSess wk k β).1) := by
  obtain ⟨z1, z2, z3, z4, z5, z6, z7, z8, z9, z10⟩ := sess_end Z
  refine ⟨⟨z1, ⟨z2.1, z2.2.1, z2.2.2⟩, ?_, ?_⟩, z7, z9⟩
  · have hthr : m_thr μ' = 0 ↔ bFl wk k β = 0 := by
      rw [z7]
      constructor
      · intro h
        split at h
        · assumption
        · omega
      · intro h
        exact if_pos h
    have c1 := z3.1
    refine ⟨fun j hj => ?_, ?_⟩
    · show (if m_thr μ' = 0 then upd (m_cnt (dClose μ')) 5 (m_cnt (dClose μ') 5 + nI 1) else upd (upd (m_cnt (dClose μ')) 5 (m_cnt (dClose μ') 5 + nI 1)) 6 (upd (m_cnt (dClose μ')) 5 (m_cnt (dClose μ') 5 + nI 1) 6 + nI 1)) j = taB (bFl wk k β) (s_ta (bSess wk k β).2) j
      unfold taB
      have u1 : ∀ i, i < 7 → upd (m_cnt (dClose μ')) 5 (m_cnt (dClose μ') 5 + nI 1) i = upd (s_ta (bSess wk k β).2) 5 (s_ta (bSess wk k β).2 5 + nI 1) i := by
        intro i hi
        by_cases e : i = 5
        · rw [e, pk_us, pk_us, c1 5 (by omega)]; rfl
        · rw [pk_un e, pk_un e, c1 i hi]; rfl
      by_cases hf : bFl wk k β = 0
      · rw [if_pos hf, if_pos (hthr.mpr hf)]
        exact u1 j hj
      · rw [if_neg hf, if_neg (fun h => hf (hthr.mp h))]
        by_cases e : j = 6
        · rw [e, pk_us, pk_us, u1 6 (by omega)]
        · rw [pk_un e, pk_un e]; exact u1 j hj
    · show m_circ (dClose μ') = taB (bFl wk k β) (s_ta (bSess wk k β).2) 10
      rw [z3.2]
      unfold taB
      split
      · rw [pk_un (by omega)]; rfl
      · rw [pk_un (by omega), pk_un (by omega)]; rfl
  · have e1 : m_otrc (dClose μ') = m_otrc μ := congrArg (fun x => x.1) z5
    have e2 : m_ocached (dClose μ') = m_ocached μ := congrArg (fun x => x.2.2.1) z5
    exact ⟨fun i hi => (congrFun e1 i).trans (H.2.2.2.1 i hi), e2.trans H.2.2.2.2.1, z6⟩
