/-! ===== the object as a value: plan, traces, cache, tallies ===== -/
abbrev BS : Type := PD × (Nat → Option tv) × List tv × (Nat → Int32)
abbrev b_P (β : BS) : PD := β.1
abbrev b_tr (β : BS) : Nat → Option tv := β.2.1
abbrev b_cl (β : BS) : List tv := β.2.2.1
abbrev b_ta (β : BS) : Nat → Int32 := β.2.2.2
def dropT (tr : Nat → Option tv) (k : Nat) : Nat → Option tv := va_up (va_up tr k none) (12 + k) none
def bDrop (P : PD) (k : Nat) (β : BS) : BS := (P, dropT (b_tr β) k, (b_cl β).filter (fun T => !(T.1 == k)), b_ta β)
def pIn (P : PD) (k : Nat) (v : Int64) : PD := (va_up (p_kd P) k 1, vp_updL (p_vl P) k v, p_rl P, p_pf P, p_cn P)
def pTask (P : PD) (k r : Nat) (a b c : Int32) : PD := (va_up (p_kd P) k 2, p_vl P, va_up (p_rl P) k r, va_up (p_pf P) k (upd (upd (upd (p_pf P k) 0 a) 1 b) 2 c), va_up (p_cn P) k (pCount a b c))
def pNo (P : PD) (k : Nat) : PD := (va_up (p_kd P) k 0, p_vl P, p_rl P, p_pf P, p_cn P)
def bInput (k : Nat) (v : Int64) (β : BS) : BS := if p_kd (b_P β) k = 1 ∧ p_vl (b_P β) k = v then β else bDrop (pIn (b_P β) k v) k β
def bTask (k r : Nat) (a b c : Int32) (β : BS) : BS := if p_kd (b_P β) k = 2 ∧ p_rl (b_P β) k = r ∧ p_pf (b_P β) k 0 = a ∧ p_pf (b_P β) k 1 = b ∧ p_pf (b_P β) k 2 = c then β else bDrop (pTask (b_P β) k r a b c) k β
def bRemove (k : Nat) (β : BS) : BS := bDrop (pNo (b_P β) k) k β
/-- a session over the object's state -/
def bSess (wk k : Nat) (β : BS) : Int64 × SS := sv (b_P β) wk 13 k (s_0 (b_tr β) (b_cl β) (b_ta β))
def bFl (wk k : Nat) (β : BS) : Nat := s_fl (bSess wk k β).2
def taB (fl : Nat) (ta : Nat → Int32) : Nat → Int32 := if fl = 0 then upd ta 5 (ta 5 + nI 1) else upd (upd ta 5 (ta 5 + nI 1)) 6 (upd ta 5 (ta 5 + nI 1) 6 + nI 1)
def bBuild (wk k : Nat) (β : BS) : BS := (b_P β, s_tr (bSess wk k β).2, s_cl (bSess wk k β).2, taB (bFl wk k β) (s_ta (bSess wk k β).2))
def cntT (tr : Nat → Option tv) (wk : Nat) : Nat → Nat
  | 0 => 0
  | n + 1 => cntT tr wk n + (if tr (wk * 12 + n) = none then 0 else 1)
def dropW (tr : Nat → Option tv) (wk : Nat) : Nat → Option tv := fun z => if 12 * wk ≤ z ∧ z < 12 * wk + 12 then none else tr z
def bForget (wk : Nat) (β : BS) : BS := (b_P β, dropW (b_tr β) wk, b_cl β, b_ta β)
def bShrink (n : Nat) (β : BS) : BS := (b_P β, b_tr β, (b_cl β).drop ((b_cl β).length - n), b_ta β)
def okK (a : Int32) : Prop := ∃ k, k < 12 ∧ a = nI k
def okW (a : Int32) : Prop := ∃ k, k < 2 ∧ a = nI k
def okPart (a : Int32) : Prop := a = -1 ∨ okK a
def okTask (r : Nat) (a b c : Int32) : Prop := r < 10 ∧ okPart a ∧ okPart b ∧ okPart c ∧ ¬ (a = -1 ∧ b ≠ -1) ∧ ¬ (b = -1 ∧ c ≠ -1) ∧ p_need r ≤ pCount a b c
def exN (n : Nat) : String := if n = 1 then E_NE else if n = 2 then E_AR else E_IS
abbrev RBb (dA : Nat → ClassId) (AD : Nat → Nat) (Fz : Nat → Prop) (w : fw_W) (β : BS) : Prop := RB dA AD Fz w (b_P β) (b_tr β) (b_cl β) (b_ta β)
/-- what a public method leaves -/
def VB (dA : Nat → ClassId) (AD : Nat → Nat) (Fz : Nat → Prop) (w w' : fw_W) (β' : BS) : Prop := ∃ Fz' : Nat → Prop, RBb dA AD Fz' w' β' ∧ (∀ q, Fz' q → Fz q ∨ w q = none) ∧ Oth AD w w'
theorem VB.rf {dA : Nat → ClassId} {AD : Nat → Nat} {Fz : Nat → Prop} {w : fw_W} {β : BS} (h : RBb dA AD Fz w β) : VB dA AD Fz w w β := ⟨Fz, h, fun _ h => Or.inl h, Oth.rf⟩
theorem nI_nn {k : Nat} (hk : k < 2 ^ 31) : ¬ nI k < 0 := fun h => by
  have := (nI_ltI hk (by omega : 0 < 2 ^ 31)).mp (show nI k < nI 0 from h)
  omega
theorem nI_ne_m1 {k : Nat} (hk : k < 2 ^ 31) : nI k ≠ -1 := fun h => nI_nn hk (by rw [h]; decide)
theorem okK_of {a : Int32} (h1 : ¬ a < 0) (h2 : a < nI 12) : okK a := by
  obtain ⟨j, hj, rfl⟩ := nI_of h1
  exact ⟨j, (nI_ltI hj (by omega)).mp h2, rfl⟩
theorem okW_of {a : Int32} (h1 : ¬ a < 0) (h2 : a < nI 2) : okW a := by
  obtain ⟨j, hj, rfl⟩ := nI_of h1
  exact ⟨j, (nI_ltI hj (by omega)).mp h2, rfl⟩
theorem okK_nn {a : Int32} (h : okK a) : ¬ a < 0 := by
  obtain ⟨k, hk, rfl⟩ := h
  exact nI_nn (by omega)
theorem okK_lt {a : Int32} (h : okK a) : a < nI 12 := by
  obtain ⟨k, hk, rfl⟩ := h
  exact (nI_ltI (by omega) (by omega)).mpr hk
theorem okW_nn {a : Int32} (h : okW a) : ¬ a < 0 := by
  obtain ⟨k, hk, rfl⟩ := h
  exact nI_nn (by omega)
theorem okW_lt {a : Int32} (h : okW a) : a < nI 2 := by
  obtain ⟨k, hk, rfl⟩ := h
  exact (nI_ltI (by omega) (by omega)).mpr hk
theorem le_not_lt {a b : Int32} (h : b ≤ a) : ¬ a < b := by
  rw [Int32.le_iff_toInt_le] at h
  rw [Int32.lt_iff_toInt_lt]
  omega
/-! the plans stay good -/
theorem p_ok.in {P : PD} (h : p_ok P) (k : Nat) (v : Int64) : p_ok (pIn P k v) := by
  intro j hj
  by_cases e : j = k
  · subst e
    have e1 : p_kd (pIn P j v) j = 1 := va_up_self _ _ _
    exact ⟨by rw [e1]; omega, fun h2 => by rw [e1] at h2; cases h2⟩
  · have e1 : p_kd (pIn P k v) j = p_kd P j := va_up_ne _ _ e
    rw [e1]
    exact h j hj
theorem p_ok.no {P : PD} (h : p_ok P) (k : Nat) : p_ok (pNo P k) := by
  intro j hj
  by_cases e : j = k
  · subst e
    have e1 : p_kd (pNo P j) j = 0 := va_up_self _ _ _
    exact ⟨by rw [e1]; omega, fun h2 => by rw [e1] at h2; cases h2⟩
  · have e1 : p_kd (pNo P k) j = p_kd P j := va_up_ne _ _ e
    rw [e1]
    exact h j hj
theorem okK_cl {a : Int32} (h : okK a) : a = nI a.toNatClampNeg ∧ a.toNatClampNeg < 12 := by
  obtain ⟨k, hk, rfl⟩ := h
  rw [nI_clamp (by omega)]
  exact ⟨rfl, hk⟩
theorem upd3 (f : Nat → Int32) (a b c : Int32) : upd (upd (upd f 0 a) 1 b) 2 c 0 = a ∧ upd (upd (upd f 0 a) 1 b) 2 c 1 = b ∧ upd (upd (upd f 0 a) 1 b) 2 c 2 = c := by
  refine ⟨rfl, rfl, rfl⟩
theorem p_ok.task {P : PD} (h : p_ok P) {k r : Nat} {a b c : Int32} (ho : okTask r a b c) : p_ok (pTask P k r a b c) := by
  intro j hj
  by_cases e : j = k
  · subst e
    obtain ⟨o1, oa, ob, oc, o2, o3, o4⟩ := ho
    have e1 : p_kd (pTask P j r a b c) j = 2 := va_up_self _ _ _
    have e2 : p_rl (pTask P j r a b c) j = r := va_up_self _ _ _
    have e3 : p_cn (pTask P j r a b c) j = pCount a b c := va_up_self _ _ _
    have e4 : p_pf (pTask P j r a b c) j = upd (upd (upd (p_pf P j) 0 a) 1 b) 2 c := va_up_self _ _ _
    obtain ⟨u0, u1, u2⟩ := upd3 (p_pf P j) a b c
    refine ⟨by rw [e1]; omega, fun _ => ⟨by rw [e2]; exact o1, ?_, by rw [e2, e3]; exact o4, fun i hi => ?_, fun i h1 h2 => ?_⟩⟩
    · rw [e3]; unfold pCount; split <;> split <;> split <;> omega
    · unfold p_pt
      rw [e3] at hi
      rw [e4]
      have h3 : pCount a b c ≤ 3 := by unfold pCount; split <;> split <;> split <;> omega
      have hx : ∀ x : Int32, okPart x → x ≠ -1 → x = nI x.toNatClampNeg ∧ x.toNatClampNeg < 12 := fun x hx hn => okK_cl (hx.resolve_left hn)
      rcases (show i = 0 ∨ i = 1 ∨ i = 2 by omega) with rfl | rfl | rfl
      · rw [u0]; refine hx a oa (fun ea => ?_)
        have eb : b = -1 := Classical.byContradiction (fun hb => o2 ⟨ea, hb⟩)
        have ec : c = -1 := Classical.byContradiction (fun hb => o3 ⟨eb, hb⟩)
        unfold pCount at hi
        rw [if_pos ea, if_pos eb, if_pos ec] at hi
        omega
      · rw [u1]; refine hx b ob (fun eb => ?_)
        have ec : c = -1 := Classical.byContradiction (fun hb => o3 ⟨eb, hb⟩)
        unfold pCount at hi
        rw [if_pos eb, if_pos ec] at hi
        split at hi <;> omega
      · rw [u2]; refine hx c oc (fun ec => ?_)
        unfold pCount at hi
        rw [if_pos ec] at hi
        split at hi <;> split at hi <;> omega
    · rw [e3] at h1
      rw [e4]
      rcases (show i = 0 ∨ i = 1 ∨ i = 2 by omega) with rfl | rfl | rfl
      · rw [u0]
        unfold pCount at h1
        by_cases ea : a = -1
        · exact ea
        · rw [if_neg ea] at h1; omega
      · rw [u1]
        unfold pCount at h1
        by_cases eb : b = -1
        · exact eb
        · by_cases ea : a = -1
          · exact absurd ⟨ea, eb⟩ o2
          · rw [if_neg ea, if_neg eb] at h1; omega
      · rw [u2]
        unfold pCount at h1
        by_cases ec : c = -1
        · exact ec
        · by_cases eb : b = -1
          · exact absurd ⟨eb, ec⟩ o3
          · by_cases ea : a = -1
            · exact absurd ⟨ea, eb⟩ o2
            · rw [if_neg ea, if_neg eb, if_neg ec] at h1; omega
  · have e1 : p_kd (pTask P k r a b c) j = p_kd P j := va_up_ne _ _ e
    have e2 : p_rl (pTask P k r a b c) j = p_rl P j := va_up_ne _ _ e
    have e3 : p_cn (pTask P k r a b c) j = p_cn P j := va_up_ne _ _ e
    have e4 : p_pf (pTask P k r a b c) j = p_pf P j := va_up_ne _ _ e
    have e5 : ∀ i, p_pt (pTask P k r a b c) j i = p_pt P j i := fun i => by unfold p_pt; rw [e4]
    have := h j hj
    rw [e1, e2, e3, e4]
    simp only [e5]
    exact this
section RBS
variable {dA : Nat → ClassId} {AD : Nat → Nat} {Fz : Nat → Prop} {w w1 : fw_W} {P P' : PD} {tr tr' : Nat → Option tv} {cl cl' : List tv} {ta ta' : Nat → Int32}
theorem RB.blk (h : RB dA AD Fz w P tr cl ta) : ∀ i, i < 32 → w (AD i) ≠ none := by
  obtain ⟨h27, ⟨x1, x2, x3, x4, x5, x6, x7, x8, g0, g1, g2, g3, g4⟩, ⟨ft, pl, ⟨fc, m1, m2, m3, m4, -⟩, -⟩, ⟨ft2, pl2, fa2, ⟨fc2, n1, n2, n3, n4, -⟩⟩, ⟨p0, p1, p2, p3, ⟨rw, p4, -⟩, p5, p6, -⟩, -⟩ := h
  intro i hi
  match i, hi with
  | 0, _ => exact ne_some g0
  | 1, _ => exact ne_some g1
  | 2, _ => exact ne_some g2
  | 3, _ => exact ne_some g3
  | 4, _ => exact ne_some g4
  | 5, _ => exact ne_some m1
  | 6, _ => exact ne_some m2
  | 7, _ => exact ne_some m3
  | 8, _ => exact ne_some m4
  | 9, _ => exact ne_some p0
  | 10, _ => exact ne_some p1
  | 11, _ => exact ne_some p2
  | 12, _ => exact ne_some p3
  | 13, _ => exact ne_some p4
  | 14, _ => exact ne_some p6
  | 27, _ => exact ne_some h27
  | 28, _ => exact ne_some n1
  | 29, _ => exact ne_some n2
  | 30, _ => exact ne_some n3
  | 31, _ => exact ne_some n4
  | n + 15, hh =>
    by_cases h9 : n < 12
    · have := p5 n h9
      rw [show n + 15 = 15 + n by omega]
      exact ne_some this
    · rcases (show n = 12 ∨ n = 13 ∨ n = 14 ∨ n = 15 ∨ n = 16 by omega) with rfl | rfl | rfl | rfl | rfl
      · exact ne_some h27
      · exact ne_some n1
      · exact ne_some n2
      · exact ne_some n3
      · exact ne_some n4
/-- only plan's and memory's cells change -/
theorem RB.mk2 (hinj : Inj2 AD) (h : RB dA AD Fz w P tr cl ta) (hfr : ∀ z, (∀ i, 5 ≤ i → i < 27 → z ≠ AD i) → w1 z = w z) (hM : M4 dA AD Fz w1 tr' cl' ta') (hQ : P6 dA AD w1 P') (hpo : p_ok P') (hrl : ∀ k, p_rl P' k < 10) : RB dA AD Fz w1 P' tr' cl' ta' ∧ Oth AD w w1 := by
  have hk : ∀ i, (i < 5 ∨ 27 ≤ i) → i < 32 → w1 (AD i) = w (AD i) := fun i h1 h2 => hfr _ (fun j h3 h4 => hinj.ne h2 (by omega) (by omega))
  have hz : ∀ q, Fz q → w1 q = w q := fun q hq => hfr q (fun i h1 h2 e => h.2.2.2.2.2.1.1 i (by omega) (e ▸ hq))
  obtain ⟨h27, hSI, -, hX, -, ⟨hn, hd⟩, -, -⟩ := h
  exact ⟨⟨(hk 27 (by omega) (by omega)).trans h27, hSI.kept (fun i hi => hk i (by omega) (by omega)), hM, hX.kept (fun i h1 h2 => hk i (by omega) h2), hQ, ⟨hn, fd_kept hz hd⟩, hpo, hrl⟩, fun q e hq hn9 => (hfr q (fun i h1 h2 => hn9 i (by omega))).trans hq⟩
theorem RB.plan (hinj : Inj2 AD) (h : RB dA AD Fz w P tr cl ta) (hfr : ∀ z, (∀ i, 9 ≤ i → i < 27 → z ≠ AD i) → w1 z = w z) (hQ : P6 dA AD w1 P') (hpo : p_ok P') (hrl : ∀ k, p_rl P' k < 10) : RB dA AD Fz w1 P' tr cl ta ∧ Oth AD w w1 :=
  RB.mk2 hinj h (fun z hz => hfr z (fun i h1 h2 => hz i (by omega) h2)) (h.2.2.1.kept (fun i h1 h2 => hfr _ (fun j h3 h4 => hinj.ne (by omega) (by omega) (by omega))) (fun q hq => hfr q (fun i h1 h2 e => h.2.2.2.2.2.1.1 i (by omega) (e ▸ hq))) (fun _ h => h)) hQ hpo hrl
theorem RB.mem (hinj : Inj2 AD) (h : RB dA AD Fz w P tr cl ta) (hfr : ∀ z, (∀ i, 5 ≤ i → i < 9 → z ≠ AD i) → w1 z = w z) (hM : M4 dA AD Fz w1 tr' cl' ta') : RB dA AD Fz w1 P tr' cl' ta' ∧ Oth AD w w1 :=
  RB.mk2 hinj h (fun z hz => hfr z (fun i h1 h2 => hz i h1 (by omega))) hM (h.2.2.2.2.1.kept (fun i h1 h2 => hfr _ (fun j h3 h4 => hinj.ne (by omega) (by omega) (by omega)))) h.2.2.2.2.2.2.1 h.2.2.2.2.2.2.2
theorem RB.fz (h : RB dA AD Fz w P tr cl ta) (hfr : ∀ z, (∀ i, i < 32 → z ≠ AD i) → w1 z = w z) : ∀ q, Fz q → w1 q = w q := fun q hq => hfr q (fun i hi e => h.2.2.2.2.2.1.1 i hi (e ▸ hq))
theorem M4.drop {ft : Nat → Option Nat} {pl : List Nat} {k : Nat} (hft : ∀ i, i < 24 → rT dA Fz w (ft i) (tr i)) (hpl : poolL dA Fz w pl cl) (hM : aM dA w1 (AD 5) (AD 6) (AD 7) (AD 8) (va_up (va_up ft k none) (12 + k) none) (pl.filter (fun t => !(owF w t == k))) ta) (hz : ∀ q, Fz q → w1 q = w q) : M4 dA AD Fz w1 (dropT tr k) (cl.filter (fun T => !(T.1 == k))) ta := by
  refine ⟨_, _, hM, fun i hi => ?_, (hpl.filt (f := fun o => !(o == k))).kept hz (fun _ h => h)⟩
  unfold dropT
  by_cases e1 : i = 12 + k
  · rw [e1, va_up_self, va_up_self]; trivial
  · rw [va_up_ne _ _ e1, va_up_ne _ _ e1]
    by_cases e2 : i = k
    · rw [e2, va_up_self, va_up_self]; trivial
    · rw [va_up_ne _ _ e2, va_up_ne _ _ e2]
      exact (hft i hi).kept hz (fun _ h => h)
theorem rT.nn {r : Option Nat} {o : Option tv} (h : rT dA Fz w r o) : r = none ↔ o = none := by
  cases r <;> cases o
  · exact ⟨fun _ => rfl, fun _ => rfl⟩
  · exact absurd h id
  · exact absurd h id
  · exact ⟨fun h => (by cases h), fun h => (by cases h)⟩
theorem cnt_eq {ft : Nat → Option Nat} {wk : Nat} (hwk : wk < 2) (hft : ∀ i, i < 24 → rT dA Fz w (ft i) (tr i)) : ∀ n, n ≤ 12 → cntS ft wk n = cntT tr wk n
  | 0, _ => rfl
  | n + 1, h => by
    have h9 := (hft (wk * 12 + n) (by omega)).nn
    unfold cntS cntT
    rw [cnt_eq hwk hft n (by omega)]
    by_cases e : ft (wk * 12 + n) = none
    · rw [if_pos e, if_pos (h9.mp e)]
    · rw [if_neg e, if_neg (fun e2 => e (h9.mpr e2))]
end RBS
