theorem fw_tail {D : va_G} {cl : List vw_C} {A : Nat → Prop} {w : fw_W} {H1 : Heap} {ws L2 : va_W} (hw : ∀ (q : Nat) (e : va_E), w q = some e → ∃ i : Nat, ws[i]? = some (q, e)) (hP : va_P D cl (ws ++ L2) H1) (hD : va_D A (ws ++ L2)) : (∀ (q : Nat) (e : va_E), w q = some e → va_at D cl (q, e) H1 ∧ A q) ∧ ∀ (q : Nat) (e : va_E), (q, e) ∈ L2 → va_at D cl (q, e) H1 ∧ A q ∧ w q = none := by
  refine ⟨fun q e hq => ?_, fun q e hq => ?_⟩
  · obtain ⟨i, hi⟩ := hw q e hq
    have h : (ws ++ L2)[i]? = some (q, e) := by rw [List.getElem?_append_left (List.getElem?_eq_some_iff.mp hi).1]; exact hi
    exact ⟨hP i _ h, hD.2 i _ h⟩
  · obtain ⟨j, hj⟩ := List.getElem?_of_mem hq
    have h : (ws ++ L2)[ws.length + j]? = some (q, e) := by rw [List.getElem?_append_right (by omega), Nat.add_sub_cancel_left]; exact hj
    refine ⟨hP _ _ h, hD.2 _ _ h, ?_⟩
    cases hn : w q with
    | none => rfl
    | some x =>
      obtain ⟨i, hi⟩ := hw q x hn
      have hl := (List.getElem?_eq_some_iff.mp hi).1
      have h2 : (ws ++ L2)[i]? = some (q, x) := by rw [List.getElem?_append_left hl]; exact hi
      have := hD.1 i (ws.length + j) _ _ h2 h rfl
      omega
section MNA
variable {p : Program} {l : Launch} {e : Env} {R : Room} {s : State} {m : MethodId} {args : Array Value} {below : List Frame} {meth : Method} {c : Code} {H : Heap} {locs : List Loc} {cells slots : Nat} {Q : State → Prop}
variable {cc : ByteArray} {pc : Nat} {ls : Array Slot} {rest : List Value} {D : va_G} {cl : List vw_C} {tys : List (ClassId × FieldType)} {A : Nat → Prop} {H0 : Heap} {a : Nat} {w : fw_W}
theorem fw_mna (hexec : p.tables.exec = Jvm.exec) (hb : c.code = cc) {own : String} {index : Nat} {ty : FieldType} {cy cB : ClassId} (hown : s.vm.findClass own = some m.cls) (hclink : (Cond.classLink own index ("[" ++ (FieldType.array ty).toString)).before args s = true) (hover : va_AOA ty s) (harr : (Cond.arrayClass ty).before args s = true) (hcy : s.vm.findClass (FieldType.array ty).toString = some cy)
    (hK : va_K D cl tys s) (hP : fw_P D cl A w H) (hS : va_S A H0 H locs) (hA : ∀ q, H0.size ≤ q → A q) (t0 : Nat) (ht : tys[t0]? = some (cB, .array ty)) {n k : Int32} {N' K' : Nat} {z : vp_A} (hn : ¬ n < 0) (hk : ¬ k < 0) (hN : n.toNatClampNeg = N') (hM : k.toNatClampNeg = K')
    (hb1 : N' * 4 ≤ 536870912) (hb2 : K' * componentBytes ty ≤ 536870912) (hb3 : K' ≤ 536870912) (hdf : fits ty (defaultValue ty) = true) (hdd : (defaultValue ty).isDefault = true) (hcells : cells + (1 + N') ≤ R.cells) (hslots : slots + (N' + N' * K') ≤ R.slots) (hz : ∀ c : ClassId, Jvm.Free.Multi.innerC c K' (defaultValue ty) = vp_cell c z) (hdg : decode cc pc = .ok (.multianewarray index 2, 4))
    (kk : ∀ (q : Nat) (r : Nat → Nat) (w1 : fw_W) (H1 : Heap), w q = none → (∀ i : Nat, i < N' → w (r i) = none) → (∀ i j : Nat, i < N' → j < N' → r i = r j → i = j) → (∀ i : Nat, i < N' → r i ≠ q) → w1 q = some (.inl (cB, N', .inr (.inr (.inr (.inr (fun i => if i < N' then some (r i) else none)))))) → (∀ i : Nat, i < N' → w1 (r i) = some (.inl (cy, z))) → (∀ x : Nat, x ≠ q → (∀ i : Nat, i < N' → x ≠ r i) → w1 x = w x) → fw_P D cl A w1 H1 → va_S A H0 H1 locs →
      W p l e R s m args below meth c H1 locs (cells + 1 + N') (slots + N' + N' * K') Q (F0 m (pc + 4) ls (.ref q :: rest))) : W p l e R s m args below meth c H locs cells slots Q (F0 m pc ls (.int k :: .int n :: rest)) := by
  obtain ⟨ws, hPw, hDw, hw⟩ := fw_open hP
  have hPw' : va_P D cl (ws ++ va_pl [] (fun _ => .inr (0, []))) H := by rw [show va_pl [] (fun _ => (.inr (0, []) : va_E)) = [] from rfl, List.append_nil]; exact hPw
  have hDw' : va_D A (ws ++ va_pl [] (fun _ => .inr (0, []))) := by rw [show va_pl [] (fun _ => (.inr (0, []) : va_E)) = [] from rfl, List.append_nil]; exact hDw
  refine va_mna hexec hb hown hclink hover harr hcy hK hPw' hDw' hS hA hn hk hN hM hb1 hb2 hb3 hdf hdd hcells hslots hz hdg (fun q r cA H1 hinj _ h0 h1 h2 h3 => ?_)
  have e1 : cA = cB := fw_cls (h0.2 tys.length (cA, .array ty) (by simp)).2 (hK.2 t0 _ ht).2
  subst e1
  rw [List.append_assoc] at h1 h2
  obtain ⟨g1, g2⟩ := fw_tail hw h1 h2
  have mq : (q, (.inl (cA, N', .inr (.inr (.inr (.inr (fun i => if i < N' then some (r i) else none))))) : va_E)) ∈ [(q, (.inl (cA, N', .inr (.inr (.inr (.inr (fun i => if i < N' then some (r i) else none))))) : va_E))] ++ va_pl ([] ++ (List.range N').map r) (vr_up (fun _ => .inr (0, [])) ((List.range N').map r) (.inl (cy, z))) := List.mem_append_left _ (List.mem_singleton.mpr rfl)
  have mr : ∀ i : Nat, i < N' → (r i, (.inl (cy, z) : va_E)) ∈ [(q, (.inl (cA, N', .inr (.inr (.inr (.inr (fun i => if i < N' then some (r i) else none))))) : va_E))] ++ va_pl ([] ++ (List.range N').map r) (vr_up (fun _ => .inr (0, [])) ((List.range N').map r) (.inl (cy, z))) := fun i hi => by
    have hm : r i ∈ (List.range N').map r := List.mem_map.mpr ⟨i, List.mem_range.mpr hi, rfl⟩
    refine List.mem_append_right _ (List.mem_map.mpr ⟨r i, by rw [List.nil_append]; exact hm, ?_⟩)
    rw [vr_up_in hm]
  have hne : ∀ i : Nat, i < N' → r i ≠ q := fun i hi e9 => by
    have a1 := (g2 _ _ (mr i hi)).1
    have a2 := (g2 _ _ mq).1
    obtain ⟨j1, hj1⟩ := List.getElem?_of_mem (List.mem_append_right ws mq)
    obtain ⟨j2, hj2⟩ := List.getElem?_of_mem (List.mem_append_right ws (mr i hi))
    have := h2.1 j1 j2 _ _ hj1 hj2 e9.symm
    subst this
    have e8 := hj1.symm.trans hj2
    have hpos : ws.length ≤ j1 := Nat.not_lt.mp fun hlt => by
      rw [List.getElem?_append_left hlt] at hj1
      have := h2.1 j1 ws.length _ _ (by rw [List.getElem?_append_left hlt]; exact hj1) (by rw [List.getElem?_append_right (Nat.le_refl _), Nat.sub_self]; rfl) rfl
      omega
    have p1 : (ws ++ ([(q, (.inl (cA, N', .inr (.inr (.inr (.inr (fun i => if i < N' then some (r i) else none))))) : va_E))] ++ va_pl ([] ++ (List.range N').map r) (vr_up (fun _ => .inr (0, [])) ((List.range N').map r) (.inl (cy, z)))))[ws.length]? = some (q, (.inl (cA, N', .inr (.inr (.inr (.inr (fun i => if i < N' then some (r i) else none))))) : va_E)) := by rw [List.getElem?_append_right (Nat.le_refl _), Nat.sub_self]; rfl
    have p2 : (ws ++ ([(q, (.inl (cA, N', .inr (.inr (.inr (.inr (fun i => if i < N' then some (r i) else none))))) : va_E))] ++ va_pl ([] ++ (List.range N').map r) (vr_up (fun _ => .inr (0, [])) ((List.range N').map r) (.inl (cy, z)))))[ws.length + (1 + i)]? = some (r i, (.inl (cy, z) : va_E)) := by
      rw [List.getElem?_append_right (by omega), Nat.add_sub_cancel_left, List.getElem?_append_right (by simp)]
      have hm : r i ∈ (List.range N').map r := List.mem_map.mpr ⟨i, List.mem_range.mpr hi, rfl⟩
      simp [va_pl, hi, vr_up_in hm]
    have := h2.1 _ _ _ _ p1 p2 e9.symm
    omega
  refine kk q r (fun x => if x = q then some (.inl (cA, N', .inr (.inr (.inr (.inr (fun i => if i < N' then some (r i) else none)))))) else if x ∈ (List.range N').map r then some (.inl (cy, z)) else w x) H1 (g2 _ _ mq).2.2 (fun i hi => (g2 _ _ (mr i hi)).2.2) hinj hne (if_pos rfl) (fun i hi => ?_) (fun x hx hx2 => ?_) (fun x ex hex => ?_) h3
  · show (if r i = q then _ else _) = _
    rw [if_neg (hne i hi), if_pos (List.mem_map.mpr ⟨i, List.mem_range.mpr hi, rfl⟩)]
  · show (if x = q then _ else _) = _
    rw [if_neg hx, if_neg (fun hm => by obtain ⟨i, hi, e9⟩ := List.mem_map.mp hm; exact hx2 i (List.mem_range.mp hi) e9.symm)]
  · have hex : (if x = q then some (.inl (cA, N', .inr (.inr (.inr (.inr (fun i => if i < N' then some (r i) else none)))))) else if x ∈ (List.range N').map r then some (.inl (cy, z)) else w x) = some ex := hex
    by_cases hxq : x = q
    · rw [if_pos hxq] at hex
      cases hex
      subst hxq
      exact ⟨(g2 _ _ mq).1, (g2 _ _ mq).2.1⟩
    · rw [if_neg hxq] at hex
      by_cases hm : x ∈ (List.range N').map r
      · rw [if_pos hm] at hex
        cases hex
        obtain ⟨i, hi, rfl⟩ := List.mem_map.mp hm
        exact ⟨(g2 _ _ (mr i (List.mem_range.mp hi))).1, (g2 _ _ (mr i (List.mem_range.mp hi))).2.1⟩
      · rw [if_neg hm] at hex
        exact g1 x ex hex
end MNA
