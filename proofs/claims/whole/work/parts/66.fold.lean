theorem parts_drop {P : PD} {k i : Nat} (h : i < p_cn P k) : (p_parts P k).drop i = p_pt P k i :: (p_parts P k).drop (i + 1) := by
  unfold p_parts
  have hl : i < ((List.range (p_cn P k)).map (p_pt P k)).length := by rw [List.length_map, List.length_range]; exact h
  rw [List.drop_eq_getElem_cons hl]
  congr 1
  rw [List.getElem_map, List.getElem_range]
theorem parts_len (P : PD) (k : Nat) : (p_parts P k).length = p_cn P k := by unfold p_parts; rw [List.length_map, List.length_range]
theorem rep_drop {n i p : Nat} (h : i < n) : (List.replicate n p).drop i = p :: (List.replicate n p).drop (i + 1) := by
  have hl : i < (List.replicate n p).length := by rw [List.length_replicate]; exact h
  rw [List.drop_eq_getElem_cons hl]
  congr 1
  exact List.getElem_replicate hl
