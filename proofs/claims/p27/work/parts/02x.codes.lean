/-! words of the long codes -/
theorem bk_m {w : Cond} (h : w ∈ tables_1_1 ++ (tables_1_2 ++ tables_1_3)) (g : goodWord w = true) : w ∈ bkTB := List.mem_filter.mpr ⟨List.mem_append_right _ h, g⟩
set_option maxRecDepth 100000 in
theorem cd_L_acts : Cond.code yL_acts cL_acts 6 (some .int) ∈ bkTB := by
  refine bk_m ?_ rfl
  refine List.mem_append_right _ (List.mem_append_right _ ?_)
  unfold tables_1_3
  repeat (first | exact List.mem_cons_self | apply List.mem_cons_of_mem)
set_option maxRecDepth 100000 in
theorem cd_L_hangs : Cond.code yL_hangs cL_hangs 20 (some .boolean) ∈ bkTB := by
  refine bk_m ?_ rfl
  refine List.mem_append_right _ (List.mem_append_right _ ?_)
  unfold tables_1_3
  repeat (first | exact List.mem_cons_self | apply List.mem_cons_of_mem)
set_option maxRecDepth 100000 in
theorem cd_L_refuses : Cond.code yL_refuses cL_refuses 7 (some .boolean) ∈ bkTB := by
  refine bk_m ?_ rfl
  refine List.mem_append_right _ (List.mem_append_right _ ?_)
  unfold tables_1_3
  repeat (first | exact List.mem_cons_self | apply List.mem_cons_of_mem)
