section XTz
theorem rf_oth : ∀ c ∈ tables_1, (tr_kind rf_fs c || c.before start1.args0 rf_s) = true := by
  show ∀ c ∈ tables_1_1 ++ (tables_1_2 ++ (tables_1_3 ++ (tables_1_4 ++ (tables_1_5 ++ (tables_1_6 ++ (tables_1_7 ++ (tables_1_8 ++ (tables_1_9 ++ (tables_1_10 ++ (tables_1_11 ++ (tables_1_12 ++ (tables_1_13 ++ (tables_1_14 ++ (tables_1_15)))))))))))))), (tr_kind rf_fs c || c.before start1.args0 rf_s) = true
  exact (List.forall_mem_append.mpr ⟨List.all_eq_true.mp rf_oth_1, (List.forall_mem_append.mpr ⟨List.all_eq_true.mp rf_oth_2, (List.forall_mem_append.mpr ⟨List.all_eq_true.mp rf_oth_3, (List.forall_mem_append.mpr ⟨List.all_eq_true.mp rf_oth_4, (List.forall_mem_append.mpr ⟨List.all_eq_true.mp rf_oth_5, (List.forall_mem_append.mpr ⟨List.all_eq_true.mp rf_oth_6, (List.forall_mem_append.mpr ⟨List.all_eq_true.mp rf_oth_7, (List.forall_mem_append.mpr ⟨List.all_eq_true.mp rf_oth_8, (List.forall_mem_append.mpr ⟨List.all_eq_true.mp rf_oth_9, (List.forall_mem_append.mpr ⟨List.all_eq_true.mp rf_oth_10, (List.forall_mem_append.mpr ⟨List.all_eq_true.mp rf_oth_11, (List.forall_mem_append.mpr ⟨List.all_eq_true.mp rf_oth_12, (List.forall_mem_append.mpr ⟨List.all_eq_true.mp rf_oth_13, (List.forall_mem_append.mpr ⟨List.all_eq_true.mp rf_oth_14, (List.all_eq_true.mp rf_oth_15)⟩)⟩)⟩)⟩)⟩)⟩)⟩)⟩)⟩)⟩)⟩)⟩)⟩)⟩)
theorem rf_words : ∀ c ∈ tables_1, c.before start1.args0 rf_s = true := by
  intro c h
  cases hc : tr_kind rf_fs c with
  | true => exact rf_tr hc h
  | false =>
    have h1 := rf_oth c h
    rw [hc, Bool.false_or] at h1
    exact h1
theorem rf_hts : ∀ w ∈ lw_tbl, w.before #[Value.ref 0] rf_s = true := k2_hts_sels lw_privs rf_words lw_privs_ok
end XTz
