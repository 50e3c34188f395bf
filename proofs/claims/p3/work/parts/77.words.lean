section XWz
theorem rf_words : ∀ c ∈ tables_1, c.before start1.args0 rf_s = true := by
  show ∀ c ∈ tables_1_1 ++ (tables_1_2 ++ (tables_1_3 ++ (tables_1_4 ++ (tables_1_5 ++ (tables_1_6 ++ (tables_1_7 ++ (tables_1_8 ++ (tables_1_9 ++ (tables_1_10 ++ (tables_1_11 ++ (tables_1_12 ++ (tables_1_13 ++ (tables_1_14 ++ (tables_1_15)))))))))))))), c.before start1.args0 rf_s = true
  exact (List.forall_mem_append.mpr ⟨rf_words_1, (List.forall_mem_append.mpr ⟨rf_words_2, (List.forall_mem_append.mpr ⟨rf_words_3, (List.forall_mem_append.mpr ⟨rf_words_4, (List.forall_mem_append.mpr ⟨rf_words_5, (List.forall_mem_append.mpr ⟨rf_words_6, (List.forall_mem_append.mpr ⟨rf_words_7, (List.forall_mem_append.mpr ⟨rf_words_8, (List.forall_mem_append.mpr ⟨rf_words_9, (List.forall_mem_append.mpr ⟨rf_words_10, (List.forall_mem_append.mpr ⟨rf_words_11, (List.forall_mem_append.mpr ⟨rf_words_12, (List.forall_mem_append.mpr ⟨rf_words_13, (List.forall_mem_append.mpr ⟨rf_words_14, rf_words_15⟩)⟩)⟩)⟩)⟩)⟩)⟩)⟩)⟩)⟩)⟩)⟩)⟩)⟩)
theorem rf_hts : ∀ w ∈ lw_tbl, w.before #[Value.ref 0] rf_s = true := k2_hts_sels lw_privs rf_words lw_privs_ok
end XWz
