section XW15
set_option maxRecDepth 100000 in
theorem rf_code489 : (Jvm.Cond.code (⟨"RelayHallModel", "total", "(I)I"⟩ : Jvm.MethodName) prog_14_method_168_code 2 (some .int)).before start1.args0 rf_s = true := su_hand_word (m := ⟨10, 166⟩) (by decide +kernel) rfl (by decide +kernel) (by decide +kernel)
set_option maxRecDepth 16384 in
theorem rf_oth_15_0 : (tables_1_15).all (fun c => su_isCode c || c.before start1.args0 rf_s) = true := by decide +kernel
theorem rf_words_15 : ∀ c ∈ tables_1_15, c.before start1.args0 rf_s = true := fun c h => su_words (rf_oth_15_0) (by
  rw [start1.codes_are_15]
  exact (List.forall_mem_cons.mpr ⟨rf_code489, (fun _ h => absurd h List.not_mem_nil)⟩)) c h
end XW15
