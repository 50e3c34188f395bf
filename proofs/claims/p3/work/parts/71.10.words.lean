section XW10
set_option maxRecDepth 100000 in
theorem rf_code311 : (Jvm.Cond.code (⟨"RelayHallModel$Channel", "<init>", "()V"⟩ : Jvm.MethodName) prog_16_method_1_code 1 none).before start1.args0 rf_s = true := su_hand_word (m := ⟨12, 0⟩) (by decide +kernel) rfl (by decide +kernel) (by decide +kernel)
set_option maxRecDepth 16384 in
theorem rf_oth_10_0 : (tables_1_10.take 49).all (fun c => su_isCode c || c.before start1.args0 rf_s) = true := by decide +kernel
set_option maxRecDepth 16384 in
theorem rf_oth_10_1 : ((tables_1_10.drop 49).take 63).all (fun c => su_isCode c || c.before start1.args0 rf_s) = true := by decide +kernel
set_option maxRecDepth 16384 in
theorem rf_oth_10_2 : (((tables_1_10.drop 49).drop 63).take 31).all (fun c => su_isCode c || c.before start1.args0 rf_s) = true := by decide +kernel
set_option maxRecDepth 16384 in
theorem rf_oth_10_3 : ((((tables_1_10.drop 49).drop 63).drop 31).take 80).all (fun c => su_isCode c || c.before start1.args0 rf_s) = true := by decide +kernel
set_option maxRecDepth 16384 in
theorem rf_oth_10_4 : (((((tables_1_10.drop 49).drop 63).drop 31).drop 80)).all (fun c => su_isCode c || c.before start1.args0 rf_s) = true := by decide +kernel
theorem rf_words_10 : ∀ c ∈ tables_1_10, c.before start1.args0 rf_s = true := fun c h => su_words ((start1.su_all_split _ 49 tables_1_10 rf_oth_10_0 (start1.su_all_split _ 63 (tables_1_10.drop 49) rf_oth_10_1 (start1.su_all_split _ 31 ((tables_1_10.drop 49).drop 63) rf_oth_10_2 (start1.su_all_split _ 80 (((tables_1_10.drop 49).drop 63).drop 31) rf_oth_10_3 rf_oth_10_4))))) (by
  rw [start1.codes_are_10]
  exact (List.forall_mem_cons.mpr ⟨rf_code311, (fun _ h => absurd h List.not_mem_nil)⟩)) c h
end XW10
