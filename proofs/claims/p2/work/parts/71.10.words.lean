section XW10
set_option maxRecDepth 100000 in
theorem rf_code311 : (Jvm.Cond.code (⟨"RelayHallModel$Channel", "<init>", "()V"⟩ : Jvm.MethodName) prog_16_method_1_code 1 none).before start1.args0 rf_s = true := su_hand_word (m := ⟨12, 0⟩) (by decide +kernel) rfl (by decide +kernel) (by decide +kernel)
set_option maxRecDepth 16384 in
theorem rf_oth_10_0 : (tables_1_10.take 40).all (fun c => su_isCode c || c.before start1.args0 rf_s) = true := by decide +kernel
set_option maxRecDepth 16384 in
theorem rf_oth_10_1 : ((tables_1_10.drop 40).take 9).all (fun c => su_isCode c || c.before start1.args0 rf_s) = true := by decide +kernel
set_option maxRecDepth 16384 in
theorem rf_oth_10_2 : (((tables_1_10.drop 40).drop 9).take 40).all (fun c => su_isCode c || c.before start1.args0 rf_s) = true := by decide +kernel
set_option maxRecDepth 16384 in
theorem rf_oth_10_3 : ((((tables_1_10.drop 40).drop 9).drop 40).take 23).all (fun c => su_isCode c || c.before start1.args0 rf_s) = true := by decide +kernel
set_option maxRecDepth 16384 in
theorem rf_oth_10_4 : (((((tables_1_10.drop 40).drop 9).drop 40).drop 23).take 14).all (fun c => su_isCode c || c.before start1.args0 rf_s) = true := by decide +kernel
set_option maxRecDepth 16384 in
theorem rf_oth_10_5 : ((((((tables_1_10.drop 40).drop 9).drop 40).drop 23).drop 14).take 17).all (fun c => su_isCode c || c.before start1.args0 rf_s) = true := by decide +kernel
set_option maxRecDepth 16384 in
theorem rf_oth_10_6 : (((((((tables_1_10.drop 40).drop 9).drop 40).drop 23).drop 14).drop 17).take 40).all (fun c => su_isCode c || c.before start1.args0 rf_s) = true := by decide +kernel
set_option maxRecDepth 16384 in
theorem rf_oth_10_7 : ((((((((tables_1_10.drop 40).drop 9).drop 40).drop 23).drop 14).drop 17).drop 40).take 40).all (fun c => su_isCode c || c.before start1.args0 rf_s) = true := by decide +kernel
set_option maxRecDepth 16384 in
theorem rf_oth_10_8 : ((((((((tables_1_10.drop 40).drop 9).drop 40).drop 23).drop 14).drop 17).drop 40).drop 40).all (fun c => su_isCode c || c.before start1.args0 rf_s) = true := by decide +kernel
theorem rf_words_10 : ∀ c ∈ tables_1_10, c.before start1.args0 rf_s = true := fun c h => su_words (start1.su_all_split _ 40 tables_1_10 rf_oth_10_0 (start1.su_all_split _ 9 (tables_1_10.drop 40) rf_oth_10_1 (start1.su_all_split _ 40 ((tables_1_10.drop 40).drop 9) rf_oth_10_2 (start1.su_all_split _ 23 (((tables_1_10.drop 40).drop 9).drop 40) rf_oth_10_3 (start1.su_all_split _ 14 ((((tables_1_10.drop 40).drop 9).drop 40).drop 23) rf_oth_10_4 (start1.su_all_split _ 17 (((((tables_1_10.drop 40).drop 9).drop 40).drop 23).drop 14) rf_oth_10_5 (start1.su_all_split _ 40 ((((((tables_1_10.drop 40).drop 9).drop 40).drop 23).drop 14).drop 17) rf_oth_10_6 (start1.su_all_split _ 40 (((((((tables_1_10.drop 40).drop 9).drop 40).drop 23).drop 14).drop 17).drop 40) rf_oth_10_7 rf_oth_10_8)))))))) (by
  rw [start1.codes_are_10]
  exact (List.forall_mem_cons.mpr ⟨rf_code311, (fun _ h => absurd h List.not_mem_nil)⟩)) c h
end XW10
