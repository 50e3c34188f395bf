section XW2
set_option maxRecDepth 100000 in
theorem rf_code14 : (Jvm.Cond.code (⟨"RelayHall$Channel", "<init>", "(LRelayHall$Connection;I)V"⟩ : Jvm.MethodName) prog_3_method_1_code 3 none).before start1.args0 rf_s = true := su_hand_word (m := ⟨9, 0⟩) (by decide +kernel) rfl (by decide +kernel) (by decide +kernel)
set_option maxRecDepth 100000 in
theorem rf_code15 : (Jvm.Cond.code (⟨"RelayHall", "type", "(JI)Z"⟩ : Jvm.MethodName) prog_1_method_2_code 5 (some .boolean)).before start1.args0 rf_s = true := su_hand_word (m := ⟨2, 1⟩) (by decide +kernel) rfl (by decide +kernel) (by decide +kernel)
set_option maxRecDepth 100000 in
theorem rf_code16 : (Jvm.Cond.code (⟨"RelayHall", "connect", "(I)Z"⟩ : Jvm.MethodName) prog_1_method_3_code 2 (some .boolean)).before start1.args0 rf_s = true := su_hand_word (m := ⟨2, 2⟩) (by decide +kernel) rfl (by decide +kernel) (by decide +kernel)
set_option maxRecDepth 100000 in
theorem rf_code17 : (Jvm.Cond.code (⟨"RelayHall", "isConnection", "(I)Z"⟩ : Jvm.MethodName) prog_1_method_15_code 1 (some .boolean)).before start1.args0 rf_s = true := su_hand_word (m := ⟨2, 14⟩) (by decide +kernel) rfl (by decide +kernel) (by decide +kernel)
set_option maxRecDepth 100000 in
theorem rf_code18 : (Jvm.Cond.code (⟨"RelayHall$Connection", "restart", "(I)V"⟩ : Jvm.MethodName) prog_4_method_2_code 2 none).before start1.args0 rf_s = true := su_hand_word (m := ⟨8, 1⟩) (by decide +kernel) rfl (by decide +kernel) (by decide +kernel)
set_option maxRecDepth 100000 in
theorem rf_code19 : (Jvm.Cond.code (⟨"RelayHall", "send", "(I)I"⟩ : Jvm.MethodName) prog_1_method_4_code 6 (some .int)).before start1.args0 rf_s = true := su_hand_word (m := ⟨2, 3⟩) (by decide +kernel) rfl (by decide +kernel) (by decide +kernel)
set_option maxRecDepth 100000 in
theorem rf_code20 : (Jvm.Cond.code (⟨"RelayHall$Connection", "takes", "(B)Z"⟩ : Jvm.MethodName) prog_4_method_5_code 2 (some .boolean)).before start1.args0 rf_s = true := su_hand_word (m := ⟨8, 4⟩) (by decide +kernel) rfl (by decide +kernel) (by decide +kernel)
set_option maxRecDepth 100000 in
theorem rf_code21 : (Jvm.Cond.code (⟨"RelayHall$Connection", "hasFineHead", "()Z"⟩ : Jvm.MethodName) prog_4_method_6_code 3 (some .boolean)).before start1.args0 rf_s = true := su_hand_word (m := ⟨8, 5⟩) (by decide +kernel) rfl (by decide +kernel) (by decide +kernel)
set_option maxRecDepth 100000 in
theorem rf_code22 : (Jvm.Cond.code (⟨"RelayHall$Connection", "frameSize", "()J"⟩ : Jvm.MethodName) prog_4_method_10_code 1 (some .long)).before start1.args0 rf_s = true := su_hand_word (m := ⟨8, 9⟩) (by decide +kernel) rfl (by decide +kernel) (by decide +kernel)
set_option maxRecDepth 100000 in
theorem rf_code23 : (Jvm.Cond.code (⟨"RelayHall", "sift", "(LRelayHall$Connection;)LRelayHall$Channel;"⟩ : Jvm.MethodName) prog_1_method_49_code 4 (some (.object "RelayHall$Channel"))).before start1.args0 rf_s = true := su_hand_word (m := ⟨2, 48⟩) (by decide +kernel) rfl (by decide +kernel) (by decide +kernel)
set_option maxRecDepth 100000 in
theorem rf_code24 : (Jvm.Cond.code (⟨"RelayHall$Connection", "isFrame", "()Z"⟩ : Jvm.MethodName) prog_4_method_7_code 1 (some .boolean)).before start1.args0 rf_s = true := su_hand_word (m := ⟨8, 6⟩) (by decide +kernel) rfl (by decide +kernel) (by decide +kernel)
set_option maxRecDepth 100000 in
theorem rf_code25 : (Jvm.Cond.code (⟨"RelayHall", "takeOutsideOpen", "(LRelayHall$Connection;)V"⟩ : Jvm.MethodName) prog_1_method_41_code 2 none).before start1.args0 rf_s = true := su_hand_word (m := ⟨2, 40⟩) (by decide +kernel) rfl (by decide +kernel) (by decide +kernel)
set_option maxRecDepth 100000 in
theorem rf_code26 : (Jvm.Cond.code (⟨"RelayHall", "takeGreeting", "(LRelayHall$Connection;)V"⟩ : Jvm.MethodName) prog_1_method_42_code 4 none).before start1.args0 rf_s = true := su_hand_word (m := ⟨2, 41⟩) (by decide +kernel) rfl (by decide +kernel) (by decide +kernel)
set_option maxRecDepth 16384 in
theorem rf_oth_2_0 : (tables_1_2.take 59).all (fun c => su_isCode c || c.before start1.args0 rf_s) = true := by decide +kernel
set_option maxRecDepth 16384 in
theorem rf_oth_2_1 : ((tables_1_2.drop 59).take 55).all (fun c => su_isCode c || c.before start1.args0 rf_s) = true := by decide +kernel
set_option maxRecDepth 16384 in
theorem rf_oth_2_2 : (((tables_1_2.drop 59).drop 55).take 80).all (fun c => su_isCode c || c.before start1.args0 rf_s) = true := by decide +kernel
set_option maxRecDepth 16384 in
theorem rf_oth_2_3 : ((((tables_1_2.drop 59).drop 55).drop 80)).all (fun c => su_isCode c || c.before start1.args0 rf_s) = true := by decide +kernel
theorem rf_words_2 : ∀ c ∈ tables_1_2, c.before start1.args0 rf_s = true := fun c h => su_words ((start1.su_all_split _ 59 tables_1_2 rf_oth_2_0 (start1.su_all_split _ 55 (tables_1_2.drop 59) rf_oth_2_1 (start1.su_all_split _ 80 ((tables_1_2.drop 59).drop 55) rf_oth_2_2 rf_oth_2_3)))) (by
  rw [start1.codes_are_2]
  exact (List.forall_mem_cons.mpr ⟨rf_code14, (List.forall_mem_cons.mpr ⟨rf_code15, (List.forall_mem_cons.mpr ⟨rf_code16, (List.forall_mem_cons.mpr ⟨rf_code17, (List.forall_mem_cons.mpr ⟨rf_code18, (List.forall_mem_cons.mpr ⟨rf_code19, (List.forall_mem_cons.mpr ⟨rf_code20, (List.forall_mem_cons.mpr ⟨rf_code21, (List.forall_mem_cons.mpr ⟨rf_code22, (List.forall_mem_cons.mpr ⟨rf_code23, (List.forall_mem_cons.mpr ⟨rf_code24, (List.forall_mem_cons.mpr ⟨rf_code25, (List.forall_mem_cons.mpr ⟨rf_code26, (fun _ h => absurd h List.not_mem_nil)⟩)⟩)⟩)⟩)⟩)⟩)⟩)⟩)⟩)⟩)⟩)⟩)⟩)) c h
end XW2
