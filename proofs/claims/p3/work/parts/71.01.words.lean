section XW1
set_option maxRecDepth 100000 in
theorem rf_code0 : (Jvm.Cond.code (⟨"RelayHall", "<init>", "()V"⟩ : Jvm.MethodName) prog_1_method_1_code 4 none).before start1.args0 rf_s = true := su_hand_word (m := ⟨2, 0⟩) (by decide +kernel) rfl (by decide +kernel) (by decide +kernel)
set_option maxRecDepth 100000 in
theorem rf_code1 : (Jvm.Cond.code (⟨"java/lang/Object", "<init>", "()V"⟩ : Jvm.MethodName) object_method_1_code 1 none).before start1.args0 rf_s = true := su_hand_word (m := ⟨1, 0⟩) (by decide +kernel) rfl (by decide +kernel) (by decide +kernel)
set_option maxRecDepth 100000 in
theorem rf_code2 : (Jvm.Cond.code (⟨"RelayHall$Exchange", "<init>", "(Ljava/lang/String;IILjava/lang/String;)V"⟩ : Jvm.MethodName) prog_7_method_1_code 5 none).before start1.args0 rf_s = true := su_hand_word (m := ⟨38, 0⟩) (by decide +kernel) rfl (by decide +kernel) (by decide +kernel)
set_option maxRecDepth 100000 in
theorem rf_code3 : (Jvm.Cond.code (⟨"RelayHall$Durable", "<init>", "()V"⟩ : Jvm.MethodName) prog_6_method_1_code 1 none).before start1.args0 rf_s = true := su_hand_word (m := ⟨3, 0⟩) (by decide +kernel) rfl (by decide +kernel) (by decide +kernel)
set_option maxRecDepth 100000 in
theorem rf_code4 : (Jvm.Cond.code (⟨"java/util/ArrayList", "<init>", "()V"⟩ : Jvm.MethodName) prog_50_method_2_code 1 none).before start1.args0 rf_s = true := su_hand_word (m := ⟨57, 0⟩) (by decide +kernel) rfl (by decide +kernel) (by decide +kernel)
set_option maxRecDepth 100000 in
theorem rf_code5 : (Jvm.Cond.code (⟨"java/util/AbstractList", "<init>", "()V"⟩ : Jvm.MethodName) prog_49_method_1_code 1 none).before start1.args0 rf_s = true := su_hand_word (m := ⟨53, 0⟩) (by decide +kernel) rfl (by decide +kernel) (by decide +kernel)
set_option maxRecDepth 100000 in
theorem rf_code6 : (Jvm.Cond.code (⟨"java/util/AbstractCollection", "<init>", "()V"⟩ : Jvm.MethodName) prog_48_method_1_code 1 none).before start1.args0 rf_s = true := su_hand_word (m := ⟨47, 0⟩) (by decide +kernel) rfl (by decide +kernel) (by decide +kernel)
set_option maxRecDepth 100000 in
theorem rf_code7 : (Jvm.Cond.code (⟨"RelayHall$Log", "<init>", "()V"⟩ : Jvm.MethodName) prog_8_method_1_code 1 none).before start1.args0 rf_s = true := su_hand_word (m := ⟨4, 0⟩) (by decide +kernel) rfl (by decide +kernel) (by decide +kernel)
set_option maxRecDepth 100000 in
theorem rf_code8 : (Jvm.Cond.code (⟨"RelayHall$Reader", "<init>", "()V"⟩ : Jvm.MethodName) prog_11_method_1_code 1 none).before start1.args0 rf_s = true := su_hand_word (m := ⟨5, 0⟩) (by decide +kernel) rfl (by decide +kernel) (by decide +kernel)
set_option maxRecDepth 100000 in
theorem rf_code9 : (Jvm.Cond.code (⟨"java/lang/StringBuilder", "<init>", "()V"⟩ : Jvm.MethodName) prog_42_method_1_code 1 none).before start1.args0 rf_s = true := su_hand_word (m := ⟨39, 0⟩) (by decide +kernel) rfl (by decide +kernel) (by decide +kernel)
set_option maxRecDepth 100000 in
theorem rf_code10 : (Jvm.Cond.code (⟨"java/lang/AbstractStringBuilder", "<init>", "(I)V"⟩ : Jvm.MethodName) prog_29_method_2_code 2 none).before start1.args0 rf_s = true := su_hand_word (m := ⟨6, 0⟩) (by decide +kernel) rfl (by decide +kernel) (by decide +kernel)
set_option maxRecDepth 100000 in
theorem rf_code11 : (Jvm.Cond.code (⟨"java/lang/StringUTF16", "newBytesFor", "(I)[B"⟩ : Jvm.MethodName) prog_45_method_2_code 1 (some (.array .byte))).before start1.args0 rf_s = true := su_hand_word (m := ⟨7, 0⟩) (by decide +kernel) rfl (by decide +kernel) (by decide +kernel)
set_option maxRecDepth 100000 in
theorem rf_code12 : (Jvm.Cond.code (⟨"java/lang/StringUTF16", "newBytesLength", "(I)I"⟩ : Jvm.MethodName) prog_45_method_3_code 1 (some .int)).before start1.args0 rf_s = true := su_hand_word (m := ⟨7, 1⟩) (by decide +kernel) rfl (by decide +kernel) (by decide +kernel)
set_option maxRecDepth 100000 in
theorem rf_code13 : (Jvm.Cond.code (⟨"RelayHall$Connection", "<init>", "()V"⟩ : Jvm.MethodName) prog_4_method_1_code 1 none).before start1.args0 rf_s = true := su_hand_word (m := ⟨8, 0⟩) (by decide +kernel) rfl (by decide +kernel) (by decide +kernel)
set_option maxRecDepth 16384 in
theorem rf_oth_1_0 : (tables_1_1.take 80).all (fun c => su_isCode c || c.before start1.args0 rf_s) = true := by decide +kernel
set_option maxRecDepth 16384 in
theorem rf_oth_1_1 : ((tables_1_1.drop 80).take 80).all (fun c => su_isCode c || c.before start1.args0 rf_s) = true := by decide +kernel
set_option maxRecDepth 16384 in
theorem rf_oth_1_2 : (((tables_1_1.drop 80).drop 80).take 64).all (fun c => su_isCode c || c.before start1.args0 rf_s) = true := by decide +kernel
set_option maxRecDepth 16384 in
theorem rf_oth_1_3 : ((((tables_1_1.drop 80).drop 80).drop 64)).all (fun c => su_isCode c || c.before start1.args0 rf_s) = true := by decide +kernel
theorem rf_words_1 : ∀ c ∈ tables_1_1, c.before start1.args0 rf_s = true := fun c h => su_words ((start1.su_all_split _ 80 tables_1_1 rf_oth_1_0 (start1.su_all_split _ 80 (tables_1_1.drop 80) rf_oth_1_1 (start1.su_all_split _ 64 ((tables_1_1.drop 80).drop 80) rf_oth_1_2 rf_oth_1_3)))) (by
  rw [start1.codes_are_1]
  exact (List.forall_mem_cons.mpr ⟨rf_code0, (List.forall_mem_cons.mpr ⟨rf_code1, (List.forall_mem_cons.mpr ⟨rf_code2, (List.forall_mem_cons.mpr ⟨rf_code3, (List.forall_mem_cons.mpr ⟨rf_code4, (List.forall_mem_cons.mpr ⟨rf_code5, (List.forall_mem_cons.mpr ⟨rf_code6, (List.forall_mem_cons.mpr ⟨rf_code7, (List.forall_mem_cons.mpr ⟨rf_code8, (List.forall_mem_cons.mpr ⟨rf_code9, (List.forall_mem_cons.mpr ⟨rf_code10, (List.forall_mem_cons.mpr ⟨rf_code11, (List.forall_mem_cons.mpr ⟨rf_code12, (List.forall_mem_cons.mpr ⟨rf_code13, (fun _ h => absurd h List.not_mem_nil)⟩)⟩)⟩)⟩)⟩)⟩)⟩)⟩)⟩)⟩)⟩)⟩)⟩)⟩)) c h
end XW1
