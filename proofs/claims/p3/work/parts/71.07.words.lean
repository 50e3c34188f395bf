section XW7
set_option maxRecDepth 100000 in
theorem rf_code195 : (Jvm.Cond.code (⟨"RelayHall", "findBinding", "(LRelayHall$Binding;)I"⟩ : Jvm.MethodName) prog_1_method_22_code 3 (some .int)).before start1.args0 rf_s = true := su_hand_word (m := ⟨2, 21⟩) (by decide +kernel) rfl (by decide +kernel) (by decide +kernel)
set_option maxRecDepth 100000 in
theorem rf_code196 : (Jvm.Cond.code (⟨"RelayHall$Binding", "isLike", "(LRelayHall$Binding;)Z"⟩ : Jvm.MethodName) prog_2_method_4_code 2 (some .boolean)).before start1.args0 rf_s = true := su_hand_word (m := ⟨44, 3⟩) (by decide +kernel) rfl (by decide +kernel) (by decide +kernel)
set_option maxRecDepth 100000 in
theorem rf_code197 : (Jvm.Cond.code (⟨"RelayHall$Table", "isLike", "(LRelayHall$Table;)Z"⟩ : Jvm.MethodName) prog_12_method_12_code 4 (some .boolean)).before start1.args0 rf_s = true := su_hand_word (m := ⟨18, 11⟩) (by decide +kernel) rfl (by decide +kernel) (by decide +kernel)
set_option maxRecDepth 100000 in
theorem rf_code198 : (Jvm.Cond.code (⟨"RelayHall$Table", "holds", "(LRelayHall$Table;I)Z"⟩ : Jvm.MethodName) prog_12_method_11_code 6 (some .boolean)).before start1.args0 rf_s = true := su_hand_word (m := ⟨18, 10⟩) (by decide +kernel) rfl (by decide +kernel) (by decide +kernel)
set_option maxRecDepth 100000 in
theorem rf_code199 : (Jvm.Cond.code (⟨"RelayHall$Binding", "isRecorded", "()Z"⟩ : Jvm.MethodName) prog_2_method_3_code 1 (some .boolean)).before start1.args0 rf_s = true := su_hand_word (m := ⟨44, 2⟩) (by decide +kernel) rfl (by decide +kernel) (by decide +kernel)
set_option maxRecDepth 100000 in
theorem rf_code200 : (Jvm.Cond.code (⟨"RelayHall", "unbind", "(LRelayHall$Channel;)V"⟩ : Jvm.MethodName) prog_1_method_71_code 10 none).before start1.args0 rf_s = true := su_hand_word (m := ⟨2, 70⟩) (by decide +kernel) rfl (by decide +kernel) (by decide +kernel)
set_option maxRecDepth 100000 in
theorem rf_code201 : (Jvm.Cond.code (⟨"RelayHall", "purge", "(LRelayHall$Channel;)V"⟩ : Jvm.MethodName) prog_1_method_72_code 7 none).before start1.args0 rf_s = true := su_hand_word (m := ⟨2, 71⟩) (by decide +kernel) rfl (by decide +kernel) (by decide +kernel)
set_option maxRecDepth 100000 in
theorem rf_code202 : (Jvm.Cond.code (⟨"RelayHall", "leave", "(LRelayHall$Message;Z)V"⟩ : Jvm.MethodName) prog_1_method_89_code 3 none).before start1.args0 rf_s = true := su_hand_word (m := ⟨2, 88⟩) (by decide +kernel) rfl (by decide +kernel) (by decide +kernel)
set_option maxRecDepth 100000 in
theorem rf_code203 : (Jvm.Cond.code (⟨"RelayHall", "deleteQueue", "(LRelayHall$Channel;)V"⟩ : Jvm.MethodName) prog_1_method_73_code 6 none).before start1.args0 rf_s = true := su_hand_word (m := ⟨2, 72⟩) (by decide +kernel) rfl (by decide +kernel) (by decide +kernel)
set_option maxRecDepth 100000 in
theorem rf_code204 : (Jvm.Cond.code (⟨"RelayHall", "removeQueue", "(LRelayHall$Queue;)V"⟩ : Jvm.MethodName) prog_1_method_75_code 5 none).before start1.args0 rf_s = true := su_hand_word (m := ⟨2, 74⟩) (by decide +kernel) rfl (by decide +kernel) (by decide +kernel)
set_option maxRecDepth 100000 in
theorem rf_code205 : (Jvm.Cond.code (⟨"RelayHall", "unbindAll", "(LRelayHall$Exchange;LRelayHall$Queue;)Z"⟩ : Jvm.MethodName) prog_1_method_76_code 6 (some .boolean)).before start1.args0 rf_s = true := su_hand_word (m := ⟨2, 75⟩) (by decide +kernel) rfl (by decide +kernel) (by decide +kernel)
set_option maxRecDepth 100000 in
theorem rf_code206 : (Jvm.Cond.code (⟨"RelayHall", "tellConsumers", "(LRelayHall$Queue;)V"⟩ : Jvm.MethodName) prog_1_method_74_code 6 none).before start1.args0 rf_s = true := su_hand_word (m := ⟨2, 73⟩) (by decide +kernel) rfl (by decide +kernel) (by decide +kernel)
set_option maxRecDepth 100000 in
theorem rf_code207 : (Jvm.Cond.code (⟨"RelayHall", "limit", "(LRelayHall$Channel;)V"⟩ : Jvm.MethodName) prog_1_method_91_code 4 none).before start1.args0 rf_s = true := su_hand_word (m := ⟨2, 90⟩) (by decide +kernel) rfl (by decide +kernel) (by decide +kernel)
set_option maxRecDepth 100000 in
theorem rf_code208 : (Jvm.Cond.code (⟨"RelayHall", "consume", "(LRelayHall$Channel;)V"⟩ : Jvm.MethodName) prog_1_method_92_code 7 none).before start1.args0 rf_s = true := su_hand_word (m := ⟨2, 91⟩) (by decide +kernel) rfl (by decide +kernel) (by decide +kernel)
set_option maxRecDepth 100000 in
theorem rf_code209 : (Jvm.Cond.code (⟨"RelayHall", "hasAlone", "(LRelayHall$Queue;)Z"⟩ : Jvm.MethodName) prog_1_method_25_code 3 (some .boolean)).before start1.args0 rf_s = true := su_hand_word (m := ⟨2, 24⟩) (by decide +kernel) rfl (by decide +kernel) (by decide +kernel)
set_option maxRecDepth 100000 in
theorem rf_code210 : (Jvm.Cond.code (⟨"RelayHall", "findConsumer", "(LRelayHall$Channel;Ljava/lang/String;)I"⟩ : Jvm.MethodName) prog_1_method_21_code 4 (some .int)).before start1.args0 rf_s = true := su_hand_word (m := ⟨2, 20⟩) (by decide +kernel) rfl (by decide +kernel) (by decide +kernel)
set_option maxRecDepth 100000 in
theorem rf_code211 : (Jvm.Cond.code (⟨"RelayHall", "freeTag", "(LRelayHall$Channel;)Ljava/lang/String;"⟩ : Jvm.MethodName) prog_1_method_93_code 3 (some (.object "java/lang/String"))).before start1.args0 rf_s = true := su_hand_word (m := ⟨2, 92⟩) (by decide +kernel) rfl (by decide +kernel) (by decide +kernel)
set_option maxRecDepth 100000 in
theorem rf_code212 : (Jvm.Cond.code (⟨"RelayHall$Consumer", "<init>", "(LRelayHall$Channel;LRelayHall$Queue;Ljava/lang/String;I)V"⟩ : Jvm.MethodName) prog_5_method_1_code 5 none).before start1.args0 rf_s = true := su_hand_word (m := ⟨21, 0⟩) (by decide +kernel) rfl (by decide +kernel) (by decide +kernel)
set_option maxRecDepth 100000 in
theorem rf_code213 : (Jvm.Cond.code (⟨"RelayHall", "answerText", "(LRelayHall$Channel;ILjava/lang/String;)V"⟩ : Jvm.MethodName) prog_1_method_32_code 4 none).before start1.args0 rf_s = true := su_hand_word (m := ⟨2, 31⟩) (by decide +kernel) rfl (by decide +kernel) (by decide +kernel)
set_option maxRecDepth 100000 in
theorem rf_code214 : (Jvm.Cond.code (⟨"RelayHall", "cancel", "(LRelayHall$Channel;)V"⟩ : Jvm.MethodName) prog_1_method_94_code 5 none).before start1.args0 rf_s = true := su_hand_word (m := ⟨2, 93⟩) (by decide +kernel) rfl (by decide +kernel) (by decide +kernel)
set_option maxRecDepth 100000 in
theorem rf_code215 : (Jvm.Cond.code (⟨"RelayHall", "removeConsumer", "(I)V"⟩ : Jvm.MethodName) prog_1_method_95_code 3 none).before start1.args0 rf_s = true := su_hand_word (m := ⟨2, 94⟩) (by decide +kernel) rfl (by decide +kernel) (by decide +kernel)
set_option maxRecDepth 100000 in
theorem rf_code216 : (Jvm.Cond.code (⟨"RelayHall", "beginContent", "(LRelayHall$Channel;)V"⟩ : Jvm.MethodName) prog_1_method_77_code 6 none).before start1.args0 rf_s = true := su_hand_word (m := ⟨2, 76⟩) (by decide +kernel) rfl (by decide +kernel) (by decide +kernel)
set_option maxRecDepth 100000 in
theorem rf_code217 : (Jvm.Cond.code (⟨"RelayHall$Message", "<init>", "(Ljava/lang/String;Ljava/lang/String;Z)V"⟩ : Jvm.MethodName) prog_9_method_1_code 4 none).before start1.args0 rf_s = true := su_hand_word (m := ⟨45, 0⟩) (by decide +kernel) rfl (by decide +kernel) (by decide +kernel)
set_option maxRecDepth 100000 in
theorem rf_code218 : (Jvm.Cond.code (⟨"RelayHall", "get", "(LRelayHall$Channel;)V"⟩ : Jvm.MethodName) prog_1_method_101_code 7 none).before start1.args0 rf_s = true := su_hand_word (m := ⟨2, 100⟩) (by decide +kernel) rfl (by decide +kernel) (by decide +kernel)
set_option maxRecDepth 100000 in
theorem rf_code219 : (Jvm.Cond.code (⟨"java/util/ArrayList", "isEmpty", "()Z"⟩ : Jvm.MethodName) prog_50_method_9_code 1 (some .boolean)).before start1.args0 rf_s = true := su_hand_word (m := ⟨57, 4⟩) (by decide +kernel) rfl (by decide +kernel) (by decide +kernel)
set_option maxRecDepth 100000 in
theorem rf_code220 : (Jvm.Cond.code (⟨"RelayHall", "handOver", "(LRelayHall$Queue;LRelayHall$Channel;LRelayHall$Consumer;Z)LRelayHall$Message;"⟩ : Jvm.MethodName) prog_1_method_100_code 6 (some (.object "RelayHall$Message"))).before start1.args0 rf_s = true := su_hand_word (m := ⟨2, 99⟩) (by decide +kernel) rfl (by decide +kernel) (by decide +kernel)
set_option maxRecDepth 16384 in
theorem rf_oth_7_0 : (tables_1_7.take 68).all (fun c => su_isCode c || c.before start1.args0 rf_s) = true := by decide +kernel
set_option maxRecDepth 16384 in
theorem rf_oth_7_1 : ((tables_1_7.drop 68).take 56).all (fun c => su_isCode c || c.before start1.args0 rf_s) = true := by decide +kernel
set_option maxRecDepth 16384 in
theorem rf_oth_7_2 : (((tables_1_7.drop 68).drop 56).take 40).all (fun c => su_isCode c || c.before start1.args0 rf_s) = true := by decide +kernel
set_option maxRecDepth 16384 in
theorem rf_oth_7_3 : ((((tables_1_7.drop 68).drop 56).drop 40).take 52).all (fun c => su_isCode c || c.before start1.args0 rf_s) = true := by decide +kernel
set_option maxRecDepth 16384 in
theorem rf_oth_7_4 : (((((tables_1_7.drop 68).drop 56).drop 40).drop 52)).all (fun c => su_isCode c || c.before start1.args0 rf_s) = true := by decide +kernel
theorem rf_words_7 : ∀ c ∈ tables_1_7, c.before start1.args0 rf_s = true := fun c h => su_words ((start1.su_all_split _ 68 tables_1_7 rf_oth_7_0 (start1.su_all_split _ 56 (tables_1_7.drop 68) rf_oth_7_1 (start1.su_all_split _ 40 ((tables_1_7.drop 68).drop 56) rf_oth_7_2 (start1.su_all_split _ 52 (((tables_1_7.drop 68).drop 56).drop 40) rf_oth_7_3 rf_oth_7_4))))) (by
  rw [start1.codes_are_7]
  exact (List.forall_mem_cons.mpr ⟨rf_code195, (List.forall_mem_cons.mpr ⟨rf_code196, (List.forall_mem_cons.mpr ⟨rf_code197, (List.forall_mem_cons.mpr ⟨rf_code198, (List.forall_mem_cons.mpr ⟨rf_code199, (List.forall_mem_cons.mpr ⟨rf_code200, (List.forall_mem_cons.mpr ⟨rf_code201, (List.forall_mem_cons.mpr ⟨rf_code202, (List.forall_mem_cons.mpr ⟨rf_code203, (List.forall_mem_cons.mpr ⟨rf_code204, (List.forall_mem_cons.mpr ⟨rf_code205, (List.forall_mem_cons.mpr ⟨rf_code206, (List.forall_mem_cons.mpr ⟨rf_code207, (List.forall_mem_cons.mpr ⟨rf_code208, (List.forall_mem_cons.mpr ⟨rf_code209, (List.forall_mem_cons.mpr ⟨rf_code210, (List.forall_mem_cons.mpr ⟨rf_code211, (List.forall_mem_cons.mpr ⟨rf_code212, (List.forall_mem_cons.mpr ⟨rf_code213, (List.forall_mem_cons.mpr ⟨rf_code214, (List.forall_mem_cons.mpr ⟨rf_code215, (List.forall_mem_cons.mpr ⟨rf_code216, (List.forall_mem_cons.mpr ⟨rf_code217, (List.forall_mem_cons.mpr ⟨rf_code218, (List.forall_mem_cons.mpr ⟨rf_code219, (List.forall_mem_cons.mpr ⟨rf_code220, (fun _ h => absurd h List.not_mem_nil)⟩)⟩)⟩)⟩)⟩)⟩)⟩)⟩)⟩)⟩)⟩)⟩)⟩)⟩)⟩)⟩)⟩)⟩)⟩)⟩)⟩)⟩)⟩)⟩)⟩)⟩)) c h
end XW7
