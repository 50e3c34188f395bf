section XW13
set_option maxRecDepth 100000 in
theorem rf_code407 : (Jvm.Cond.code (⟨"RelayHallModel", "longText", "()[B"⟩ : Jvm.MethodName) prog_14_method_9_code 2 (some (.array .byte))).before start1.args0 rf_s = true := su_hand_word (m := ⟨10, 7⟩) (by decide +kernel) rfl (by decide +kernel) (by decide +kernel)
set_option maxRecDepth 100000 in
theorem rf_code408 : (Jvm.Cond.code (⟨"RelayHallModel", "soft", "(LRelayHallModel$Channel;I)V"⟩ : Jvm.MethodName) prog_14_method_33_code 3 none).before start1.args0 rf_s = true := su_hand_word (m := ⟨10, 31⟩) (by decide +kernel) rfl (by decide +kernel) (by decide +kernel)
set_option maxRecDepth 100000 in
theorem rf_code409 : (Jvm.Cond.code (⟨"RelayHallModel", "softAs", "(LRelayHallModel$Channel;III)V"⟩ : Jvm.MethodName) prog_14_method_34_code 5 none).before start1.args0 rf_s = true := su_hand_word (m := ⟨10, 32⟩) (by decide +kernel) rfl (by decide +kernel) (by decide +kernel)
set_option maxRecDepth 100000 in
theorem rf_code410 : (Jvm.Cond.code (⟨"RelayHallModel", "kindOf", "([B)I"⟩ : Jvm.MethodName) prog_14_method_92_code 1 (some .int)).before start1.args0 rf_s = true := su_hand_word (m := ⟨10, 90⟩) (by decide +kernel) rfl (by decide +kernel) (by decide +kernel)
set_option maxRecDepth 100000 in
theorem rf_code411 : (Jvm.Cond.code (⟨"RelayHallModel", "makesExchange", "(LRelayHallModel$Channel;LRelayHallModel$Exchange;[BIILRelayHallModel$Table;)Z"⟩ : Jvm.MethodName) prog_14_method_95_code 9 (some .boolean)).before start1.args0 rf_s = true := su_hand_word (m := ⟨10, 93⟩) (by decide +kernel) rfl (by decide +kernel) (by decide +kernel)
set_option maxRecDepth 100000 in
theorem rf_code412 : (Jvm.Cond.code (⟨"RelayHallModel", "textOf", "(LRelayHallModel$Table;Ljava/lang/String;)[B"⟩ : Jvm.MethodName) prog_14_method_93_code 3 (some (.array .byte))).before start1.args0 rf_s = true := su_hand_word (m := ⟨10, 91⟩) (by decide +kernel) rfl (by decide +kernel) (by decide +kernel)
set_option maxRecDepth 100000 in
theorem rf_code413 : (Jvm.Cond.code (⟨"RelayHallModel$Exchange", "<init>", "()V"⟩ : Jvm.MethodName) prog_22_method_1_code 1 none).before start1.args0 rf_s = true := su_hand_word (m := ⟨28, 0⟩) (by decide +kernel) rfl (by decide +kernel) (by decide +kernel)
set_option maxRecDepth 100000 in
theorem rf_code414 : (Jvm.Cond.code (⟨"RelayHallModel", "deleteExchange", "(LRelayHallModel$Channel;)V"⟩ : Jvm.MethodName) prog_14_method_96_code 5 none).before start1.args0 rf_s = true := su_hand_word (m := ⟨10, 94⟩) (by decide +kernel) rfl (by decide +kernel) (by decide +kernel)
set_option maxRecDepth 100000 in
theorem rf_code415 : (Jvm.Cond.code (⟨"RelayHallModel", "onQueue", "(LRelayHallModel$Channel;)V"⟩ : Jvm.MethodName) prog_14_method_133_code 2 none).before start1.args0 rf_s = true := su_hand_word (m := ⟨10, 131⟩) (by decide +kernel) rfl (by decide +kernel) (by decide +kernel)
set_option maxRecDepth 100000 in
theorem rf_code416 : (Jvm.Cond.code (⟨"RelayHallModel", "declareQueue", "(LRelayHallModel$Channel;)V"⟩ : Jvm.MethodName) prog_14_method_102_code 7 none).before start1.args0 rf_s = true := su_hand_word (m := ⟨10, 100⟩) (by decide +kernel) rfl (by decide +kernel) (by decide +kernel)
set_option maxRecDepth 100000 in
theorem rf_code417 : (Jvm.Cond.code (⟨"RelayHallModel", "passive", "(LRelayHallModel$Channel;LRelayHallModel$Queue;)LRelayHallModel$Queue;"⟩ : Jvm.MethodName) prog_14_method_103_code 3 (some (.object "RelayHallModel$Queue"))).before start1.args0 rf_s = true := su_hand_word (m := ⟨10, 101⟩) (by decide +kernel) rfl (by decide +kernel) (by decide +kernel)
set_option maxRecDepth 100000 in
theorem rf_code418 : (Jvm.Cond.code (⟨"RelayHallModel", "drafted", "(LRelayHallModel$Table;)LRelayHallModel$Queue;"⟩ : Jvm.MethodName) prog_14_method_101_code 3 (some (.object "RelayHallModel$Queue"))).before start1.args0 rf_s = true := su_hand_word (m := ⟨10, 99⟩) (by decide +kernel) rfl (by decide +kernel) (by decide +kernel)
set_option maxRecDepth 100000 in
theorem rf_code419 : (Jvm.Cond.code (⟨"RelayHallModel$Queue", "<init>", "()V"⟩ : Jvm.MethodName) prog_25_method_1_code 1 none).before start1.args0 rf_s = true := su_hand_word (m := ⟨29, 0⟩) (by decide +kernel) rfl (by decide +kernel) (by decide +kernel)
set_option maxRecDepth 100000 in
theorem rf_code420 : (Jvm.Cond.code (⟨"RelayHallModel", "argument", "(LRelayHallModel$Table;Ljava/lang/String;II)I"⟩ : Jvm.MethodName) prog_14_method_99_code 5 (some .int)).before start1.args0 rf_s = true := su_hand_word (m := ⟨10, 97⟩) (by decide +kernel) rfl (by decide +kernel) (by decide +kernel)
set_option maxRecDepth 100000 in
theorem rf_code421 : (Jvm.Cond.code (⟨"RelayHallModel", "wrongText", "(LRelayHallModel$Table;Ljava/lang/String;)Z"⟩ : Jvm.MethodName) prog_14_method_100_code 3 (some .boolean)).before start1.args0 rf_s = true := su_hand_word (m := ⟨10, 98⟩) (by decide +kernel) rfl (by decide +kernel) (by decide +kernel)
set_option maxRecDepth 100000 in
theorem rf_code422 : (Jvm.Cond.code (⟨"RelayHallModel", "declared", "(LRelayHallModel$Channel;[BILRelayHallModel$Queue;)LRelayHallModel$Queue;"⟩ : Jvm.MethodName) prog_14_method_104_code 12 (some (.object "RelayHallModel$Queue"))).before start1.args0 rf_s = true := su_hand_word (m := ⟨10, 102⟩) (by decide +kernel) rfl (by decide +kernel) (by decide +kernel)
set_option maxRecDepth 100000 in
theorem rf_code423 : (Jvm.Cond.code (⟨"RelayHallModel", "numbered", "(Ljava/lang/String;I)[B"⟩ : Jvm.MethodName) prog_14_method_98_code 6 (some (.array .byte))).before start1.args0 rf_s = true := su_hand_word (m := ⟨10, 96⟩) (by decide +kernel) rfl (by decide +kernel) (by decide +kernel)
set_option maxRecDepth 100000 in
theorem rf_code424 : (Jvm.Cond.code (⟨"RelayHallModel", "bind", "(LRelayHallModel$Channel;Z)V"⟩ : Jvm.MethodName) prog_14_method_107_code 11 none).before start1.args0 rf_s = true := su_hand_word (m := ⟨10, 105⟩) (by decide +kernel) rfl (by decide +kernel) (by decide +kernel)
set_option maxRecDepth 100000 in
theorem rf_code425 : (Jvm.Cond.code (⟨"RelayHallModel", "asked", "(LRelayHallModel$Channel;[B)LRelayHallModel$Queue;"⟩ : Jvm.MethodName) prog_14_method_97_code 4 (some (.object "RelayHallModel$Queue"))).before start1.args0 rf_s = true := su_hand_word (m := ⟨10, 95⟩) (by decide +kernel) rfl (by decide +kernel) (by decide +kernel)
set_option maxRecDepth 100000 in
theorem rf_code426 : (Jvm.Cond.code (⟨"RelayHallModel", "boundTo", "(LRelayHallModel$Channel;[B)LRelayHallModel$Exchange;"⟩ : Jvm.MethodName) prog_14_method_105_code 4 (some (.object "RelayHallModel$Exchange"))).before start1.args0 rf_s = true := su_hand_word (m := ⟨10, 103⟩) (by decide +kernel) rfl (by decide +kernel) (by decide +kernel)
set_option maxRecDepth 100000 in
theorem rf_code427 : (Jvm.Cond.code (⟨"RelayHallModel", "findBinding", "(LRelayHallModel$Queue;LRelayHallModel$Exchange;[BLRelayHallModel$Table;)I"⟩ : Jvm.MethodName) prog_14_method_106_code 6 (some .int)).before start1.args0 rf_s = true := su_hand_word (m := ⟨10, 104⟩) (by decide +kernel) rfl (by decide +kernel) (by decide +kernel)
set_option maxRecDepth 100000 in
theorem rf_code428 : (Jvm.Cond.code (⟨"RelayHallModel", "alike", "(LRelayHallModel$Table;LRelayHallModel$Table;)Z"⟩ : Jvm.MethodName) prog_14_method_17_code 2 (some .boolean)).before start1.args0 rf_s = true := su_hand_word (m := ⟨10, 15⟩) (by decide +kernel) rfl (by decide +kernel) (by decide +kernel)
set_option maxRecDepth 100000 in
theorem rf_code429 : (Jvm.Cond.code (⟨"RelayHallModel", "within", "(LRelayHallModel$Table;LRelayHallModel$Table;)Z"⟩ : Jvm.MethodName) prog_14_method_16_code 3 (some .boolean)).before start1.args0 rf_s = true := su_hand_word (m := ⟨10, 14⟩) (by decide +kernel) rfl (by decide +kernel) (by decide +kernel)
set_option maxRecDepth 100000 in
theorem rf_code430 : (Jvm.Cond.code (⟨"RelayHallModel", "addBinding", "(LRelayHallModel$Queue;LRelayHallModel$Exchange;[BLRelayHallModel$Table;)V"⟩ : Jvm.MethodName) prog_14_method_108_code 6 none).before start1.args0 rf_s = true := su_hand_word (m := ⟨10, 106⟩) (by decide +kernel) rfl (by decide +kernel) (by decide +kernel)
set_option maxRecDepth 100000 in
theorem rf_code431 : (Jvm.Cond.code (⟨"RelayHallModel$Binding", "<init>", "()V"⟩ : Jvm.MethodName) prog_15_method_1_code 1 none).before start1.args0 rf_s = true := su_hand_word (m := ⟨30, 0⟩) (by decide +kernel) rfl (by decide +kernel) (by decide +kernel)
set_option maxRecDepth 100000 in
theorem rf_code432 : (Jvm.Cond.code (⟨"RelayHallModel", "dropBinding", "(I)V"⟩ : Jvm.MethodName) prog_14_method_109_code 3 none).before start1.args0 rf_s = true := su_hand_word (m := ⟨10, 107⟩) (by decide +kernel) rfl (by decide +kernel) (by decide +kernel)
set_option maxRecDepth 100000 in
theorem rf_code433 : (Jvm.Cond.code (⟨"RelayHallModel", "purge", "(LRelayHallModel$Channel;)V"⟩ : Jvm.MethodName) prog_14_method_110_code 7 none).before start1.args0 rf_s = true := su_hand_word (m := ⟨10, 108⟩) (by decide +kernel) rfl (by decide +kernel) (by decide +kernel)
set_option maxRecDepth 100000 in
theorem rf_code434 : (Jvm.Cond.code (⟨"RelayHallModel", "deleteQueue", "(LRelayHallModel$Channel;)V"⟩ : Jvm.MethodName) prog_14_method_111_code 6 none).before start1.args0 rf_s = true := su_hand_word (m := ⟨10, 109⟩) (by decide +kernel) rfl (by decide +kernel) (by decide +kernel)
set_option maxRecDepth 100000 in
theorem rf_code435 : (Jvm.Cond.code (⟨"RelayHallModel", "onMessage", "(LRelayHallModel$Channel;)V"⟩ : Jvm.MethodName) prog_14_method_134_code 2 none).before start1.args0 rf_s = true := su_hand_word (m := ⟨10, 132⟩) (by decide +kernel) rfl (by decide +kernel) (by decide +kernel)
set_option maxRecDepth 100000 in
theorem rf_code436 : (Jvm.Cond.code (⟨"RelayHallModel", "qos", "(LRelayHallModel$Channel;)V"⟩ : Jvm.MethodName) prog_14_method_112_code 4 none).before start1.args0 rf_s = true := su_hand_word (m := ⟨10, 110⟩) (by decide +kernel) rfl (by decide +kernel) (by decide +kernel)
set_option maxRecDepth 100000 in
theorem rf_code437 : (Jvm.Cond.code (⟨"RelayHallModel", "consume", "(LRelayHallModel$Channel;)V"⟩ : Jvm.MethodName) prog_14_method_115_code 7 none).before start1.args0 rf_s = true := su_hand_word (m := ⟨10, 113⟩) (by decide +kernel) rfl (by decide +kernel) (by decide +kernel)
set_option maxRecDepth 100000 in
theorem rf_code438 : (Jvm.Cond.code (⟨"RelayHallModel", "exclusively", "(LRelayHallModel$Queue;)Z"⟩ : Jvm.MethodName) prog_14_method_114_code 3 (some .boolean)).before start1.args0 rf_s = true := su_hand_word (m := ⟨10, 112⟩) (by decide +kernel) rfl (by decide +kernel) (by decide +kernel)
set_option maxRecDepth 100000 in
theorem rf_code439 : (Jvm.Cond.code (⟨"RelayHallModel", "consumer", "(LRelayHallModel$Channel;[B)LRelayHallModel$Consumer;"⟩ : Jvm.MethodName) prog_14_method_113_code 4 (some (.object "RelayHallModel$Consumer"))).before start1.args0 rf_s = true := su_hand_word (m := ⟨10, 111⟩) (by decide +kernel) rfl (by decide +kernel) (by decide +kernel)
set_option maxRecDepth 100000 in
theorem rf_code440 : (Jvm.Cond.code (⟨"RelayHallModel$Consumer", "<init>", "()V"⟩ : Jvm.MethodName) prog_18_method_1_code 1 none).before start1.args0 rf_s = true := su_hand_word (m := ⟨31, 0⟩) (by decide +kernel) rfl (by decide +kernel) (by decide +kernel)
set_option maxRecDepth 16384 in
theorem rf_oth_13_0 : (tables_1_13.take 35).all (fun c => su_isCode c || c.before start1.args0 rf_s) = true := by decide +kernel
set_option maxRecDepth 16384 in
theorem rf_oth_13_1 : ((tables_1_13.drop 35).take 51).all (fun c => su_isCode c || c.before start1.args0 rf_s) = true := by decide +kernel
set_option maxRecDepth 16384 in
theorem rf_oth_13_2 : (((tables_1_13.drop 35).drop 51).take 58).all (fun c => su_isCode c || c.before start1.args0 rf_s) = true := by decide +kernel
set_option maxRecDepth 16384 in
theorem rf_oth_13_3 : ((((tables_1_13.drop 35).drop 51).drop 58).take 48).all (fun c => su_isCode c || c.before start1.args0 rf_s) = true := by decide +kernel
set_option maxRecDepth 16384 in
theorem rf_oth_13_4 : (((((tables_1_13.drop 35).drop 51).drop 58).drop 48).take 36).all (fun c => su_isCode c || c.before start1.args0 rf_s) = true := by decide +kernel
set_option maxRecDepth 16384 in
theorem rf_oth_13_5 : ((((((tables_1_13.drop 35).drop 51).drop 58).drop 48).drop 36)).all (fun c => su_isCode c || c.before start1.args0 rf_s) = true := by decide +kernel
theorem rf_words_13 : ∀ c ∈ tables_1_13, c.before start1.args0 rf_s = true := fun c h => su_words ((start1.su_all_split _ 35 tables_1_13 rf_oth_13_0 (start1.su_all_split _ 51 (tables_1_13.drop 35) rf_oth_13_1 (start1.su_all_split _ 58 ((tables_1_13.drop 35).drop 51) rf_oth_13_2 (start1.su_all_split _ 48 (((tables_1_13.drop 35).drop 51).drop 58) rf_oth_13_3 (start1.su_all_split _ 36 ((((tables_1_13.drop 35).drop 51).drop 58).drop 48) rf_oth_13_4 rf_oth_13_5)))))) (by
  rw [start1.codes_are_13]
  exact (List.forall_mem_cons.mpr ⟨rf_code407, (List.forall_mem_cons.mpr ⟨rf_code408, (List.forall_mem_cons.mpr ⟨rf_code409, (List.forall_mem_cons.mpr ⟨rf_code410, (List.forall_mem_cons.mpr ⟨rf_code411, (List.forall_mem_cons.mpr ⟨rf_code412, (List.forall_mem_cons.mpr ⟨rf_code413, (List.forall_mem_cons.mpr ⟨rf_code414, (List.forall_mem_cons.mpr ⟨rf_code415, (List.forall_mem_cons.mpr ⟨rf_code416, (List.forall_mem_cons.mpr ⟨rf_code417, (List.forall_mem_cons.mpr ⟨rf_code418, (List.forall_mem_cons.mpr ⟨rf_code419, (List.forall_mem_cons.mpr ⟨rf_code420, (List.forall_mem_cons.mpr ⟨rf_code421, (List.forall_mem_cons.mpr ⟨rf_code422, (List.forall_mem_cons.mpr ⟨rf_code423, (List.forall_mem_cons.mpr ⟨rf_code424, (List.forall_mem_cons.mpr ⟨rf_code425, (List.forall_mem_cons.mpr ⟨rf_code426, (List.forall_mem_cons.mpr ⟨rf_code427, (List.forall_mem_cons.mpr ⟨rf_code428, (List.forall_mem_cons.mpr ⟨rf_code429, (List.forall_mem_cons.mpr ⟨rf_code430, (List.forall_mem_cons.mpr ⟨rf_code431, (List.forall_mem_cons.mpr ⟨rf_code432, (List.forall_mem_cons.mpr ⟨rf_code433, (List.forall_mem_cons.mpr ⟨rf_code434, (List.forall_mem_cons.mpr ⟨rf_code435, (List.forall_mem_cons.mpr ⟨rf_code436, (List.forall_mem_cons.mpr ⟨rf_code437, (List.forall_mem_cons.mpr ⟨rf_code438, (List.forall_mem_cons.mpr ⟨rf_code439, (List.forall_mem_cons.mpr ⟨rf_code440, (fun _ h => absurd h List.not_mem_nil)⟩)⟩)⟩)⟩)⟩)⟩)⟩)⟩)⟩)⟩)⟩)⟩)⟩)⟩)⟩)⟩)⟩)⟩)⟩)⟩)⟩)⟩)⟩)⟩)⟩)⟩)⟩)⟩)⟩)⟩)⟩)⟩)⟩)⟩)) c h
end XW13
