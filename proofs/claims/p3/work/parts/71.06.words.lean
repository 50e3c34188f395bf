section XW6
set_option maxRecDepth 100000 in
theorem rf_code166 : (Jvm.Cond.code (⟨"RelayHall", "removeExchange", "(LRelayHall$Exchange;)V"⟩ : Jvm.MethodName) prog_1_method_63_code 4 none).before start1.args0 rf_s = true := su_hand_word (m := ⟨2, 62⟩) (by decide +kernel) rfl (by decide +kernel) (by decide +kernel)
set_option maxRecDepth 100000 in
theorem rf_code167 : (Jvm.Cond.code (⟨"java/util/ArrayList", "remove", "(I)Ljava/lang/Object;"⟩ : Jvm.MethodName) prog_50_method_29_code 4 (some (.object "java/lang/Object"))).before start1.args0 rf_s = true := su_hand_word (m := ⟨57, 10⟩) (by decide +kernel) rfl (by decide +kernel) (by decide +kernel)
set_option maxRecDepth 100000 in
theorem rf_code168 : (Jvm.Cond.code (⟨"java/util/ArrayList", "fastRemove", "([Ljava/lang/Object;I)V"⟩ : Jvm.MethodName) prog_50_method_39_code 4 none).before start1.args0 rf_s = true := su_hand_word (m := ⟨57, 11⟩) (by decide +kernel) rfl (by decide +kernel) (by decide +kernel)
set_option maxRecDepth 100000 in
theorem rf_code169 : (Jvm.Cond.code (⟨"RelayHall", "declareQueue", "(LRelayHall$Channel;)V"⟩ : Jvm.MethodName) prog_1_method_64_code 7 none).before start1.args0 rf_s = true := su_hand_word (m := ⟨2, 63⟩) (by decide +kernel) rfl (by decide +kernel) (by decide +kernel)
set_option maxRecDepth 100000 in
theorem rf_code170 : (Jvm.Cond.code (⟨"RelayHall", "lookedFor", "(LRelayHall$Channel;Ljava/lang/String;)LRelayHall$Queue;"⟩ : Jvm.MethodName) prog_1_method_65_code 4 (some (.object "RelayHall$Queue"))).before start1.args0 rf_s = true := su_hand_word (m := ⟨2, 64⟩) (by decide +kernel) rfl (by decide +kernel) (by decide +kernel)
set_option maxRecDepth 100000 in
theorem rf_code171 : (Jvm.Cond.code (⟨"RelayHall", "findQueue", "(Ljava/lang/String;)LRelayHall$Queue;"⟩ : Jvm.MethodName) prog_1_method_20_code 3 (some (.object "RelayHall$Queue"))).before start1.args0 rf_s = true := su_hand_word (m := ⟨2, 19⟩) (by decide +kernel) rfl (by decide +kernel) (by decide +kernel)
set_option maxRecDepth 100000 in
theorem rf_code172 : (Jvm.Cond.code (⟨"RelayHall$Queue", "isOpenTo", "(LRelayHall$Connection;)Z"⟩ : Jvm.MethodName) prog_10_method_2_code 2 (some .boolean)).before start1.args0 rf_s = true := su_hand_word (m := ⟨43, 1⟩) (by decide +kernel) rfl (by decide +kernel) (by decide +kernel)
set_option maxRecDepth 100000 in
theorem rf_code173 : (Jvm.Cond.code (⟨"RelayHall", "makeQueue", "(LRelayHall$Channel;Ljava/lang/String;ILRelayHall$Table;)LRelayHall$Queue;"⟩ : Jvm.MethodName) prog_1_method_67_code 9 (some (.object "RelayHall$Queue"))).before start1.args0 rf_s = true := su_hand_word (m := ⟨2, 66⟩) (by decide +kernel) rfl (by decide +kernel) (by decide +kernel)
set_option maxRecDepth 100000 in
theorem rf_code174 : (Jvm.Cond.code (⟨"RelayHall", "freeNumber", "()I"⟩ : Jvm.MethodName) prog_1_method_69_code 3 (some .int)).before start1.args0 rf_s = true := su_hand_word (m := ⟨2, 68⟩) (by decide +kernel) rfl (by decide +kernel) (by decide +kernel)
set_option maxRecDepth 100000 in
theorem rf_code175 : (Jvm.Cond.code (⟨"RelayHall", "numbered", "(Ljava/lang/String;I)Ljava/lang/String;"⟩ : Jvm.MethodName) prog_1_method_68_code 3 (some (.object "java/lang/String"))).before start1.args0 rf_s = true := su_hand_word (m := ⟨2, 67⟩) (by decide +kernel) rfl (by decide +kernel) (by decide +kernel)
set_option maxRecDepth 100000 in
theorem rf_code176 : (Jvm.Cond.code (⟨"java/lang/StringBuilder", "setLength", "(I)V"⟩ : Jvm.MethodName) prog_42_method_89_code 2 none).before start1.args0 rf_s = true := su_hand_word (m := ⟨39, 4⟩) (by decide +kernel) rfl (by decide +kernel) (by decide +kernel)
set_option maxRecDepth 100000 in
theorem rf_code177 : (Jvm.Cond.code (⟨"java/lang/AbstractStringBuilder", "setLength", "(I)V"⟩ : Jvm.MethodName) prog_29_method_13_code 2 none).before start1.args0 rf_s = true := su_hand_word (m := ⟨6, 5⟩) (by decide +kernel) rfl (by decide +kernel) (by decide +kernel)
set_option maxRecDepth 100000 in
theorem rf_code178 : (Jvm.Cond.code (⟨"java/lang/StringIndexOutOfBoundsException", "<init>", "(I)V"⟩ : Jvm.MethodName) prog_43_method_3_code 2 none).before start1.args0 rf_s = true := su_hand_word (m := ⟨58, 0⟩) (by decide +kernel) rfl (by decide +kernel) (by decide +kernel)
set_option maxRecDepth 100000 in
theorem rf_code179 : (Jvm.Cond.code (⟨"java/lang/IndexOutOfBoundsException", "<init>", "(Ljava/lang/String;)V"⟩ : Jvm.MethodName) prog_34_method_2_code 2 none).before start1.args0 rf_s = true := su_hand_word (m := ⟨55, 1⟩) (by decide +kernel) rfl (by decide +kernel) (by decide +kernel)
set_option maxRecDepth 100000 in
theorem rf_code180 : (Jvm.Cond.code (⟨"java/lang/StringLatin1", "fillNull", "([BII)V"⟩ : Jvm.MethodName) prog_44_method_48_code 3 none).before start1.args0 rf_s = true := su_hand_word (m := ⟨19, 3⟩) (by decide +kernel) rfl (by decide +kernel) (by decide +kernel)
set_option maxRecDepth 100000 in
theorem rf_code181 : (Jvm.Cond.code (⟨"java/util/Arrays", "fill", "([BIIB)V"⟩ : Jvm.MethodName) prog_51_method_110_code 5 none).before start1.args0 rf_s = true := su_hand_word (m := ⟨15, 1⟩) (by decide +kernel) rfl (by decide +kernel) (by decide +kernel)
set_option maxRecDepth 100000 in
theorem rf_code182 : (Jvm.Cond.code (⟨"java/util/Arrays", "rangeCheck", "(III)V"⟩ : Jvm.MethodName) prog_51_method_30_code 3 none).before start1.args0 rf_s = true := su_hand_word (m := ⟨15, 0⟩) (by decide +kernel) rfl (by decide +kernel) (by decide +kernel)
set_option maxRecDepth 100000 in
theorem rf_code183 : (Jvm.Cond.code (⟨"java/lang/ArrayIndexOutOfBoundsException", "<init>", "(I)V"⟩ : Jvm.MethodName) prog_30_method_3_code 2 none).before start1.args0 rf_s = true := su_hand_word (m := ⟨59, 0⟩) (by decide +kernel) rfl (by decide +kernel) (by decide +kernel)
set_option maxRecDepth 100000 in
theorem rf_code184 : (Jvm.Cond.code (⟨"java/lang/StringUTF16", "fillNull", "([BII)V"⟩ : Jvm.MethodName) prog_45_method_70_code 3 none).before start1.args0 rf_s = true := su_hand_word (m := ⟨7, 12⟩) (by decide +kernel) rfl (by decide +kernel) (by decide +kernel)
set_option maxRecDepth 100000 in
theorem rf_code185 : (Jvm.Cond.code (⟨"RelayHall$Queue", "<init>", "(Ljava/lang/String;ILRelayHall$Connection;)V"⟩ : Jvm.MethodName) prog_10_method_1_code 4 none).before start1.args0 rf_s = true := su_hand_word (m := ⟨43, 0⟩) (by decide +kernel) rfl (by decide +kernel) (by decide +kernel)
set_option maxRecDepth 100000 in
theorem rf_code186 : (Jvm.Cond.code (⟨"RelayHall$Queue", "takeArguments", "(LRelayHall$Table;)Z"⟩ : Jvm.MethodName) prog_10_method_3_code 4 (some .boolean)).before start1.args0 rf_s = true := su_hand_word (m := ⟨43, 2⟩) (by decide +kernel) rfl (by decide +kernel) (by decide +kernel)
set_option maxRecDepth 100000 in
theorem rf_code187 : (Jvm.Cond.code (⟨"RelayHall$Table", "numberOf", "(Ljava/lang/String;II)I"⟩ : Jvm.MethodName) prog_12_method_8_code 6 (some .int)).before start1.args0 rf_s = true := su_hand_word (m := ⟨18, 7⟩) (by decide +kernel) rfl (by decide +kernel) (by decide +kernel)
set_option maxRecDepth 100000 in
theorem rf_code188 : (Jvm.Cond.code (⟨"RelayHall$Table", "isOtherThan", "(CLjava/lang/String;)Z"⟩ : Jvm.MethodName) prog_12_method_7_code 4 (some .boolean)).before start1.args0 rf_s = true := su_hand_word (m := ⟨18, 6⟩) (by decide +kernel) rfl (by decide +kernel) (by decide +kernel)
set_option maxRecDepth 100000 in
theorem rf_code189 : (Jvm.Cond.code (⟨"RelayHall$Queue", "isLike", "(LRelayHall$Queue;)Z"⟩ : Jvm.MethodName) prog_10_method_4_code 2 (some .boolean)).before start1.args0 rf_s = true := su_hand_word (m := ⟨43, 3⟩) (by decide +kernel) rfl (by decide +kernel) (by decide +kernel)
set_option maxRecDepth 100000 in
theorem rf_code190 : (Jvm.Cond.code (⟨"RelayHall$Connection", "text", "(Ljava/lang/String;)V"⟩ : Jvm.MethodName) prog_4_method_15_code 3 none).before start1.args0 rf_s = true := su_hand_word (m := ⟨8, 14⟩) (by decide +kernel) rfl (by decide +kernel) (by decide +kernel)
set_option maxRecDepth 100000 in
theorem rf_code191 : (Jvm.Cond.code (⟨"RelayHall", "consumersOf", "(LRelayHall$Queue;)I"⟩ : Jvm.MethodName) prog_1_method_23_code 4 (some .int)).before start1.args0 rf_s = true := su_hand_word (m := ⟨2, 22⟩) (by decide +kernel) rfl (by decide +kernel) (by decide +kernel)
set_option maxRecDepth 100000 in
theorem rf_code192 : (Jvm.Cond.code (⟨"RelayHall", "bind", "(LRelayHall$Channel;)V"⟩ : Jvm.MethodName) prog_1_method_70_code 10 none).before start1.args0 rf_s = true := su_hand_word (m := ⟨2, 69⟩) (by decide +kernel) rfl (by decide +kernel) (by decide +kernel)
set_option maxRecDepth 100000 in
theorem rf_code193 : (Jvm.Cond.code (⟨"RelayHall", "readQueueName", "(LRelayHall$Channel;)Ljava/lang/String;"⟩ : Jvm.MethodName) prog_1_method_66_code 3 (some (.object "java/lang/String"))).before start1.args0 rf_s = true := su_hand_word (m := ⟨2, 65⟩) (by decide +kernel) rfl (by decide +kernel) (by decide +kernel)
set_option maxRecDepth 100000 in
theorem rf_code194 : (Jvm.Cond.code (⟨"RelayHall$Binding", "<init>", "(LRelayHall$Exchange;LRelayHall$Queue;Ljava/lang/String;LRelayHall$Table;)V"⟩ : Jvm.MethodName) prog_2_method_1_code 5 none).before start1.args0 rf_s = true := su_hand_word (m := ⟨44, 0⟩) (by decide +kernel) rfl (by decide +kernel) (by decide +kernel)
set_option maxRecDepth 16384 in
theorem rf_oth_6_0 : (tables_1_6.take 74).all (fun c => su_isCode c || c.before start1.args0 rf_s) = true := by decide +kernel
set_option maxRecDepth 16384 in
theorem rf_oth_6_1 : ((tables_1_6.drop 74).take 63).all (fun c => su_isCode c || c.before start1.args0 rf_s) = true := by decide +kernel
set_option maxRecDepth 16384 in
theorem rf_oth_6_2 : (((tables_1_6.drop 74).drop 63).take 80).all (fun c => su_isCode c || c.before start1.args0 rf_s) = true := by decide +kernel
set_option maxRecDepth 16384 in
theorem rf_oth_6_3 : ((((tables_1_6.drop 74).drop 63).drop 80)).all (fun c => su_isCode c || c.before start1.args0 rf_s) = true := by decide +kernel
theorem rf_words_6 : ∀ c ∈ tables_1_6, c.before start1.args0 rf_s = true := fun c h => su_words ((start1.su_all_split _ 74 tables_1_6 rf_oth_6_0 (start1.su_all_split _ 63 (tables_1_6.drop 74) rf_oth_6_1 (start1.su_all_split _ 80 ((tables_1_6.drop 74).drop 63) rf_oth_6_2 rf_oth_6_3)))) (by
  rw [start1.codes_are_6]
  exact (List.forall_mem_cons.mpr ⟨rf_code166, (List.forall_mem_cons.mpr ⟨rf_code167, (List.forall_mem_cons.mpr ⟨rf_code168, (List.forall_mem_cons.mpr ⟨rf_code169, (List.forall_mem_cons.mpr ⟨rf_code170, (List.forall_mem_cons.mpr ⟨rf_code171, (List.forall_mem_cons.mpr ⟨rf_code172, (List.forall_mem_cons.mpr ⟨rf_code173, (List.forall_mem_cons.mpr ⟨rf_code174, (List.forall_mem_cons.mpr ⟨rf_code175, (List.forall_mem_cons.mpr ⟨rf_code176, (List.forall_mem_cons.mpr ⟨rf_code177, (List.forall_mem_cons.mpr ⟨rf_code178, (List.forall_mem_cons.mpr ⟨rf_code179, (List.forall_mem_cons.mpr ⟨rf_code180, (List.forall_mem_cons.mpr ⟨rf_code181, (List.forall_mem_cons.mpr ⟨rf_code182, (List.forall_mem_cons.mpr ⟨rf_code183, (List.forall_mem_cons.mpr ⟨rf_code184, (List.forall_mem_cons.mpr ⟨rf_code185, (List.forall_mem_cons.mpr ⟨rf_code186, (List.forall_mem_cons.mpr ⟨rf_code187, (List.forall_mem_cons.mpr ⟨rf_code188, (List.forall_mem_cons.mpr ⟨rf_code189, (List.forall_mem_cons.mpr ⟨rf_code190, (List.forall_mem_cons.mpr ⟨rf_code191, (List.forall_mem_cons.mpr ⟨rf_code192, (List.forall_mem_cons.mpr ⟨rf_code193, (List.forall_mem_cons.mpr ⟨rf_code194, (fun _ h => absurd h List.not_mem_nil)⟩)⟩)⟩)⟩)⟩)⟩)⟩)⟩)⟩)⟩)⟩)⟩)⟩)⟩)⟩)⟩)⟩)⟩)⟩)⟩)⟩)⟩)⟩)⟩)⟩)⟩)⟩)⟩)⟩)) c h
end XW6
