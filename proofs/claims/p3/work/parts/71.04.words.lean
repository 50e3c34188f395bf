section XW4
set_option maxRecDepth 100000 in
theorem rf_code72 : (Jvm.Cond.code (⟨"RelayHall$Reader", "done", "()Z"⟩ : Jvm.MethodName) prog_11_method_11_code 1 (some .boolean)).before start1.args0 rf_s = true := su_hand_word (m := ⟨5, 10⟩) (by decide +kernel) rfl (by decide +kernel) (by decide +kernel)
set_option maxRecDepth 100000 in
theorem rf_code73 : (Jvm.Cond.code (⟨"RelayHall", "takeTuning", "(LRelayHall$Connection;)V"⟩ : Jvm.MethodName) prog_1_method_47_code 6 none).before start1.args0 rf_s = true := su_hand_word (m := ⟨2, 46⟩) (by decide +kernel) rfl (by decide +kernel) (by decide +kernel)
set_option maxRecDepth 100000 in
theorem rf_code74 : (Jvm.Cond.code (⟨"RelayHall$Reader", "u16", "()I"⟩ : Jvm.MethodName) prog_11_method_5_code 1 (some .int)).before start1.args0 rf_s = true := su_hand_word (m := ⟨5, 4⟩) (by decide +kernel) rfl (by decide +kernel) (by decide +kernel)
set_option maxRecDepth 100000 in
theorem rf_code75 : (Jvm.Cond.code (⟨"RelayHall$Reader", "u32", "()J"⟩ : Jvm.MethodName) prog_11_method_6_code 1 (some .long)).before start1.args0 rf_s = true := su_hand_word (m := ⟨5, 5⟩) (by decide +kernel) rfl (by decide +kernel) (by decide +kernel)
set_option maxRecDepth 100000 in
theorem rf_code76 : (Jvm.Cond.code (⟨"RelayHall", "takeOpening", "(LRelayHall$Connection;)V"⟩ : Jvm.MethodName) prog_1_method_48_code 2 none).before start1.args0 rf_s = true := su_hand_word (m := ⟨2, 47⟩) (by decide +kernel) rfl (by decide +kernel) (by decide +kernel)
set_option maxRecDepth 100000 in
theorem rf_code77 : (Jvm.Cond.code (⟨"RelayHall", "takeWhileEnding", "(LRelayHall$Channel;)V"⟩ : Jvm.MethodName) prog_1_method_50_code 2 none).before start1.args0 rf_s = true := su_hand_word (m := ⟨2, 49⟩) (by decide +kernel) rfl (by decide +kernel) (by decide +kernel)
set_option maxRecDepth 100000 in
theorem rf_code78 : (Jvm.Cond.code (⟨"RelayHall", "faultOf", "(LRelayHall$Channel;)I"⟩ : Jvm.MethodName) prog_1_method_51_code 3 (some .int)).before start1.args0 rf_s = true := su_hand_word (m := ⟨2, 50⟩) (by decide +kernel) rfl (by decide +kernel) (by decide +kernel)
set_option maxRecDepth 100000 in
theorem rf_code79 : (Jvm.Cond.code (⟨"RelayHall", "faultOfMethod", "(LRelayHall$Channel;)I"⟩ : Jvm.MethodName) prog_1_method_52_code 3 (some .int)).before start1.args0 rf_s = true := su_hand_word (m := ⟨2, 51⟩) (by decide +kernel) rfl (by decide +kernel) (by decide +kernel)
set_option maxRecDepth 100000 in
theorem rf_code80 : (Jvm.Cond.code (⟨"RelayHall", "perform", "(LRelayHall$Channel;)V"⟩ : Jvm.MethodName) prog_1_method_53_code 2 none).before start1.args0 rf_s = true := su_hand_word (m := ⟨2, 52⟩) (by decide +kernel) rfl (by decide +kernel) (by decide +kernel)
set_option maxRecDepth 100000 in
theorem rf_code81 : (Jvm.Cond.code (⟨"RelayHall", "closeHall", "(LRelayHall$Channel;)V"⟩ : Jvm.MethodName) prog_1_method_55_code 2 none).before start1.args0 rf_s = true := su_hand_word (m := ⟨2, 54⟩) (by decide +kernel) rfl (by decide +kernel) (by decide +kernel)
set_option maxRecDepth 100000 in
theorem rf_code82 : (Jvm.Cond.code (⟨"RelayHall", "skipCloseArguments", "()V"⟩ : Jvm.MethodName) prog_1_method_54_code 1 none).before start1.args0 rf_s = true := su_hand_word (m := ⟨2, 53⟩) (by decide +kernel) rfl (by decide +kernel) (by decide +kernel)
set_option maxRecDepth 100000 in
theorem rf_code83 : (Jvm.Cond.code (⟨"RelayHall", "argumentsEnd", "(LRelayHall$Channel;)Z"⟩ : Jvm.MethodName) prog_1_method_37_code 2 (some .boolean)).before start1.args0 rf_s = true := su_hand_word (m := ⟨2, 36⟩) (by decide +kernel) rfl (by decide +kernel) (by decide +kernel)
set_option maxRecDepth 100000 in
theorem rf_code84 : (Jvm.Cond.code (⟨"RelayHall", "openChannel", "(LRelayHall$Channel;)V"⟩ : Jvm.MethodName) prog_1_method_56_code 2 none).before start1.args0 rf_s = true := su_hand_word (m := ⟨2, 55⟩) (by decide +kernel) rfl (by decide +kernel) (by decide +kernel)
set_option maxRecDepth 100000 in
theorem rf_code85 : (Jvm.Cond.code (⟨"RelayHall$Channel", "restart", "()V"⟩ : Jvm.MethodName) prog_3_method_2_code 1 none).before start1.args0 rf_s = true := su_hand_word (m := ⟨9, 1⟩) (by decide +kernel) rfl (by decide +kernel) (by decide +kernel)
set_option maxRecDepth 100000 in
theorem rf_code86 : (Jvm.Cond.code (⟨"RelayHall$Channel", "forget", "()V"⟩ : Jvm.MethodName) prog_3_method_3_code 1 none).before start1.args0 rf_s = true := su_hand_word (m := ⟨9, 2⟩) (by decide +kernel) rfl (by decide +kernel) (by decide +kernel)
set_option maxRecDepth 100000 in
theorem rf_code87 : (Jvm.Cond.code (⟨"java/util/ArrayList", "clear", "()V"⟩ : Jvm.MethodName) prog_50_method_40_code 4 none).before start1.args0 rf_s = true := su_hand_word (m := ⟨57, 12⟩) (by decide +kernel) rfl (by decide +kernel) (by decide +kernel)
set_option maxRecDepth 100000 in
theorem rf_code88 : (Jvm.Cond.code (⟨"RelayHall", "flow", "(LRelayHall$Channel;)V"⟩ : Jvm.MethodName) prog_1_method_57_code 3 none).before start1.args0 rf_s = true := su_hand_word (m := ⟨2, 56⟩) (by decide +kernel) rfl (by decide +kernel) (by decide +kernel)
set_option maxRecDepth 100000 in
theorem rf_code89 : (Jvm.Cond.code (⟨"RelayHall", "closeChannel", "(LRelayHall$Channel;)V"⟩ : Jvm.MethodName) prog_1_method_58_code 2 none).before start1.args0 rf_s = true := su_hand_word (m := ⟨2, 57⟩) (by decide +kernel) rfl (by decide +kernel) (by decide +kernel)
set_option maxRecDepth 100000 in
theorem rf_code90 : (Jvm.Cond.code (⟨"RelayHall", "declareExchange", "(LRelayHall$Channel;)V"⟩ : Jvm.MethodName) prog_1_method_59_code 7 none).before start1.args0 rf_s = true := su_hand_word (m := ⟨2, 58⟩) (by decide +kernel) rfl (by decide +kernel) (by decide +kernel)
set_option maxRecDepth 100000 in
theorem rf_code91 : (Jvm.Cond.code (⟨"RelayHall$Reader", "table", "()LRelayHall$Table;"⟩ : Jvm.MethodName) prog_11_method_9_code 2 (some (.object "RelayHall$Table"))).before start1.args0 rf_s = true := su_hand_word (m := ⟨5, 8⟩) (by decide +kernel) rfl (by decide +kernel) (by decide +kernel)
set_option maxRecDepth 100000 in
theorem rf_code92 : (Jvm.Cond.code (⟨"RelayHall$Table", "<init>", "(Ljava/lang/String;)V"⟩ : Jvm.MethodName) prog_12_method_1_code 2 none).before start1.args0 rf_s = true := su_hand_word (m := ⟨18, 0⟩) (by decide +kernel) rfl (by decide +kernel) (by decide +kernel)
set_option maxRecDepth 100000 in
theorem rf_code93 : (Jvm.Cond.code (⟨"java/lang/String", "length", "()I"⟩ : Jvm.MethodName) prog_41_method_54_code 1 (some .int)).before start1.args0 rf_s = true := su_hand_word (m := ⟨40, 2⟩) (by decide +kernel) rfl (by decide +kernel) (by decide +kernel)
set_option maxRecDepth 100000 in
theorem rf_code94 : (Jvm.Cond.code (⟨"java/lang/String", "coder", "()B"⟩ : Jvm.MethodName) prog_41_method_152_code 1 (some .byte)).before start1.args0 rf_s = true := su_hand_word (m := ⟨40, 11⟩) (by decide +kernel) rfl (by decide +kernel) (by decide +kernel)
set_option maxRecDepth 100000 in
theorem rf_code95 : (Jvm.Cond.code (⟨"RelayHall$Table", "scan", "()Z"⟩ : Jvm.MethodName) prog_12_method_2_code 6 (some .boolean)).before start1.args0 rf_s = true := su_hand_word (m := ⟨18, 1⟩) (by decide +kernel) rfl (by decide +kernel) (by decide +kernel)
set_option maxRecDepth 100000 in
theorem rf_code96 : (Jvm.Cond.code (⟨"java/lang/String", "charAt", "(I)C"⟩ : Jvm.MethodName) prog_41_method_56_code 2 (some .char)).before start1.args0 rf_s = true := su_hand_word (m := ⟨40, 4⟩) (by decide +kernel) rfl (by decide +kernel) (by decide +kernel)
set_option maxRecDepth 100000 in
theorem rf_code97 : (Jvm.Cond.code (⟨"java/lang/String", "isLatin1", "()Z"⟩ : Jvm.MethodName) prog_41_method_154_code 1 (some .boolean)).before start1.args0 rf_s = true := su_hand_word (m := ⟨40, 12⟩) (by decide +kernel) rfl (by decide +kernel) (by decide +kernel)
set_option maxRecDepth 100000 in
theorem rf_code98 : (Jvm.Cond.code (⟨"java/lang/StringLatin1", "charAt", "([BI)C"⟩ : Jvm.MethodName) prog_44_method_2_code 2 (some .char)).before start1.args0 rf_s = true := su_hand_word (m := ⟨19, 0⟩) (by decide +kernel) rfl (by decide +kernel) (by decide +kernel)
set_option maxRecDepth 100000 in
theorem rf_code99 : (Jvm.Cond.code (⟨"java/lang/String", "checkIndex", "(II)V"⟩ : Jvm.MethodName) prog_41_method_155_code 2 none).before start1.args0 rf_s = true := su_hand_word (m := ⟨40, 13⟩) (by decide +kernel) rfl (by decide +kernel) (by decide +kernel)
set_option maxRecDepth 100000 in
theorem rf_code100 : (Jvm.Cond.code (⟨"jdk/internal/util/Preconditions", "checkIndex", "(IILjava/util/function/BiFunction;)I"⟩ : Jvm.MethodName) prog_59_method_11_code 3 (some .int)).before start1.args0 rf_s = true := su_hand_word (m := ⟨17, 0⟩) (by decide +kernel) rfl (by decide +kernel) (by decide +kernel)
set_option maxRecDepth 100000 in
theorem rf_code101 : (Jvm.Cond.code (⟨"java/lang/StringUTF16", "charAt", "([BI)C"⟩ : Jvm.MethodName) prog_45_method_83_code 2 (some .char)).before start1.args0 rf_s = true := su_hand_word (m := ⟨7, 15⟩) (by decide +kernel) rfl (by decide +kernel) (by decide +kernel)
set_option maxRecDepth 100000 in
theorem rf_code102 : (Jvm.Cond.code (⟨"java/lang/StringUTF16", "checkIndex", "(I[B)V"⟩ : Jvm.MethodName) prog_45_method_91_code 2 none).before start1.args0 rf_s = true := su_hand_word (m := ⟨7, 18⟩) (by decide +kernel) rfl (by decide +kernel) (by decide +kernel)
set_option maxRecDepth 100000 in
theorem rf_code103 : (Jvm.Cond.code (⟨"RelayHall$Table", "endOfValue", "(I)I"⟩ : Jvm.MethodName) prog_12_method_3_code 5 (some .int)).before start1.args0 rf_s = true := su_hand_word (m := ⟨18, 2⟩) (by decide +kernel) rfl (by decide +kernel) (by decide +kernel)
set_option maxRecDepth 100000 in
theorem rf_code104 : (Jvm.Cond.code (⟨"RelayHall$Table", "numberAt", "(I)I"⟩ : Jvm.MethodName) prog_12_method_4_code 4 (some .int)).before start1.args0 rf_s = true := su_hand_word (m := ⟨18, 3⟩) (by decide +kernel) rfl (by decide +kernel) (by decide +kernel)
set_option maxRecDepth 100000 in
theorem rf_code105 : (Jvm.Cond.code (⟨"java/lang/String", "substring", "(II)Ljava/lang/String;"⟩ : Jvm.MethodName) prog_41_method_92_code 5 (some (.object "java/lang/String"))).before start1.args0 rf_s = true := su_hand_word (m := ⟨40, 6⟩) (by decide +kernel) rfl (by decide +kernel) (by decide +kernel)
set_option maxRecDepth 100000 in
theorem rf_code106 : (Jvm.Cond.code (⟨"java/lang/String", "checkBoundsBeginEnd", "(III)V"⟩ : Jvm.MethodName) prog_41_method_158_code 3 none).before start1.args0 rf_s = true := su_hand_word (m := ⟨40, 15⟩) (by decide +kernel) rfl (by decide +kernel) (by decide +kernel)
set_option maxRecDepth 100000 in
theorem rf_code107 : (Jvm.Cond.code (⟨"jdk/internal/util/Preconditions", "checkFromToIndex", "(IIILjava/util/function/BiFunction;)I"⟩ : Jvm.MethodName) prog_59_method_12_code 4 (some .int)).before start1.args0 rf_s = true := su_hand_word (m := ⟨17, 1⟩) (by decide +kernel) rfl (by decide +kernel) (by decide +kernel)
set_option maxRecDepth 100000 in
theorem rf_code108 : (Jvm.Cond.code (⟨"java/lang/StringLatin1", "newString", "([BII)Ljava/lang/String;"⟩ : Jvm.MethodName) prog_44_method_47_code 3 (some (.object "java/lang/String"))).before start1.args0 rf_s = true := su_hand_word (m := ⟨19, 2⟩) (by decide +kernel) rfl (by decide +kernel) (by decide +kernel)
set_option maxRecDepth 100000 in
theorem rf_code109 : (Jvm.Cond.code (⟨"java/util/Arrays", "copyOfRange", "([BII)[B"⟩ : Jvm.MethodName) prog_51_method_132_code 3 (some (.array .byte))).before start1.args0 rf_s = true := su_hand_word (m := ⟨15, 6⟩) (by decide +kernel) rfl (by decide +kernel) (by decide +kernel)
set_option maxRecDepth 100000 in
theorem rf_code110 : (Jvm.Cond.code (⟨"java/util/Arrays", "copyOfRangeByte", "([BII)[B"⟩ : Jvm.MethodName) prog_51_method_133_code 5 (some (.array .byte))).before start1.args0 rf_s = true := su_hand_word (m := ⟨15, 7⟩) (by decide +kernel) rfl (by decide +kernel) (by decide +kernel)
set_option maxRecDepth 100000 in
theorem rf_code111 : (Jvm.Cond.code (⟨"java/util/Arrays", "checkLength", "(II)V"⟩ : Jvm.MethodName) prog_51_method_131_code 2 none).before start1.args0 rf_s = true := su_hand_word (m := ⟨15, 5⟩) (by decide +kernel) rfl (by decide +kernel) (by decide +kernel)
set_option maxRecDepth 100000 in
theorem rf_code112 : (Jvm.Cond.code (⟨"java/lang/Throwable", "<init>", "()V"⟩ : Jvm.MethodName) prog_47_method_1_code 1 none).before start1.args0 rf_s = true := su_hand_word (m := ⟨41, 0⟩) (by decide +kernel) rfl (by decide +kernel) (by decide +kernel)
set_option maxRecDepth 100000 in
theorem rf_code113 : (Jvm.Cond.code (⟨"java/lang/StringBuilder", "append", "(I)Ljava/lang/StringBuilder;"⟩ : Jvm.MethodName) prog_42_method_15_code 2 (some (.object "java/lang/StringBuilder"))).before start1.args0 rf_s = true := su_hand_word (m := ⟨39, 2⟩) (by decide +kernel) rfl (by decide +kernel) (by decide +kernel)
set_option maxRecDepth 16384 in
theorem rf_oth_4_0 : (tables_1_4.take 42).all (fun c => su_isCode c || c.before start1.args0 rf_s) = true := by decide +kernel
set_option maxRecDepth 16384 in
theorem rf_oth_4_1 : ((tables_1_4.drop 42).take 42).all (fun c => su_isCode c || c.before start1.args0 rf_s) = true := by decide +kernel
set_option maxRecDepth 16384 in
theorem rf_oth_4_2 : (((tables_1_4.drop 42).drop 42).take 54).all (fun c => su_isCode c || c.before start1.args0 rf_s) = true := by decide +kernel
set_option maxRecDepth 16384 in
theorem rf_oth_4_3 : ((((tables_1_4.drop 42).drop 42).drop 54).take 38).all (fun c => su_isCode c || c.before start1.args0 rf_s) = true := by decide +kernel
set_option maxRecDepth 16384 in
theorem rf_oth_4_4 : (((((tables_1_4.drop 42).drop 42).drop 54).drop 38).take 52).all (fun c => su_isCode c || c.before start1.args0 rf_s) = true := by decide +kernel
set_option maxRecDepth 16384 in
theorem rf_oth_4_5 : ((((((tables_1_4.drop 42).drop 42).drop 54).drop 38).drop 52)).all (fun c => su_isCode c || c.before start1.args0 rf_s) = true := by decide +kernel
theorem rf_words_4 : ∀ c ∈ tables_1_4, c.before start1.args0 rf_s = true := fun c h => su_words ((start1.su_all_split _ 42 tables_1_4 rf_oth_4_0 (start1.su_all_split _ 42 (tables_1_4.drop 42) rf_oth_4_1 (start1.su_all_split _ 54 ((tables_1_4.drop 42).drop 42) rf_oth_4_2 (start1.su_all_split _ 38 (((tables_1_4.drop 42).drop 42).drop 54) rf_oth_4_3 (start1.su_all_split _ 52 ((((tables_1_4.drop 42).drop 42).drop 54).drop 38) rf_oth_4_4 rf_oth_4_5)))))) (by
  rw [start1.codes_are_4]
  exact (List.forall_mem_cons.mpr ⟨rf_code72, (List.forall_mem_cons.mpr ⟨rf_code73, (List.forall_mem_cons.mpr ⟨rf_code74, (List.forall_mem_cons.mpr ⟨rf_code75, (List.forall_mem_cons.mpr ⟨rf_code76, (List.forall_mem_cons.mpr ⟨rf_code77, (List.forall_mem_cons.mpr ⟨rf_code78, (List.forall_mem_cons.mpr ⟨rf_code79, (List.forall_mem_cons.mpr ⟨rf_code80, (List.forall_mem_cons.mpr ⟨rf_code81, (List.forall_mem_cons.mpr ⟨rf_code82, (List.forall_mem_cons.mpr ⟨rf_code83, (List.forall_mem_cons.mpr ⟨rf_code84, (List.forall_mem_cons.mpr ⟨rf_code85, (List.forall_mem_cons.mpr ⟨rf_code86, (List.forall_mem_cons.mpr ⟨rf_code87, (List.forall_mem_cons.mpr ⟨rf_code88, (List.forall_mem_cons.mpr ⟨rf_code89, (List.forall_mem_cons.mpr ⟨rf_code90, (List.forall_mem_cons.mpr ⟨rf_code91, (List.forall_mem_cons.mpr ⟨rf_code92, (List.forall_mem_cons.mpr ⟨rf_code93, (List.forall_mem_cons.mpr ⟨rf_code94, (List.forall_mem_cons.mpr ⟨rf_code95, (List.forall_mem_cons.mpr ⟨rf_code96, (List.forall_mem_cons.mpr ⟨rf_code97, (List.forall_mem_cons.mpr ⟨rf_code98, (List.forall_mem_cons.mpr ⟨rf_code99, (List.forall_mem_cons.mpr ⟨rf_code100, (List.forall_mem_cons.mpr ⟨rf_code101, (List.forall_mem_cons.mpr ⟨rf_code102, (List.forall_mem_cons.mpr ⟨rf_code103, (List.forall_mem_cons.mpr ⟨rf_code104, (List.forall_mem_cons.mpr ⟨rf_code105, (List.forall_mem_cons.mpr ⟨rf_code106, (List.forall_mem_cons.mpr ⟨rf_code107, (List.forall_mem_cons.mpr ⟨rf_code108, (List.forall_mem_cons.mpr ⟨rf_code109, (List.forall_mem_cons.mpr ⟨rf_code110, (List.forall_mem_cons.mpr ⟨rf_code111, (List.forall_mem_cons.mpr ⟨rf_code112, (List.forall_mem_cons.mpr ⟨rf_code113, (fun _ h => absurd h List.not_mem_nil)⟩)⟩)⟩)⟩)⟩)⟩)⟩)⟩)⟩)⟩)⟩)⟩)⟩)⟩)⟩)⟩)⟩)⟩)⟩)⟩)⟩)⟩)⟩)⟩)⟩)⟩)⟩)⟩)⟩)⟩)⟩)⟩)⟩)⟩)⟩)⟩)⟩)⟩)⟩)⟩)⟩)⟩)) c h
end XW4
