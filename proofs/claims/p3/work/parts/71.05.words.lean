section XW5
set_option maxRecDepth 100000 in
theorem rf_code114 : (Jvm.Cond.code (⟨"java/lang/AbstractStringBuilder", "append", "(I)Ljava/lang/AbstractStringBuilder;"⟩ : Jvm.MethodName) prog_29_method_32_code 4 (some (.object "java/lang/AbstractStringBuilder"))).before start1.args0 rf_s = true := su_hand_word (m := ⟨6, 8⟩) (by decide +kernel) rfl (by decide +kernel) (by decide +kernel)
set_option maxRecDepth 100000 in
theorem rf_code115 : (Jvm.Cond.code (⟨"java/lang/Integer", "stringSize", "(I)I"⟩ : Jvm.MethodName) prog_35_method_13_code 4 (some .int)).before start1.args0 rf_s = true := su_hand_word (m := ⟨49, 1⟩) (by decide +kernel) rfl (by decide +kernel) (by decide +kernel)
set_option maxRecDepth 100000 in
theorem rf_code116 : (Jvm.Cond.code (⟨"java/lang/AbstractStringBuilder", "ensureCapacityInternal", "(I)V"⟩ : Jvm.MethodName) prog_29_method_9_code 3 none).before start1.args0 rf_s = true := su_hand_word (m := ⟨6, 2⟩) (by decide +kernel) rfl (by decide +kernel) (by decide +kernel)
set_option maxRecDepth 100000 in
theorem rf_code117 : (Jvm.Cond.code (⟨"java/lang/AbstractStringBuilder", "newCapacity", "(I)I"⟩ : Jvm.MethodName) prog_29_method_10_code 6 (some .int)).before start1.args0 rf_s = true := su_hand_word (m := ⟨6, 3⟩) (by decide +kernel) rfl (by decide +kernel) (by decide +kernel)
set_option maxRecDepth 100000 in
theorem rf_code118 : (Jvm.Cond.code (⟨"java/util/Arrays", "copyOf", "([BI)[B"⟩ : Jvm.MethodName) prog_51_method_121_code 3 (some (.array .byte))).before start1.args0 rf_s = true := su_hand_word (m := ⟨15, 4⟩) (by decide +kernel) rfl (by decide +kernel) (by decide +kernel)
set_option maxRecDepth 100000 in
theorem rf_code119 : (Jvm.Cond.code (⟨"java/lang/AbstractStringBuilder", "isLatin1", "()Z"⟩ : Jvm.MethodName) prog_29_method_68_code 1 (some .boolean)).before start1.args0 rf_s = true := su_hand_word (m := ⟨6, 10⟩) (by decide +kernel) rfl (by decide +kernel) (by decide +kernel)
set_option maxRecDepth 100000 in
theorem rf_code120 : (Jvm.Cond.code (⟨"java/lang/Integer", "getChars", "(II[B)I"⟩ : Jvm.MethodName) prog_35_method_12_code 7 (some .int)).before start1.args0 rf_s = true := su_hand_word (m := ⟨49, 0⟩) (by decide +kernel) rfl (by decide +kernel) (by decide +kernel)
set_option maxRecDepth 100000 in
theorem rf_code121 : (Jvm.Cond.code (⟨"java/lang/StringUTF16", "getChars", "(III[B)I"⟩ : Jvm.MethodName) prog_45_method_77_code 5 (some .int)).before start1.args0 rf_s = true := su_hand_word (m := ⟨7, 13⟩) (by decide +kernel) rfl (by decide +kernel) (by decide +kernel)
set_option maxRecDepth 100000 in
theorem rf_code122 : (Jvm.Cond.code (⟨"java/lang/StringUTF16", "checkBoundsBeginEnd", "(II[B)V"⟩ : Jvm.MethodName) prog_45_method_93_code 3 none).before start1.args0 rf_s = true := su_hand_word (m := ⟨7, 19⟩) (by decide +kernel) rfl (by decide +kernel) (by decide +kernel)
set_option maxRecDepth 100000 in
theorem rf_code123 : (Jvm.Cond.code (⟨"java/lang/StringUTF16", "getChars", "(II[B)I"⟩ : Jvm.MethodName) prog_45_method_89_code 7 (some .int)).before start1.args0 rf_s = true := su_hand_word (m := ⟨7, 17⟩) (by decide +kernel) rfl (by decide +kernel) (by decide +kernel)
set_option maxRecDepth 100000 in
theorem rf_code124 : (Jvm.Cond.code (⟨"java/lang/StringBuilder", "append", "(Ljava/lang/String;)Ljava/lang/StringBuilder;"⟩ : Jvm.MethodName) prog_42_method_7_code 2 (some (.object "java/lang/StringBuilder"))).before start1.args0 rf_s = true := su_hand_word (m := ⟨39, 1⟩) (by decide +kernel) rfl (by decide +kernel) (by decide +kernel)
set_option maxRecDepth 100000 in
theorem rf_code125 : (Jvm.Cond.code (⟨"java/lang/AbstractStringBuilder", "append", "(Ljava/lang/String;)Ljava/lang/AbstractStringBuilder;"⟩ : Jvm.MethodName) prog_29_method_22_code 3 (some (.object "java/lang/AbstractStringBuilder"))).before start1.args0 rf_s = true := su_hand_word (m := ⟨6, 6⟩) (by decide +kernel) rfl (by decide +kernel) (by decide +kernel)
set_option maxRecDepth 100000 in
theorem rf_code126 : (Jvm.Cond.code (⟨"java/lang/AbstractStringBuilder", "appendNull", "()Ljava/lang/AbstractStringBuilder;"⟩ : Jvm.MethodName) prog_29_method_26_code 3 (some (.object "java/lang/AbstractStringBuilder"))).before start1.args0 rf_s = true := su_hand_word (m := ⟨6, 7⟩) (by decide +kernel) rfl (by decide +kernel) (by decide +kernel)
set_option maxRecDepth 100000 in
theorem rf_code127 : (Jvm.Cond.code (⟨"java/lang/StringUTF16", "putCharsAt", "([BICCCC)I"⟩ : Jvm.MethodName) prog_45_method_81_code 7 (some .int)).before start1.args0 rf_s = true := su_hand_word (m := ⟨7, 14⟩) (by decide +kernel) rfl (by decide +kernel) (by decide +kernel)
set_option maxRecDepth 100000 in
theorem rf_code128 : (Jvm.Cond.code (⟨"java/lang/AbstractStringBuilder", "putStringAt", "(ILjava/lang/String;)V"⟩ : Jvm.MethodName) prog_29_method_73_code 3 none).before start1.args0 rf_s = true := su_hand_word (m := ⟨6, 12⟩) (by decide +kernel) rfl (by decide +kernel) (by decide +kernel)
set_option maxRecDepth 100000 in
theorem rf_code129 : (Jvm.Cond.code (⟨"java/lang/AbstractStringBuilder", "inflateIfNeededFor", "(Ljava/lang/String;)V"⟩ : Jvm.MethodName) prog_29_method_71_code 2 none).before start1.args0 rf_s = true := su_hand_word (m := ⟨6, 11⟩) (by decide +kernel) rfl (by decide +kernel) (by decide +kernel)
set_option maxRecDepth 100000 in
theorem rf_code130 : (Jvm.Cond.code (⟨"java/lang/AbstractStringBuilder", "inflate", "()V"⟩ : Jvm.MethodName) prog_29_method_11_code 2 none).before start1.args0 rf_s = true := su_hand_word (m := ⟨6, 4⟩) (by decide +kernel) rfl (by decide +kernel) (by decide +kernel)
set_option maxRecDepth 100000 in
theorem rf_code131 : (Jvm.Cond.code (⟨"java/lang/StringLatin1", "inflate", "([BI[BII)V"⟩ : Jvm.MethodName) prog_44_method_50_code 5 none).before start1.args0 rf_s = true := su_hand_word (m := ⟨19, 4⟩) (by decide +kernel) rfl (by decide +kernel) (by decide +kernel)
set_option maxRecDepth 100000 in
theorem rf_code132 : (Jvm.Cond.code (⟨"java/lang/StringUTF16", "inflate", "([BI[BII)V"⟩ : Jvm.MethodName) prog_45_method_86_code 6 none).before start1.args0 rf_s = true := su_hand_word (m := ⟨7, 16⟩) (by decide +kernel) rfl (by decide +kernel) (by decide +kernel)
set_option maxRecDepth 100000 in
theorem rf_code133 : (Jvm.Cond.code (⟨"java/lang/String", "getBytes", "([BIB)V"⟩ : Jvm.MethodName) prog_41_method_147_code 4 none).before start1.args0 rf_s = true := su_hand_word (m := ⟨40, 7⟩) (by decide +kernel) rfl (by decide +kernel) (by decide +kernel)
set_option maxRecDepth 100000 in
theorem rf_code134 : (Jvm.Cond.code (⟨"java/lang/StringBuilder", "toString", "()Ljava/lang/String;"⟩ : Jvm.MethodName) prog_42_method_42_code 1 (some (.object "java/lang/String"))).before start1.args0 rf_s = true := su_hand_word (m := ⟨39, 3⟩) (by decide +kernel) rfl (by decide +kernel) (by decide +kernel)
set_option maxRecDepth 100000 in
theorem rf_code135 : (Jvm.Cond.code (⟨"java/lang/String", "<init>", "(Ljava/lang/StringBuilder;)V"⟩ : Jvm.MethodName) prog_41_method_53_code 2 none).before start1.args0 rf_s = true := su_hand_word (m := ⟨40, 1⟩) (by decide +kernel) rfl (by decide +kernel) (by decide +kernel)
set_option maxRecDepth 100000 in
theorem rf_code136 : (Jvm.Cond.code (⟨"java/lang/String", "<init>", "(Ljava/lang/AbstractStringBuilder;Ljava/lang/Void;)V"⟩ : Jvm.MethodName) prog_41_method_150_code 5 none).before start1.args0 rf_s = true := su_hand_word (m := ⟨40, 9⟩) (by decide +kernel) rfl (by decide +kernel) (by decide +kernel)
set_option maxRecDepth 100000 in
theorem rf_code137 : (Jvm.Cond.code (⟨"java/lang/AbstractStringBuilder", "getValue", "()[B"⟩ : Jvm.MethodName) prog_29_method_64_code 1 (some (.array .byte))).before start1.args0 rf_s = true := su_hand_word (m := ⟨6, 9⟩) (by decide +kernel) rfl (by decide +kernel) (by decide +kernel)
set_option maxRecDepth 100000 in
theorem rf_code138 : (Jvm.Cond.code (⟨"java/lang/StringBuilder", "length", "()I"⟩ : Jvm.MethodName) prog_42_method_93_code 1 (some .int)).before start1.args0 rf_s = true := su_hand_word (m := ⟨39, 5⟩) (by decide +kernel) rfl (by decide +kernel) (by decide +kernel)
set_option maxRecDepth 100000 in
theorem rf_code139 : (Jvm.Cond.code (⟨"java/lang/AbstractStringBuilder", "length", "()I"⟩ : Jvm.MethodName) prog_29_method_6_code 1 (some .int)).before start1.args0 rf_s = true := su_hand_word (m := ⟨6, 1⟩) (by decide +kernel) rfl (by decide +kernel) (by decide +kernel)
set_option maxRecDepth 100000 in
theorem rf_code140 : (Jvm.Cond.code (⟨"java/lang/StringUTF16", "compress", "([BII)[B"⟩ : Jvm.MethodName) prog_45_method_17_code 6 (some (.array .byte))).before start1.args0 rf_s = true := su_hand_word (m := ⟨7, 8⟩) (by decide +kernel) rfl (by decide +kernel) (by decide +kernel)
set_option maxRecDepth 100000 in
theorem rf_code141 : (Jvm.Cond.code (⟨"java/lang/IllegalArgumentException", "<init>", "(Ljava/lang/String;)V"⟩ : Jvm.MethodName) prog_33_method_2_code 2 none).before start1.args0 rf_s = true := su_hand_word (m := ⟨54, 1⟩) (by decide +kernel) rfl (by decide +kernel) (by decide +kernel)
set_option maxRecDepth 100000 in
theorem rf_code142 : (Jvm.Cond.code (⟨"java/lang/RuntimeException", "<init>", "(Ljava/lang/String;)V"⟩ : Jvm.MethodName) prog_40_method_2_code 2 none).before start1.args0 rf_s = true := su_hand_word (m := ⟨51, 1⟩) (by decide +kernel) rfl (by decide +kernel) (by decide +kernel)
set_option maxRecDepth 100000 in
theorem rf_code143 : (Jvm.Cond.code (⟨"java/lang/Exception", "<init>", "(Ljava/lang/String;)V"⟩ : Jvm.MethodName) prog_32_method_2_code 2 none).before start1.args0 rf_s = true := su_hand_word (m := ⟨48, 1⟩) (by decide +kernel) rfl (by decide +kernel) (by decide +kernel)
set_option maxRecDepth 100000 in
theorem rf_code144 : (Jvm.Cond.code (⟨"java/lang/Throwable", "<init>", "(Ljava/lang/String;)V"⟩ : Jvm.MethodName) prog_47_method_2_code 2 none).before start1.args0 rf_s = true := su_hand_word (m := ⟨41, 1⟩) (by decide +kernel) rfl (by decide +kernel) (by decide +kernel)
set_option maxRecDepth 100000 in
theorem rf_code145 : (Jvm.Cond.code (⟨"java/lang/String", "<init>", "([BB)V"⟩ : Jvm.MethodName) prog_41_method_151_code 3 none).before start1.args0 rf_s = true := su_hand_word (m := ⟨40, 10⟩) (by decide +kernel) rfl (by decide +kernel) (by decide +kernel)
set_option maxRecDepth 100000 in
theorem rf_code146 : (Jvm.Cond.code (⟨"java/lang/StringUTF16", "newString", "([BII)Ljava/lang/String;"⟩ : Jvm.MethodName) prog_45_method_69_code 5 (some (.object "java/lang/String"))).before start1.args0 rf_s = true := su_hand_word (m := ⟨7, 11⟩) (by decide +kernel) rfl (by decide +kernel) (by decide +kernel)
set_option maxRecDepth 100000 in
theorem rf_code147 : (Jvm.Cond.code (⟨"RelayHall$Table", "find", "(Ljava/lang/String;)I"⟩ : Jvm.MethodName) prog_12_method_5_code 6 (some .int)).before start1.args0 rf_s = true := su_hand_word (m := ⟨18, 4⟩) (by decide +kernel) rfl (by decide +kernel) (by decide +kernel)
set_option maxRecDepth 100000 in
theorem rf_code148 : (Jvm.Cond.code (⟨"RelayHall", "findExchange", "(Ljava/lang/String;)LRelayHall$Exchange;"⟩ : Jvm.MethodName) prog_1_method_19_code 3 (some (.object "RelayHall$Exchange"))).before start1.args0 rf_s = true := su_hand_word (m := ⟨2, 18⟩) (by decide +kernel) rfl (by decide +kernel) (by decide +kernel)
set_option maxRecDepth 100000 in
theorem rf_code149 : (Jvm.Cond.code (⟨"java/lang/String", "isEmpty", "()Z"⟩ : Jvm.MethodName) prog_41_method_55_code 1 (some .boolean)).before start1.args0 rf_s = true := su_hand_word (m := ⟨40, 3⟩) (by decide +kernel) rfl (by decide +kernel) (by decide +kernel)
set_option maxRecDepth 100000 in
theorem rf_code150 : (Jvm.Cond.code (⟨"java/util/ArrayList", "size", "()I"⟩ : Jvm.MethodName) prog_50_method_8_code 1 (some .int)).before start1.args0 rf_s = true := su_hand_word (m := ⟨57, 3⟩) (by decide +kernel) rfl (by decide +kernel) (by decide +kernel)
set_option maxRecDepth 100000 in
theorem rf_code151 : (Jvm.Cond.code (⟨"java/util/ArrayList", "get", "(I)Ljava/lang/Object;"⟩ : Jvm.MethodName) prog_50_method_20_code 2 (some (.object "java/lang/Object"))).before start1.args0 rf_s = true := su_hand_word (m := ⟨57, 6⟩) (by decide +kernel) rfl (by decide +kernel) (by decide +kernel)
set_option maxRecDepth 100000 in
theorem rf_code152 : (Jvm.Cond.code (⟨"java/util/Objects", "checkIndex", "(II)I"⟩ : Jvm.MethodName) prog_55_method_17_code 2 (some .int)).before start1.args0 rf_s = true := su_hand_word (m := ⟨20, 0⟩) (by decide +kernel) rfl (by decide +kernel) (by decide +kernel)
set_option maxRecDepth 100000 in
theorem rf_code153 : (Jvm.Cond.code (⟨"java/util/ArrayList", "elementData", "(I)Ljava/lang/Object;"⟩ : Jvm.MethodName) prog_50_method_18_code 2 (some (.object "java/lang/Object"))).before start1.args0 rf_s = true := su_hand_word (m := ⟨57, 5⟩) (by decide +kernel) rfl (by decide +kernel) (by decide +kernel)
set_option maxRecDepth 100000 in
theorem rf_code154 : (Jvm.Cond.code (⟨"java/lang/String", "equals", "(Ljava/lang/Object;)Z"⟩ : Jvm.MethodName) prog_41_method_66_code 3 (some .boolean)).before start1.args0 rf_s = true := su_hand_word (m := ⟨40, 5⟩) (by decide +kernel) rfl (by decide +kernel) (by decide +kernel)
set_option maxRecDepth 100000 in
theorem rf_code155 : (Jvm.Cond.code (⟨"java/lang/StringLatin1", "equals", "([B[B)Z"⟩ : Jvm.MethodName) prog_44_method_13_code 3 (some .boolean)).before start1.args0 rf_s = true := su_hand_word (m := ⟨19, 1⟩) (by decide +kernel) rfl (by decide +kernel) (by decide +kernel)
set_option maxRecDepth 100000 in
theorem rf_code156 : (Jvm.Cond.code (⟨"RelayHall", "soft", "(LRelayHall$Channel;I)V"⟩ : Jvm.MethodName) prog_1_method_36_code 3 none).before start1.args0 rf_s = true := su_hand_word (m := ⟨2, 35⟩) (by decide +kernel) rfl (by decide +kernel) (by decide +kernel)
set_option maxRecDepth 100000 in
theorem rf_code157 : (Jvm.Cond.code (⟨"RelayHall", "kindOf", "(Ljava/lang/String;)I"⟩ : Jvm.MethodName) prog_1_method_18_code 1 (some .int)).before start1.args0 rf_s = true := su_hand_word (m := ⟨2, 17⟩) (by decide +kernel) rfl (by decide +kernel) (by decide +kernel)
set_option maxRecDepth 100000 in
theorem rf_code158 : (Jvm.Cond.code (⟨"RelayHall$Table", "alternate", "()Ljava/lang/String;"⟩ : Jvm.MethodName) prog_12_method_10_code 2 (some (.object "java/lang/String"))).before start1.args0 rf_s = true := su_hand_word (m := ⟨18, 9⟩) (by decide +kernel) rfl (by decide +kernel) (by decide +kernel)
set_option maxRecDepth 100000 in
theorem rf_code159 : (Jvm.Cond.code (⟨"RelayHall$Table", "textOf", "(Ljava/lang/String;)Ljava/lang/String;"⟩ : Jvm.MethodName) prog_12_method_9_code 3 (some (.object "java/lang/String"))).before start1.args0 rf_s = true := su_hand_word (m := ⟨18, 8⟩) (by decide +kernel) rfl (by decide +kernel) (by decide +kernel)
set_option maxRecDepth 100000 in
theorem rf_code160 : (Jvm.Cond.code (⟨"RelayHall$Table", "kindAt", "(I)I"⟩ : Jvm.MethodName) prog_12_method_6_code 2 (some .int)).before start1.args0 rf_s = true := su_hand_word (m := ⟨18, 5⟩) (by decide +kernel) rfl (by decide +kernel) (by decide +kernel)
set_option maxRecDepth 100000 in
theorem rf_code161 : (Jvm.Cond.code (⟨"RelayHall", "makeExchange", "(LRelayHall$Channel;LRelayHall$Exchange;)Z"⟩ : Jvm.MethodName) prog_1_method_60_code 5 (some .boolean)).before start1.args0 rf_s = true := su_hand_word (m := ⟨2, 59⟩) (by decide +kernel) rfl (by decide +kernel) (by decide +kernel)
set_option maxRecDepth 100000 in
theorem rf_code162 : (Jvm.Cond.code (⟨"RelayHall", "sameText", "(Ljava/lang/String;Ljava/lang/String;)Z"⟩ : Jvm.MethodName) prog_1_method_17_code 2 (some .boolean)).before start1.args0 rf_s = true := su_hand_word (m := ⟨2, 16⟩) (by decide +kernel) rfl (by decide +kernel) (by decide +kernel)
set_option maxRecDepth 100000 in
theorem rf_code163 : (Jvm.Cond.code (⟨"RelayHall", "deleteExchange", "(LRelayHall$Channel;)V"⟩ : Jvm.MethodName) prog_1_method_61_code 5 none).before start1.args0 rf_s = true := su_hand_word (m := ⟨2, 60⟩) (by decide +kernel) rfl (by decide +kernel) (by decide +kernel)
set_option maxRecDepth 100000 in
theorem rf_code164 : (Jvm.Cond.code (⟨"RelayHall", "exchangeFor", "(LRelayHall$Channel;Ljava/lang/String;)LRelayHall$Exchange;"⟩ : Jvm.MethodName) prog_1_method_62_code 4 (some (.object "RelayHall$Exchange"))).before start1.args0 rf_s = true := su_hand_word (m := ⟨2, 61⟩) (by decide +kernel) rfl (by decide +kernel) (by decide +kernel)
set_option maxRecDepth 100000 in
theorem rf_code165 : (Jvm.Cond.code (⟨"RelayHall", "bindingsFrom", "(LRelayHall$Exchange;)I"⟩ : Jvm.MethodName) prog_1_method_27_code 4 (some .int)).before start1.args0 rf_s = true := su_hand_word (m := ⟨2, 26⟩) (by decide +kernel) rfl (by decide +kernel) (by decide +kernel)
set_option maxRecDepth 16384 in
theorem rf_oth_5_0 : (tables_1_5.take 47).all (fun c => su_isCode c || c.before start1.args0 rf_s) = true := by decide +kernel
set_option maxRecDepth 16384 in
theorem rf_oth_5_1 : ((tables_1_5.drop 47).take 41).all (fun c => su_isCode c || c.before start1.args0 rf_s) = true := by decide +kernel
set_option maxRecDepth 16384 in
theorem rf_oth_5_2 : (((tables_1_5.drop 47).drop 41).take 32).all (fun c => su_isCode c || c.before start1.args0 rf_s) = true := by decide +kernel
set_option maxRecDepth 16384 in
theorem rf_oth_5_3 : ((((tables_1_5.drop 47).drop 41).drop 32).take 53).all (fun c => su_isCode c || c.before start1.args0 rf_s) = true := by decide +kernel
set_option maxRecDepth 16384 in
theorem rf_oth_5_4 : (((((tables_1_5.drop 47).drop 41).drop 32).drop 53).take 47).all (fun c => su_isCode c || c.before start1.args0 rf_s) = true := by decide +kernel
set_option maxRecDepth 16384 in
theorem rf_oth_5_5 : ((((((tables_1_5.drop 47).drop 41).drop 32).drop 53).drop 47)).all (fun c => su_isCode c || c.before start1.args0 rf_s) = true := by decide +kernel
theorem rf_words_5 : ∀ c ∈ tables_1_5, c.before start1.args0 rf_s = true := fun c h => su_words ((start1.su_all_split _ 47 tables_1_5 rf_oth_5_0 (start1.su_all_split _ 41 (tables_1_5.drop 47) rf_oth_5_1 (start1.su_all_split _ 32 ((tables_1_5.drop 47).drop 41) rf_oth_5_2 (start1.su_all_split _ 53 (((tables_1_5.drop 47).drop 41).drop 32) rf_oth_5_3 (start1.su_all_split _ 47 ((((tables_1_5.drop 47).drop 41).drop 32).drop 53) rf_oth_5_4 rf_oth_5_5)))))) (by
  rw [start1.codes_are_5]
  exact (List.forall_mem_cons.mpr ⟨rf_code114, (List.forall_mem_cons.mpr ⟨rf_code115, (List.forall_mem_cons.mpr ⟨rf_code116, (List.forall_mem_cons.mpr ⟨rf_code117, (List.forall_mem_cons.mpr ⟨rf_code118, (List.forall_mem_cons.mpr ⟨rf_code119, (List.forall_mem_cons.mpr ⟨rf_code120, (List.forall_mem_cons.mpr ⟨rf_code121, (List.forall_mem_cons.mpr ⟨rf_code122, (List.forall_mem_cons.mpr ⟨rf_code123, (List.forall_mem_cons.mpr ⟨rf_code124, (List.forall_mem_cons.mpr ⟨rf_code125, (List.forall_mem_cons.mpr ⟨rf_code126, (List.forall_mem_cons.mpr ⟨rf_code127, (List.forall_mem_cons.mpr ⟨rf_code128, (List.forall_mem_cons.mpr ⟨rf_code129, (List.forall_mem_cons.mpr ⟨rf_code130, (List.forall_mem_cons.mpr ⟨rf_code131, (List.forall_mem_cons.mpr ⟨rf_code132, (List.forall_mem_cons.mpr ⟨rf_code133, (List.forall_mem_cons.mpr ⟨rf_code134, (List.forall_mem_cons.mpr ⟨rf_code135, (List.forall_mem_cons.mpr ⟨rf_code136, (List.forall_mem_cons.mpr ⟨rf_code137, (List.forall_mem_cons.mpr ⟨rf_code138, (List.forall_mem_cons.mpr ⟨rf_code139, (List.forall_mem_cons.mpr ⟨rf_code140, (List.forall_mem_cons.mpr ⟨rf_code141, (List.forall_mem_cons.mpr ⟨rf_code142, (List.forall_mem_cons.mpr ⟨rf_code143, (List.forall_mem_cons.mpr ⟨rf_code144, (List.forall_mem_cons.mpr ⟨rf_code145, (List.forall_mem_cons.mpr ⟨rf_code146, (List.forall_mem_cons.mpr ⟨rf_code147, (List.forall_mem_cons.mpr ⟨rf_code148, (List.forall_mem_cons.mpr ⟨rf_code149, (List.forall_mem_cons.mpr ⟨rf_code150, (List.forall_mem_cons.mpr ⟨rf_code151, (List.forall_mem_cons.mpr ⟨rf_code152, (List.forall_mem_cons.mpr ⟨rf_code153, (List.forall_mem_cons.mpr ⟨rf_code154, (List.forall_mem_cons.mpr ⟨rf_code155, (List.forall_mem_cons.mpr ⟨rf_code156, (List.forall_mem_cons.mpr ⟨rf_code157, (List.forall_mem_cons.mpr ⟨rf_code158, (List.forall_mem_cons.mpr ⟨rf_code159, (List.forall_mem_cons.mpr ⟨rf_code160, (List.forall_mem_cons.mpr ⟨rf_code161, (List.forall_mem_cons.mpr ⟨rf_code162, (List.forall_mem_cons.mpr ⟨rf_code163, (List.forall_mem_cons.mpr ⟨rf_code164, (List.forall_mem_cons.mpr ⟨rf_code165, (fun _ h => absurd h List.not_mem_nil)⟩)⟩)⟩)⟩)⟩)⟩)⟩)⟩)⟩)⟩)⟩)⟩)⟩)⟩)⟩)⟩)⟩)⟩)⟩)⟩)⟩)⟩)⟩)⟩)⟩)⟩)⟩)⟩)⟩)⟩)⟩)⟩)⟩)⟩)⟩)⟩)⟩)⟩)⟩)⟩)⟩)⟩)⟩)⟩)⟩)⟩)⟩)⟩)⟩)⟩)⟩)⟩)) c h
end XW5
