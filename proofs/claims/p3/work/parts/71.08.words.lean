section XW8
set_option maxRecDepth 100000 in
theorem rf_code221 : (Jvm.Cond.code (⟨"RelayHall", "draftContent", "(LRelayHall$Channel;LRelayHall$Message;)V"⟩ : Jvm.MethodName) prog_1_method_84_code 4 none).before start1.args0 rf_s = true := su_hand_word (m := ⟨2, 83⟩) (by decide +kernel) rfl (by decide +kernel) (by decide +kernel)
set_option maxRecDepth 100000 in
theorem rf_code222 : (Jvm.Cond.code (⟨"RelayHall$Connection", "frame", "(II)V"⟩ : Jvm.MethodName) prog_4_method_13_code 3 none).before start1.args0 rf_s = true := su_hand_word (m := ⟨8, 12⟩) (by decide +kernel) rfl (by decide +kernel) (by decide +kernel)
set_option maxRecDepth 100000 in
theorem rf_code223 : (Jvm.Cond.code (⟨"RelayHall$Message", "flags", "()I"⟩ : Jvm.MethodName) prog_9_method_8_code 1 (some .int)).before start1.args0 rf_s = true := su_hand_word (m := ⟨45, 7⟩) (by decide +kernel) rfl (by decide +kernel) (by decide +kernel)
set_option maxRecDepth 100000 in
theorem rf_code224 : (Jvm.Cond.code (⟨"RelayHall$Connection", "chars", "(Ljava/lang/String;)V"⟩ : Jvm.MethodName) prog_4_method_16_code 3 none).before start1.args0 rf_s = true := su_hand_word (m := ⟨8, 15⟩) (by decide +kernel) rfl (by decide +kernel) (by decide +kernel)
set_option maxRecDepth 100000 in
theorem rf_code225 : (Jvm.Cond.code (⟨"RelayHall$Connection", "bytes", "([B)V"⟩ : Jvm.MethodName) prog_4_method_17_code 3 none).before start1.args0 rf_s = true := su_hand_word (m := ⟨8, 16⟩) (by decide +kernel) rfl (by decide +kernel) (by decide +kernel)
set_option maxRecDepth 100000 in
theorem rf_code226 : (Jvm.Cond.code (⟨"RelayHall", "acknowledge", "(LRelayHall$Channel;)V"⟩ : Jvm.MethodName) prog_1_method_102_code 10 none).before start1.args0 rf_s = true := su_hand_word (m := ⟨2, 101⟩) (by decide +kernel) rfl (by decide +kernel) (by decide +kernel)
set_option maxRecDepth 100000 in
theorem rf_code227 : (Jvm.Cond.code (⟨"RelayHall$Channel", "hasUnacked", "(J)Z"⟩ : Jvm.MethodName) prog_3_method_6_code 4 (some .boolean)).before start1.args0 rf_s = true := su_hand_word (m := ⟨9, 5⟩) (by decide +kernel) rfl (by decide +kernel) (by decide +kernel)
set_option maxRecDepth 100000 in
theorem rf_code228 : (Jvm.Cond.code (⟨"RelayHall$Channel", "markUnacked", "(JZ)V"⟩ : Jvm.MethodName) prog_3_method_7_code 7 none).before start1.args0 rf_s = true := su_hand_word (m := ⟨9, 6⟩) (by decide +kernel) rfl (by decide +kernel) (by decide +kernel)
set_option maxRecDepth 100000 in
theorem rf_code229 : (Jvm.Cond.code (⟨"RelayHall$Channel", "keep", "(ILRelayHall$Message;)V"⟩ : Jvm.MethodName) prog_3_method_4_code 3 none).before start1.args0 rf_s = true := su_hand_word (m := ⟨9, 3⟩) (by decide +kernel) rfl (by decide +kernel) (by decide +kernel)
set_option maxRecDepth 100000 in
theorem rf_code230 : (Jvm.Cond.code (⟨"RelayHall", "finishMarked", "(LRelayHall$Channel;II)V"⟩ : Jvm.MethodName) prog_1_method_104_code 6 none).before start1.args0 rf_s = true := su_hand_word (m := ⟨2, 103⟩) (by decide +kernel) rfl (by decide +kernel) (by decide +kernel)
set_option maxRecDepth 100000 in
theorem rf_code231 : (Jvm.Cond.code (⟨"RelayHall", "finish", "(LRelayHall$Channel;II)V"⟩ : Jvm.MethodName) prog_1_method_105_code 6 none).before start1.args0 rf_s = true := su_hand_word (m := ⟨2, 104⟩) (by decide +kernel) rfl (by decide +kernel) (by decide +kernel)
set_option maxRecDepth 100000 in
theorem rf_code232 : (Jvm.Cond.code (⟨"RelayHall$Queue", "insert", "(LRelayHall$Message;)V"⟩ : Jvm.MethodName) prog_10_method_6_code 3 none).before start1.args0 rf_s = true := su_hand_word (m := ⟨43, 5⟩) (by decide +kernel) rfl (by decide +kernel) (by decide +kernel)
set_option maxRecDepth 100000 in
theorem rf_code233 : (Jvm.Cond.code (⟨"RelayHall$Message", "isBehind", "(LRelayHall$Message;)Z"⟩ : Jvm.MethodName) prog_9_method_6_code 2 (some .boolean)).before start1.args0 rf_s = true := su_hand_word (m := ⟨45, 5⟩) (by decide +kernel) rfl (by decide +kernel) (by decide +kernel)
set_option maxRecDepth 100000 in
theorem rf_code234 : (Jvm.Cond.code (⟨"java/util/ArrayList", "add", "(ILjava/lang/Object;)V"⟩ : Jvm.MethodName) prog_50_method_26_code 5 none).before start1.args0 rf_s = true := su_hand_word (m := ⟨57, 9⟩) (by decide +kernel) rfl (by decide +kernel) (by decide +kernel)
set_option maxRecDepth 100000 in
theorem rf_code235 : (Jvm.Cond.code (⟨"java/util/ArrayList", "rangeCheckForAdd", "(I)V"⟩ : Jvm.MethodName) prog_50_method_45_code 2 none).before start1.args0 rf_s = true := su_hand_word (m := ⟨57, 13⟩) (by decide +kernel) rfl (by decide +kernel) (by decide +kernel)
set_option maxRecDepth 100000 in
theorem rf_code236 : (Jvm.Cond.code (⟨"java/util/ArrayList", "outOfBoundsMsg", "(I)Ljava/lang/String;"⟩ : Jvm.MethodName) prog_50_method_46_code 2 (some (.object "java/lang/String"))).before start1.args0 rf_s = true := su_hand_word (m := ⟨57, 14⟩) (by decide +kernel) rfl (by decide +kernel) (by decide +kernel)
set_option maxRecDepth 100000 in
theorem rf_code237 : (Jvm.Cond.code (⟨"RelayHall", "trim", "(LRelayHall$Queue;)V"⟩ : Jvm.MethodName) prog_1_method_88_code 3 none).before start1.args0 rf_s = true := su_hand_word (m := ⟨2, 87⟩) (by decide +kernel) rfl (by decide +kernel) (by decide +kernel)
set_option maxRecDepth 100000 in
theorem rf_code238 : (Jvm.Cond.code (⟨"RelayHall", "recover", "(LRelayHall$Channel;)V"⟩ : Jvm.MethodName) prog_1_method_103_code 3 none).before start1.args0 rf_s = true := su_hand_word (m := ⟨2, 102⟩) (by decide +kernel) rfl (by decide +kernel) (by decide +kernel)
set_option maxRecDepth 100000 in
theorem rf_code239 : (Jvm.Cond.code (⟨"RelayHall", "selectConfirms", "(LRelayHall$Channel;)V"⟩ : Jvm.MethodName) prog_1_method_109_code 3 none).before start1.args0 rf_s = true := su_hand_word (m := ⟨2, 108⟩) (by decide +kernel) rfl (by decide +kernel) (by decide +kernel)
set_option maxRecDepth 100000 in
theorem rf_code240 : (Jvm.Cond.code (⟨"RelayHall", "selectTransactions", "(LRelayHall$Channel;)V"⟩ : Jvm.MethodName) prog_1_method_106_code 2 none).before start1.args0 rf_s = true := su_hand_word (m := ⟨2, 105⟩) (by decide +kernel) rfl (by decide +kernel) (by decide +kernel)
set_option maxRecDepth 100000 in
theorem rf_code241 : (Jvm.Cond.code (⟨"RelayHall", "commit", "(LRelayHall$Channel;)V"⟩ : Jvm.MethodName) prog_1_method_107_code 3 none).before start1.args0 rf_s = true := su_hand_word (m := ⟨2, 106⟩) (by decide +kernel) rfl (by decide +kernel) (by decide +kernel)
set_option maxRecDepth 100000 in
theorem rf_code242 : (Jvm.Cond.code (⟨"RelayHall", "isFull", "()Z"⟩ : Jvm.MethodName) prog_1_method_28_code 1 (some .boolean)).before start1.args0 rf_s = true := su_hand_word (m := ⟨2, 27⟩) (by decide +kernel) rfl (by decide +kernel) (by decide +kernel)
set_option maxRecDepth 100000 in
theorem rf_code243 : (Jvm.Cond.code (⟨"RelayHall", "spread", "(LRelayHall$Message;)Z"⟩ : Jvm.MethodName) prog_1_method_85_code 5 (some .boolean)).before start1.args0 rf_s = true := su_hand_word (m := ⟨2, 84⟩) (by decide +kernel) rfl (by decide +kernel) (by decide +kernel)
set_option maxRecDepth 100000 in
theorem rf_code244 : (Jvm.Cond.code (⟨"RelayHall", "route", "(LRelayHall$Exchange;LRelayHall$Message;)V"⟩ : Jvm.MethodName) prog_1_method_86_code 10 none).before start1.args0 rf_s = true := su_hand_word (m := ⟨2, 85⟩) (by decide +kernel) rfl (by decide +kernel) (by decide +kernel)
set_option maxRecDepth 100000 in
theorem rf_code245 : (Jvm.Cond.code (⟨"RelayHall$Binding", "matches", "(LRelayHall$Message;)Z"⟩ : Jvm.MethodName) prog_2_method_5_code 2 (some .boolean)).before start1.args0 rf_s = true := su_hand_word (m := ⟨44, 4⟩) (by decide +kernel) rfl (by decide +kernel) (by decide +kernel)
set_option maxRecDepth 100000 in
theorem rf_code246 : (Jvm.Cond.code (⟨"RelayHall$Binding", "topicMatches", "(Ljava/lang/String;Ljava/lang/String;)Z"⟩ : Jvm.MethodName) prog_2_method_7_code 7 (some .boolean)).before start1.args0 rf_s = true := su_hand_word (m := ⟨44, 6⟩) (by decide +kernel) rfl (by decide +kernel) (by decide +kernel)
set_option maxRecDepth 100000 in
theorem rf_code247 : (Jvm.Cond.code (⟨"RelayHall$Binding", "isWord", "(Ljava/lang/String;IC)Z"⟩ : Jvm.MethodName) prog_2_method_8_code 3 (some .boolean)).before start1.args0 rf_s = true := su_hand_word (m := ⟨44, 7⟩) (by decide +kernel) rfl (by decide +kernel) (by decide +kernel)
set_option maxRecDepth 100000 in
theorem rf_code248 : (Jvm.Cond.code (⟨"RelayHall$Binding", "isSameWord", "(Ljava/lang/String;ILjava/lang/String;I)Z"⟩ : Jvm.MethodName) prog_2_method_10_code 7 (some .boolean)).before start1.args0 rf_s = true := su_hand_word (m := ⟨44, 9⟩) (by decide +kernel) rfl (by decide +kernel) (by decide +kernel)
set_option maxRecDepth 100000 in
theorem rf_code249 : (Jvm.Cond.code (⟨"RelayHall$Binding", "nextWord", "(Ljava/lang/String;I)I"⟩ : Jvm.MethodName) prog_2_method_9_code 3 (some .int)).before start1.args0 rf_s = true := su_hand_word (m := ⟨44, 8⟩) (by decide +kernel) rfl (by decide +kernel) (by decide +kernel)
set_option maxRecDepth 100000 in
theorem rf_code250 : (Jvm.Cond.code (⟨"RelayHall$Binding", "tableMatches", "(LRelayHall$Table;)Z"⟩ : Jvm.MethodName) prog_2_method_6_code 4 (some .boolean)).before start1.args0 rf_s = true := su_hand_word (m := ⟨44, 5⟩) (by decide +kernel) rfl (by decide +kernel) (by decide +kernel)
set_option maxRecDepth 100000 in
theorem rf_code251 : (Jvm.Cond.code (⟨"RelayHall", "comeTo", "(LRelayHall$Queue;LRelayHall$Message;)LRelayHall$Message;"⟩ : Jvm.MethodName) prog_1_method_87_code 4 (some (.object "RelayHall$Message"))).before start1.args0 rf_s = true := su_hand_word (m := ⟨2, 86⟩) (by decide +kernel) rfl (by decide +kernel) (by decide +kernel)
set_option maxRecDepth 100000 in
theorem rf_code252 : (Jvm.Cond.code (⟨"RelayHall$Message", "inQueue", "(LRelayHall$Queue;II)LRelayHall$Message;"⟩ : Jvm.MethodName) prog_9_method_3_code 5 (some (.object "RelayHall$Message"))).before start1.args0 rf_s = true := su_hand_word (m := ⟨45, 2⟩) (by decide +kernel) rfl (by decide +kernel) (by decide +kernel)
set_option maxRecDepth 100000 in
theorem rf_code253 : (Jvm.Cond.code (⟨"RelayHall$Message", "<init>", "(LRelayHall$Message;Ljava/lang/String;Ljava/lang/String;)V"⟩ : Jvm.MethodName) prog_9_method_2_code 4 none).before start1.args0 rf_s = true := su_hand_word (m := ⟨45, 1⟩) (by decide +kernel) rfl (by decide +kernel) (by decide +kernel)
set_option maxRecDepth 100000 in
theorem rf_code254 : (Jvm.Cond.code (⟨"RelayHall", "giveBack", "(LRelayHall$Channel;LRelayHall$Message;)V"⟩ : Jvm.MethodName) prog_1_method_81_code 4 none).before start1.args0 rf_s = true := su_hand_word (m := ⟨2, 80⟩) (by decide +kernel) rfl (by decide +kernel) (by decide +kernel)
set_option maxRecDepth 100000 in
theorem rf_code255 : (Jvm.Cond.code (⟨"RelayHall", "rollBack", "(LRelayHall$Channel;)V"⟩ : Jvm.MethodName) prog_1_method_108_code 2 none).before start1.args0 rf_s = true := su_hand_word (m := ⟨2, 107⟩) (by decide +kernel) rfl (by decide +kernel) (by decide +kernel)
set_option maxRecDepth 100000 in
theorem rf_code256 : (Jvm.Cond.code (⟨"RelayHall$Channel", "forgetKept", "()V"⟩ : Jvm.MethodName) prog_3_method_5_code 2 none).before start1.args0 rf_s = true := su_hand_word (m := ⟨9, 4⟩) (by decide +kernel) rfl (by decide +kernel) (by decide +kernel)
set_option maxRecDepth 100000 in
theorem rf_code257 : (Jvm.Cond.code (⟨"RelayHall", "takeHeader", "(LRelayHall$Channel;)V"⟩ : Jvm.MethodName) prog_1_method_78_code 7 none).before start1.args0 rf_s = true := su_hand_word (m := ⟨2, 77⟩) (by decide +kernel) rfl (by decide +kernel) (by decide +kernel)
set_option maxRecDepth 100000 in
theorem rf_code258 : (Jvm.Cond.code (⟨"RelayHall", "takeContent", "(LRelayHall$Channel;)V"⟩ : Jvm.MethodName) prog_1_method_80_code 5 none).before start1.args0 rf_s = true := su_hand_word (m := ⟨2, 79⟩) (by decide +kernel) rfl (by decide +kernel) (by decide +kernel)
set_option maxRecDepth 100000 in
theorem rf_code259 : (Jvm.Cond.code (⟨"RelayHall", "confirm", "(LRelayHall$Channel;Z)V"⟩ : Jvm.MethodName) prog_1_method_82_code 3 none).before start1.args0 rf_s = true := su_hand_word (m := ⟨2, 81⟩) (by decide +kernel) rfl (by decide +kernel) (by decide +kernel)
set_option maxRecDepth 100000 in
theorem rf_code260 : (Jvm.Cond.code (⟨"java/lang/Integer", "valueOf", "(I)Ljava/lang/Integer;"⟩ : Jvm.MethodName) prog_35_method_22_code 1 (some (.object "java/lang/Integer"))).before start1.args0 rf_s = true := su_hand_word (m := ⟨49, 2⟩) (by decide +kernel) rfl (by decide +kernel) (by decide +kernel)
set_option maxRecDepth 100000 in
theorem rf_code261 : (Jvm.Cond.code (⟨"java/lang/Integer", "<init>", "(I)V"⟩ : Jvm.MethodName) prog_35_method_23_code 2 none).before start1.args0 rf_s = true := su_hand_word (m := ⟨49, 3⟩) (by decide +kernel) rfl (by decide +kernel) (by decide +kernel)
set_option maxRecDepth 100000 in
theorem rf_code262 : (Jvm.Cond.code (⟨"java/lang/Number", "<init>", "()V"⟩ : Jvm.MethodName) prog_39_method_1_code 1 none).before start1.args0 rf_s = true := su_hand_word (m := ⟨42, 0⟩) (by decide +kernel) rfl (by decide +kernel) (by decide +kernel)
set_option maxRecDepth 100000 in
theorem rf_code263 : (Jvm.Cond.code (⟨"RelayHall", "sendConfirm", "(LRelayHall$Channel;I)V"⟩ : Jvm.MethodName) prog_1_method_83_code 4 none).before start1.args0 rf_s = true := su_hand_word (m := ⟨2, 82⟩) (by decide +kernel) rfl (by decide +kernel) (by decide +kernel)
set_option maxRecDepth 100000 in
theorem rf_code264 : (Jvm.Cond.code (⟨"RelayHall", "takeBody", "(LRelayHall$Channel;)V"⟩ : Jvm.MethodName) prog_1_method_79_code 4 none).before start1.args0 rf_s = true := su_hand_word (m := ⟨2, 78⟩) (by decide +kernel) rfl (by decide +kernel) (by decide +kernel)
set_option maxRecDepth 100000 in
theorem rf_code265 : (Jvm.Cond.code (⟨"RelayHall$Reader", "left", "()I"⟩ : Jvm.MethodName) prog_11_method_10_code 1 (some .int)).before start1.args0 rf_s = true := su_hand_word (m := ⟨5, 9⟩) (by decide +kernel) rfl (by decide +kernel) (by decide +kernel)
set_option maxRecDepth 100000 in
theorem rf_code266 : (Jvm.Cond.code (⟨"RelayHall", "dispatch", "()V"⟩ : Jvm.MethodName) prog_1_method_96_code 2 none).before start1.args0 rf_s = true := su_hand_word (m := ⟨2, 95⟩) (by decide +kernel) rfl (by decide +kernel) (by decide +kernel)
set_option maxRecDepth 100000 in
theorem rf_code267 : (Jvm.Cond.code (⟨"RelayHall", "letLeave", "()V"⟩ : Jvm.MethodName) prog_1_method_38_code 3 none).before start1.args0 rf_s = true := su_hand_word (m := ⟨2, 37⟩) (by decide +kernel) rfl (by decide +kernel) (by decide +kernel)
set_option maxRecDepth 100000 in
theorem rf_code268 : (Jvm.Cond.code (⟨"RelayHall", "gone", "(LRelayHall$Channel;)V"⟩ : Jvm.MethodName) prog_1_method_40_code 4 none).before start1.args0 rf_s = true := su_hand_word (m := ⟨2, 39⟩) (by decide +kernel) rfl (by decide +kernel) (by decide +kernel)
set_option maxRecDepth 16384 in
theorem rf_oth_8_0 : (tables_1_8.take 49).all (fun c => su_isCode c || c.before start1.args0 rf_s) = true := by decide +kernel
set_option maxRecDepth 16384 in
theorem rf_oth_8_1 : ((tables_1_8.drop 49).take 69).all (fun c => su_isCode c || c.before start1.args0 rf_s) = true := by decide +kernel
set_option maxRecDepth 16384 in
theorem rf_oth_8_2 : (((tables_1_8.drop 49).drop 69).take 68).all (fun c => su_isCode c || c.before start1.args0 rf_s) = true := by decide +kernel
set_option maxRecDepth 16384 in
theorem rf_oth_8_3 : ((((tables_1_8.drop 49).drop 69).drop 68)).all (fun c => su_isCode c || c.before start1.args0 rf_s) = true := by decide +kernel
theorem rf_words_8 : ∀ c ∈ tables_1_8, c.before start1.args0 rf_s = true := fun c h => su_words ((start1.su_all_split _ 49 tables_1_8 rf_oth_8_0 (start1.su_all_split _ 69 (tables_1_8.drop 49) rf_oth_8_1 (start1.su_all_split _ 68 ((tables_1_8.drop 49).drop 69) rf_oth_8_2 rf_oth_8_3)))) (by
  rw [start1.codes_are_8]
  exact (List.forall_mem_cons.mpr ⟨rf_code221, (List.forall_mem_cons.mpr ⟨rf_code222, (List.forall_mem_cons.mpr ⟨rf_code223, (List.forall_mem_cons.mpr ⟨rf_code224, (List.forall_mem_cons.mpr ⟨rf_code225, (List.forall_mem_cons.mpr ⟨rf_code226, (List.forall_mem_cons.mpr ⟨rf_code227, (List.forall_mem_cons.mpr ⟨rf_code228, (List.forall_mem_cons.mpr ⟨rf_code229, (List.forall_mem_cons.mpr ⟨rf_code230, (List.forall_mem_cons.mpr ⟨rf_code231, (List.forall_mem_cons.mpr ⟨rf_code232, (List.forall_mem_cons.mpr ⟨rf_code233, (List.forall_mem_cons.mpr ⟨rf_code234, (List.forall_mem_cons.mpr ⟨rf_code235, (List.forall_mem_cons.mpr ⟨rf_code236, (List.forall_mem_cons.mpr ⟨rf_code237, (List.forall_mem_cons.mpr ⟨rf_code238, (List.forall_mem_cons.mpr ⟨rf_code239, (List.forall_mem_cons.mpr ⟨rf_code240, (List.forall_mem_cons.mpr ⟨rf_code241, (List.forall_mem_cons.mpr ⟨rf_code242, (List.forall_mem_cons.mpr ⟨rf_code243, (List.forall_mem_cons.mpr ⟨rf_code244, (List.forall_mem_cons.mpr ⟨rf_code245, (List.forall_mem_cons.mpr ⟨rf_code246, (List.forall_mem_cons.mpr ⟨rf_code247, (List.forall_mem_cons.mpr ⟨rf_code248, (List.forall_mem_cons.mpr ⟨rf_code249, (List.forall_mem_cons.mpr ⟨rf_code250, (List.forall_mem_cons.mpr ⟨rf_code251, (List.forall_mem_cons.mpr ⟨rf_code252, (List.forall_mem_cons.mpr ⟨rf_code253, (List.forall_mem_cons.mpr ⟨rf_code254, (List.forall_mem_cons.mpr ⟨rf_code255, (List.forall_mem_cons.mpr ⟨rf_code256, (List.forall_mem_cons.mpr ⟨rf_code257, (List.forall_mem_cons.mpr ⟨rf_code258, (List.forall_mem_cons.mpr ⟨rf_code259, (List.forall_mem_cons.mpr ⟨rf_code260, (List.forall_mem_cons.mpr ⟨rf_code261, (List.forall_mem_cons.mpr ⟨rf_code262, (List.forall_mem_cons.mpr ⟨rf_code263, (List.forall_mem_cons.mpr ⟨rf_code264, (List.forall_mem_cons.mpr ⟨rf_code265, (List.forall_mem_cons.mpr ⟨rf_code266, (List.forall_mem_cons.mpr ⟨rf_code267, (List.forall_mem_cons.mpr ⟨rf_code268, (fun _ h => absurd h List.not_mem_nil)⟩)⟩)⟩)⟩)⟩)⟩)⟩)⟩)⟩)⟩)⟩)⟩)⟩)⟩)⟩)⟩)⟩)⟩)⟩)⟩)⟩)⟩)⟩)⟩)⟩)⟩)⟩)⟩)⟩)⟩)⟩)⟩)⟩)⟩)⟩)⟩)⟩)⟩)⟩)⟩)⟩)⟩)⟩)⟩)⟩)⟩)⟩)⟩)) c h
end XW8
