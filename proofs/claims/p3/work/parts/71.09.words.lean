section XW9
set_option maxRecDepth 100000 in
theorem rf_code269 : (Jvm.Cond.code (⟨"RelayHall", "letLeaveWhole", "(LRelayHall$Connection;)V"⟩ : Jvm.MethodName) prog_1_method_39_code 5 none).before start1.args0 rf_s = true := su_hand_word (m := ⟨2, 38⟩) (by decide +kernel) rfl (by decide +kernel) (by decide +kernel)
set_option maxRecDepth 100000 in
theorem rf_code270 : (Jvm.Cond.code (⟨"RelayHall", "dispatchOne", "()Z"⟩ : Jvm.MethodName) prog_1_method_97_code 4 (some .boolean)).before start1.args0 rf_s = true := su_hand_word (m := ⟨2, 96⟩) (by decide +kernel) rfl (by decide +kernel) (by decide +kernel)
set_option maxRecDepth 100000 in
theorem rf_code271 : (Jvm.Cond.code (⟨"RelayHall$Message", "buried", "()LRelayHall$Message;"⟩ : Jvm.MethodName) prog_9_method_4_code 2 (some (.object "RelayHall$Message"))).before start1.args0 rf_s = true := su_hand_word (m := ⟨45, 3⟩) (by decide +kernel) rfl (by decide +kernel) (by decide +kernel)
set_option maxRecDepth 100000 in
theorem rf_code272 : (Jvm.Cond.code (⟨"RelayHall", "nextConsumer", "(LRelayHall$Queue;)LRelayHall$Consumer;"⟩ : Jvm.MethodName) prog_1_method_98_code 6 (some (.object "RelayHall$Consumer"))).before start1.args0 rf_s = true := su_hand_word (m := ⟨2, 97⟩) (by decide +kernel) rfl (by decide +kernel) (by decide +kernel)
set_option maxRecDepth 100000 in
theorem rf_code273 : (Jvm.Cond.code (⟨"RelayHall$Consumer", "hasCredit", "()Z"⟩ : Jvm.MethodName) prog_5_method_2_code 2 (some .boolean)).before start1.args0 rf_s = true := su_hand_word (m := ⟨21, 1⟩) (by decide +kernel) rfl (by decide +kernel) (by decide +kernel)
set_option maxRecDepth 100000 in
theorem rf_code274 : (Jvm.Cond.code (⟨"RelayHall", "deliver", "(LRelayHall$Queue;LRelayHall$Consumer;)V"⟩ : Jvm.MethodName) prog_1_method_99_code 6 none).before start1.args0 rf_s = true := su_hand_word (m := ⟨2, 98⟩) (by decide +kernel) rfl (by decide +kernel) (by decide +kernel)
set_option maxRecDepth 100000 in
theorem rf_code275 : (Jvm.Cond.code (⟨"RelayHall", "cut", "(I)Z"⟩ : Jvm.MethodName) prog_1_method_5_code 2 (some .boolean)).before start1.args0 rf_s = true := su_hand_word (m := ⟨2, 4⟩) (by decide +kernel) rfl (by decide +kernel) (by decide +kernel)
set_option maxRecDepth 100000 in
theorem rf_code276 : (Jvm.Cond.code (⟨"RelayHall", "waiting", "(I)I"⟩ : Jvm.MethodName) prog_1_method_6_code 2 (some .int)).before start1.args0 rf_s = true := su_hand_word (m := ⟨2, 5⟩) (by decide +kernel) rfl (by decide +kernel) (by decide +kernel)
set_option maxRecDepth 100000 in
theorem rf_code277 : (Jvm.Cond.code (⟨"RelayHall", "connection", "(II)I"⟩ : Jvm.MethodName) prog_1_method_10_code 4 (some .int)).before start1.args0 rf_s = true := su_hand_word (m := ⟨2, 9⟩) (by decide +kernel) rfl (by decide +kernel) (by decide +kernel)
set_option maxRecDepth 100000 in
theorem rf_code278 : (Jvm.Cond.code (⟨"RelayHall$Connection", "openChannels", "()I"⟩ : Jvm.MethodName) prog_4_method_4_code 3 (some .int)).before start1.args0 rf_s = true := su_hand_word (m := ⟨8, 3⟩) (by decide +kernel) rfl (by decide +kernel) (by decide +kernel)
set_option maxRecDepth 100000 in
theorem rf_code279 : (Jvm.Cond.code (⟨"RelayHall", "channel", "(III)I"⟩ : Jvm.MethodName) prog_1_method_11_code 5 (some .int)).before start1.args0 rf_s = true := su_hand_word (m := ⟨2, 10⟩) (by decide +kernel) rfl (by decide +kernel) (by decide +kernel)
set_option maxRecDepth 100000 in
theorem rf_code280 : (Jvm.Cond.code (⟨"RelayHall", "consumersOn", "(LRelayHall$Channel;)I"⟩ : Jvm.MethodName) prog_1_method_24_code 4 (some .int)).before start1.args0 rf_s = true := su_hand_word (m := ⟨2, 23⟩) (by decide +kernel) rfl (by decide +kernel) (by decide +kernel)
set_option maxRecDepth 100000 in
theorem rf_code281 : (Jvm.Cond.code (⟨"RelayHall", "queue", "(II)I"⟩ : Jvm.MethodName) prog_1_method_12_code 4 (some .int)).before start1.args0 rf_s = true := su_hand_word (m := ⟨2, 11⟩) (by decide +kernel) rfl (by decide +kernel) (by decide +kernel)
set_option maxRecDepth 100000 in
theorem rf_code282 : (Jvm.Cond.code (⟨"RelayHall", "bindingsTo", "(LRelayHall$Queue;)I"⟩ : Jvm.MethodName) prog_1_method_26_code 4 (some .int)).before start1.args0 rf_s = true := su_hand_word (m := ⟨2, 25⟩) (by decide +kernel) rfl (by decide +kernel) (by decide +kernel)
set_option maxRecDepth 100000 in
theorem rf_code283 : (Jvm.Cond.code (⟨"RelayHall", "byteOf", "(Ljava/lang/String;I)I"⟩ : Jvm.MethodName) prog_1_method_16_code 2 (some .int)).before start1.args0 rf_s = true := su_hand_word (m := ⟨2, 15⟩) (by decide +kernel) rfl (by decide +kernel) (by decide +kernel)
set_option maxRecDepth 100000 in
theorem rf_code284 : (Jvm.Cond.code (⟨"RelayHall", "exchange", "(II)I"⟩ : Jvm.MethodName) prog_1_method_13_code 4 (some .int)).before start1.args0 rf_s = true := su_hand_word (m := ⟨2, 12⟩) (by decide +kernel) rfl (by decide +kernel) (by decide +kernel)
set_option maxRecDepth 100000 in
theorem rf_code285 : (Jvm.Cond.code (⟨"RelayHall", "total", "(I)I"⟩ : Jvm.MethodName) prog_1_method_14_code 2 (some .int)).before start1.args0 rf_s = true := su_hand_word (m := ⟨2, 13⟩) (by decide +kernel) rfl (by decide +kernel) (by decide +kernel)
set_option maxRecDepth 100000 in
theorem rf_code286 : (Jvm.Cond.code (⟨"RelayHall", "read", "(II)J"⟩ : Jvm.MethodName) prog_1_method_7_code 6 (some .long)).before start1.args0 rf_s = true := su_hand_word (m := ⟨2, 6⟩) (by decide +kernel) rfl (by decide +kernel) (by decide +kernel)
set_option maxRecDepth 100000 in
theorem rf_code287 : (Jvm.Cond.code (⟨"java/lang/IndexOutOfBoundsException", "<init>", "()V"⟩ : Jvm.MethodName) prog_34_method_1_code 1 none).before start1.args0 rf_s = true := su_hand_word (m := ⟨55, 0⟩) (by decide +kernel) rfl (by decide +kernel) (by decide +kernel)
set_option maxRecDepth 100000 in
theorem rf_code288 : (Jvm.Cond.code (⟨"java/lang/RuntimeException", "<init>", "()V"⟩ : Jvm.MethodName) prog_40_method_1_code 1 none).before start1.args0 rf_s = true := su_hand_word (m := ⟨51, 0⟩) (by decide +kernel) rfl (by decide +kernel) (by decide +kernel)
set_option maxRecDepth 100000 in
theorem rf_code289 : (Jvm.Cond.code (⟨"java/lang/Exception", "<init>", "()V"⟩ : Jvm.MethodName) prog_32_method_1_code 1 none).before start1.args0 rf_s = true := su_hand_word (m := ⟨48, 0⟩) (by decide +kernel) rfl (by decide +kernel) (by decide +kernel)
set_option maxRecDepth 100000 in
theorem rf_code290 : (Jvm.Cond.code (⟨"java/util/NoSuchElementException", "<init>", "()V"⟩ : Jvm.MethodName) prog_54_method_1_code 1 none).before start1.args0 rf_s = true := su_hand_word (m := ⟨56, 0⟩) (by decide +kernel) rfl (by decide +kernel) (by decide +kernel)
set_option maxRecDepth 100000 in
theorem rf_code291 : (Jvm.Cond.code (⟨"RelayHall$Connection", "pull", "()I"⟩ : Jvm.MethodName) prog_4_method_20_code 2 (some .int)).before start1.args0 rf_s = true := su_hand_word (m := ⟨8, 19⟩) (by decide +kernel) rfl (by decide +kernel) (by decide +kernel)
set_option maxRecDepth 100000 in
theorem rf_code292 : (Jvm.Cond.code (⟨"RelayHall", "tick", "(I)I"⟩ : Jvm.MethodName) prog_1_method_8_code 4 (some .int)).before start1.args0 rf_s = true := su_hand_word (m := ⟨2, 7⟩) (by decide +kernel) rfl (by decide +kernel) (by decide +kernel)
set_option maxRecDepth 100000 in
theorem rf_code293 : (Jvm.Cond.code (⟨"java/lang/IllegalArgumentException", "<init>", "()V"⟩ : Jvm.MethodName) prog_33_method_1_code 1 none).before start1.args0 rf_s = true := su_hand_word (m := ⟨54, 0⟩) (by decide +kernel) rfl (by decide +kernel) (by decide +kernel)
set_option maxRecDepth 100000 in
theorem rf_code294 : (Jvm.Cond.code (⟨"RelayHall$Log", "makeSafe", "(I)V"⟩ : Jvm.MethodName) prog_8_method_2_code 4 none).before start1.args0 rf_s = true := su_hand_word (m := ⟨4, 1⟩) (by decide +kernel) rfl (by decide +kernel) (by decide +kernel)
set_option maxRecDepth 100000 in
theorem rf_code295 : (Jvm.Cond.code (⟨"RelayHall$Log", "remove", "(LRelayHall$Durable;)V"⟩ : Jvm.MethodName) prog_8_method_3_code 4 none).before start1.args0 rf_s = true := su_hand_word (m := ⟨4, 2⟩) (by decide +kernel) rfl (by decide +kernel) (by decide +kernel)
set_option maxRecDepth 100000 in
theorem rf_code296 : (Jvm.Cond.code (⟨"RelayHall$Binding", "goesWith", "(LRelayHall$Durable;)Z"⟩ : Jvm.MethodName) prog_2_method_2_code 2 (some .boolean)).before start1.args0 rf_s = true := su_hand_word (m := ⟨44, 1⟩) (by decide +kernel) rfl (by decide +kernel) (by decide +kernel)
set_option maxRecDepth 100000 in
theorem rf_code297 : (Jvm.Cond.code (⟨"RelayHall$Message", "goesWith", "(LRelayHall$Durable;)Z"⟩ : Jvm.MethodName) prog_9_method_5_code 2 (some .boolean)).before start1.args0 rf_s = true := su_hand_word (m := ⟨45, 4⟩) (by decide +kernel) rfl (by decide +kernel) (by decide +kernel)
set_option maxRecDepth 100000 in
theorem rf_code298 : (Jvm.Cond.code (⟨"RelayHall$Durable", "goesWith", "(LRelayHall$Durable;)Z"⟩ : Jvm.MethodName) prog_6_method_2_code 2 (some .boolean)).before start1.args0 rf_s = true := su_hand_word (m := ⟨3, 1⟩) (by decide +kernel) rfl (by decide +kernel) (by decide +kernel)
set_option maxRecDepth 100000 in
theorem rf_code299 : (Jvm.Cond.code (⟨"RelayHall", "sendConfirmsDue", "()V"⟩ : Jvm.MethodName) prog_1_method_110_code 5 none).before start1.args0 rf_s = true := su_hand_word (m := ⟨2, 109⟩) (by decide +kernel) rfl (by decide +kernel) (by decide +kernel)
set_option maxRecDepth 100000 in
theorem rf_code300 : (Jvm.Cond.code (⟨"java/lang/Integer", "intValue", "()I"⟩ : Jvm.MethodName) prog_35_method_27_code 1 (some .int)).before start1.args0 rf_s = true := su_hand_word (m := ⟨49, 4⟩) (by decide +kernel) rfl (by decide +kernel) (by decide +kernel)
set_option maxRecDepth 100000 in
theorem rf_code301 : (Jvm.Cond.code (⟨"RelayHall", "expire", "()V"⟩ : Jvm.MethodName) prog_1_method_90_code 5 none).before start1.args0 rf_s = true := su_hand_word (m := ⟨2, 89⟩) (by decide +kernel) rfl (by decide +kernel) (by decide +kernel)
set_option maxRecDepth 100000 in
theorem rf_code302 : (Jvm.Cond.code (⟨"RelayHall$Message", "isExpired", "(I)Z"⟩ : Jvm.MethodName) prog_9_method_7_code 3 (some .boolean)).before start1.args0 rf_s = true := su_hand_word (m := ⟨45, 6⟩) (by decide +kernel) rfl (by decide +kernel) (by decide +kernel)
set_option maxRecDepth 100000 in
theorem rf_code303 : (Jvm.Cond.code (⟨"RelayHall", "watch", "(LRelayHall$Connection;)V"⟩ : Jvm.MethodName) prog_1_method_111_code 2 none).before start1.args0 rf_s = true := su_hand_word (m := ⟨2, 110⟩) (by decide +kernel) rfl (by decide +kernel) (by decide +kernel)
set_option maxRecDepth 100000 in
theorem rf_code304 : (Jvm.Cond.code (⟨"RelayHall", "crash", "(I)I"⟩ : Jvm.MethodName) prog_1_method_9_code 3 (some .int)).before start1.args0 rf_s = true := su_hand_word (m := ⟨2, 8⟩) (by decide +kernel) rfl (by decide +kernel) (by decide +kernel)
set_option maxRecDepth 100000 in
theorem rf_code305 : (Jvm.Cond.code (⟨"RelayHall$Connection", "drop", "()V"⟩ : Jvm.MethodName) prog_4_method_3_code 2 none).before start1.args0 rf_s = true := su_hand_word (m := ⟨8, 2⟩) (by decide +kernel) rfl (by decide +kernel) (by decide +kernel)
set_option maxRecDepth 100000 in
theorem rf_code306 : (Jvm.Cond.code (⟨"RelayHall", "forgetAll", "()V"⟩ : Jvm.MethodName) prog_1_method_112_code 1 none).before start1.args0 rf_s = true := su_hand_word (m := ⟨2, 111⟩) (by decide +kernel) rfl (by decide +kernel) (by decide +kernel)
set_option maxRecDepth 100000 in
theorem rf_code307 : (Jvm.Cond.code (⟨"RelayHall", "restore", "()V"⟩ : Jvm.MethodName) prog_1_method_113_code 7 none).before start1.args0 rf_s = true := su_hand_word (m := ⟨2, 112⟩) (by decide +kernel) rfl (by decide +kernel) (by decide +kernel)
set_option maxRecDepth 100000 in
theorem rf_code308 : (Jvm.Cond.code (⟨"RelayHall$Queue", "restart", "()V"⟩ : Jvm.MethodName) prog_10_method_5_code 1 none).before start1.args0 rf_s = true := su_hand_word (m := ⟨43, 4⟩) (by decide +kernel) rfl (by decide +kernel) (by decide +kernel)
set_option maxRecDepth 100000 in
theorem rf_code309 : (Jvm.Cond.code (⟨"RelayHallModel", "<init>", "()V"⟩ : Jvm.MethodName) prog_14_method_1_code 5 none).before start1.args0 rf_s = true := su_hand_word (m := ⟨10, 0⟩) (by decide +kernel) rfl (by decide +kernel) (by decide +kernel)
set_option maxRecDepth 100000 in
theorem rf_code310 : (Jvm.Cond.code (⟨"RelayHallModel$Connection", "<init>", "()V"⟩ : Jvm.MethodName) prog_17_method_1_code 1 none).before start1.args0 rf_s = true := su_hand_word (m := ⟨11, 0⟩) (by decide +kernel) rfl (by decide +kernel) (by decide +kernel)
set_option maxRecDepth 16384 in
theorem rf_oth_9_0 : (tables_1_9.take 61).all (fun c => su_isCode c || c.before start1.args0 rf_s) = true := by decide +kernel
set_option maxRecDepth 16384 in
theorem rf_oth_9_1 : ((tables_1_9.drop 61).take 80).all (fun c => su_isCode c || c.before start1.args0 rf_s) = true := by decide +kernel
set_option maxRecDepth 16384 in
theorem rf_oth_9_2 : (((tables_1_9.drop 61).drop 80).take 80).all (fun c => su_isCode c || c.before start1.args0 rf_s) = true := by decide +kernel
set_option maxRecDepth 16384 in
theorem rf_oth_9_3 : ((((tables_1_9.drop 61).drop 80).drop 80)).all (fun c => su_isCode c || c.before start1.args0 rf_s) = true := by decide +kernel
theorem rf_words_9 : ∀ c ∈ tables_1_9, c.before start1.args0 rf_s = true := fun c h => su_words ((start1.su_all_split _ 61 tables_1_9 rf_oth_9_0 (start1.su_all_split _ 80 (tables_1_9.drop 61) rf_oth_9_1 (start1.su_all_split _ 80 ((tables_1_9.drop 61).drop 80) rf_oth_9_2 rf_oth_9_3)))) (by
  rw [start1.codes_are_9]
  exact (List.forall_mem_cons.mpr ⟨rf_code269, (List.forall_mem_cons.mpr ⟨rf_code270, (List.forall_mem_cons.mpr ⟨rf_code271, (List.forall_mem_cons.mpr ⟨rf_code272, (List.forall_mem_cons.mpr ⟨rf_code273, (List.forall_mem_cons.mpr ⟨rf_code274, (List.forall_mem_cons.mpr ⟨rf_code275, (List.forall_mem_cons.mpr ⟨rf_code276, (List.forall_mem_cons.mpr ⟨rf_code277, (List.forall_mem_cons.mpr ⟨rf_code278, (List.forall_mem_cons.mpr ⟨rf_code279, (List.forall_mem_cons.mpr ⟨rf_code280, (List.forall_mem_cons.mpr ⟨rf_code281, (List.forall_mem_cons.mpr ⟨rf_code282, (List.forall_mem_cons.mpr ⟨rf_code283, (List.forall_mem_cons.mpr ⟨rf_code284, (List.forall_mem_cons.mpr ⟨rf_code285, (List.forall_mem_cons.mpr ⟨rf_code286, (List.forall_mem_cons.mpr ⟨rf_code287, (List.forall_mem_cons.mpr ⟨rf_code288, (List.forall_mem_cons.mpr ⟨rf_code289, (List.forall_mem_cons.mpr ⟨rf_code290, (List.forall_mem_cons.mpr ⟨rf_code291, (List.forall_mem_cons.mpr ⟨rf_code292, (List.forall_mem_cons.mpr ⟨rf_code293, (List.forall_mem_cons.mpr ⟨rf_code294, (List.forall_mem_cons.mpr ⟨rf_code295, (List.forall_mem_cons.mpr ⟨rf_code296, (List.forall_mem_cons.mpr ⟨rf_code297, (List.forall_mem_cons.mpr ⟨rf_code298, (List.forall_mem_cons.mpr ⟨rf_code299, (List.forall_mem_cons.mpr ⟨rf_code300, (List.forall_mem_cons.mpr ⟨rf_code301, (List.forall_mem_cons.mpr ⟨rf_code302, (List.forall_mem_cons.mpr ⟨rf_code303, (List.forall_mem_cons.mpr ⟨rf_code304, (List.forall_mem_cons.mpr ⟨rf_code305, (List.forall_mem_cons.mpr ⟨rf_code306, (List.forall_mem_cons.mpr ⟨rf_code307, (List.forall_mem_cons.mpr ⟨rf_code308, (List.forall_mem_cons.mpr ⟨rf_code309, (List.forall_mem_cons.mpr ⟨rf_code310, (fun _ h => absurd h List.not_mem_nil)⟩)⟩)⟩)⟩)⟩)⟩)⟩)⟩)⟩)⟩)⟩)⟩)⟩)⟩)⟩)⟩)⟩)⟩)⟩)⟩)⟩)⟩)⟩)⟩)⟩)⟩)⟩)⟩)⟩)⟩)⟩)⟩)⟩)⟩)⟩)⟩)⟩)⟩)⟩)⟩)⟩)⟩)) c h
end XW9
