section XW14
set_option maxRecDepth 100000 in
theorem rf_code441 : (Jvm.Cond.code (⟨"RelayHallModel", "sendTag", "(LRelayHallModel$Channel;I[B)V"⟩ : Jvm.MethodName) prog_14_method_116_code 4 none).before start1.args0 rf_s = true := su_hand_word (m := ⟨10, 114⟩) (by decide +kernel) rfl (by decide +kernel) (by decide +kernel)
set_option maxRecDepth 100000 in
theorem rf_code442 : (Jvm.Cond.code (⟨"RelayHallModel", "cancels", "(LRelayHallModel$Channel;)V"⟩ : Jvm.MethodName) prog_14_method_117_code 5 none).before start1.args0 rf_s = true := su_hand_word (m := ⟨10, 115⟩) (by decide +kernel) rfl (by decide +kernel) (by decide +kernel)
set_option maxRecDepth 100000 in
theorem rf_code443 : (Jvm.Cond.code (⟨"RelayHallModel", "publishes", "(LRelayHallModel$Channel;)V"⟩ : Jvm.MethodName) prog_14_method_118_code 6 none).before start1.args0 rf_s = true := su_hand_word (m := ⟨10, 116⟩) (by decide +kernel) rfl (by decide +kernel) (by decide +kernel)
set_option maxRecDepth 100000 in
theorem rf_code444 : (Jvm.Cond.code (⟨"RelayHallModel$Content", "<init>", "()V"⟩ : Jvm.MethodName) prog_19_method_1_code 1 none).before start1.args0 rf_s = true := su_hand_word (m := ⟨32, 0⟩) (by decide +kernel) rfl (by decide +kernel) (by decide +kernel)
set_option maxRecDepth 100000 in
theorem rf_code445 : (Jvm.Cond.code (⟨"RelayHallModel", "get", "(LRelayHallModel$Channel;)V"⟩ : Jvm.MethodName) prog_14_method_119_code 7 none).before start1.args0 rf_s = true := su_hand_word (m := ⟨10, 117⟩) (by decide +kernel) rfl (by decide +kernel) (by decide +kernel)
set_option maxRecDepth 100000 in
theorem rf_code446 : (Jvm.Cond.code (⟨"RelayHallModel", "recovers", "(LRelayHallModel$Channel;)V"⟩ : Jvm.MethodName) prog_14_method_126_code 4 none).before start1.args0 rf_s = true := su_hand_word (m := ⟨10, 124⟩) (by decide +kernel) rfl (by decide +kernel) (by decide +kernel)
set_option maxRecDepth 100000 in
theorem rf_code447 : (Jvm.Cond.code (⟨"RelayHallModel", "onTag", "(LRelayHallModel$Channel;)V"⟩ : Jvm.MethodName) prog_14_method_135_code 4 none).before start1.args0 rf_s = true := su_hand_word (m := ⟨10, 133⟩) (by decide +kernel) rfl (by decide +kernel) (by decide +kernel)
set_option maxRecDepth 100000 in
theorem rf_code448 : (Jvm.Cond.code (⟨"RelayHallModel", "acknowledges", "(LRelayHallModel$Channel;IZI)V"⟩ : Jvm.MethodName) prog_14_method_124_code 8 none).before start1.args0 rf_s = true := su_hand_word (m := ⟨10, 122⟩) (by decide +kernel) rfl (by decide +kernel) (by decide +kernel)
set_option maxRecDepth 100000 in
theorem rf_code449 : (Jvm.Cond.code (⟨"RelayHallModel", "told", "(LRelayHallModel$Channel;IZ)[LRelayHallModel$Sent;"⟩ : Jvm.MethodName) prog_14_method_122_code 9 (some (.array (.object "RelayHallModel$Sent")))).before start1.args0 rf_s = true := su_hand_word (m := ⟨10, 120⟩) (by decide +kernel) rfl (by decide +kernel) (by decide +kernel)
set_option maxRecDepth 100000 in
theorem rf_code450 : (Jvm.Cond.code (⟨"RelayHallModel", "below", "(II)Z"⟩ : Jvm.MethodName) prog_14_method_123_code 2 (some .boolean)).before start1.args0 rf_s = true := su_hand_word (m := ⟨10, 121⟩) (by decide +kernel) rfl (by decide +kernel) (by decide +kernel)
set_option maxRecDepth 100000 in
theorem rf_code451 : (Jvm.Cond.code (⟨"RelayHallModel", "remove", "(LRelayHallModel$Channel;LRelayHallModel$Sent;)V"⟩ : Jvm.MethodName) prog_14_method_121_code 4 none).before start1.args0 rf_s = true := su_hand_word (m := ⟨10, 119⟩) (by decide +kernel) rfl (by decide +kernel) (by decide +kernel)
set_option maxRecDepth 100000 in
theorem rf_code452 : (Jvm.Cond.code (⟨"RelayHallModel", "settle", "(LRelayHallModel$Sent;I)V"⟩ : Jvm.MethodName) prog_14_method_120_code 3 none).before start1.args0 rf_s = true := su_hand_word (m := ⟨10, 118⟩) (by decide +kernel) rfl (by decide +kernel) (by decide +kernel)
set_option maxRecDepth 100000 in
theorem rf_code453 : (Jvm.Cond.code (⟨"RelayHallModel", "keeps", "(LRelayHallModel$Channel;)LRelayHallModel$Kept;"⟩ : Jvm.MethodName) prog_14_method_125_code 3 (some (.object "RelayHallModel$Kept"))).before start1.args0 rf_s = true := su_hand_word (m := ⟨10, 123⟩) (by decide +kernel) rfl (by decide +kernel) (by decide +kernel)
set_option maxRecDepth 100000 in
theorem rf_code454 : (Jvm.Cond.code (⟨"RelayHallModel$Kept", "<init>", "()V"⟩ : Jvm.MethodName) prog_24_method_1_code 1 none).before start1.args0 rf_s = true := su_hand_word (m := ⟨33, 0⟩) (by decide +kernel) rfl (by decide +kernel) (by decide +kernel)
set_option maxRecDepth 100000 in
theorem rf_code455 : (Jvm.Cond.code (⟨"RelayHallModel", "confirms", "(LRelayHallModel$Channel;)V"⟩ : Jvm.MethodName) prog_14_method_129_code 3 none).before start1.args0 rf_s = true := su_hand_word (m := ⟨10, 127⟩) (by decide +kernel) rfl (by decide +kernel) (by decide +kernel)
set_option maxRecDepth 100000 in
theorem rf_code456 : (Jvm.Cond.code (⟨"RelayHallModel", "transaction", "(LRelayHallModel$Channel;I)V"⟩ : Jvm.MethodName) prog_14_method_128_code 4 none).before start1.args0 rf_s = true := su_hand_word (m := ⟨10, 126⟩) (by decide +kernel) rfl (by decide +kernel) (by decide +kernel)
set_option maxRecDepth 100000 in
theorem rf_code457 : (Jvm.Cond.code (⟨"RelayHallModel", "commits", "(LRelayHallModel$Channel;)V"⟩ : Jvm.MethodName) prog_14_method_127_code 6 none).before start1.args0 rf_s = true := su_hand_word (m := ⟨10, 125⟩) (by decide +kernel) rfl (by decide +kernel) (by decide +kernel)
set_option maxRecDepth 100000 in
theorem rf_code458 : (Jvm.Cond.code (⟨"RelayHallModel", "publish", "(LRelayHallModel$Channel;LRelayHallModel$Content;)Z"⟩ : Jvm.MethodName) prog_14_method_76_code 8 (some .boolean)).before start1.args0 rf_s = true := su_hand_word (m := ⟨10, 74⟩) (by decide +kernel) rfl (by decide +kernel) (by decide +kernel)
set_option maxRecDepth 100000 in
theorem rf_code459 : (Jvm.Cond.code (⟨"RelayHallModel", "sendReturn", "(LRelayHallModel$Channel;LRelayHallModel$Content;)V"⟩ : Jvm.MethodName) prog_14_method_77_code 3 none).before start1.args0 rf_s = true := su_hand_word (m := ⟨10, 75⟩) (by decide +kernel) rfl (by decide +kernel) (by decide +kernel)
set_option maxRecDepth 100000 in
theorem rf_code460 : (Jvm.Cond.code (⟨"RelayHallModel", "confirm", "(LRelayHallModel$Channel;Z)V"⟩ : Jvm.MethodName) prog_14_method_79_code 5 none).before start1.args0 rf_s = true := su_hand_word (m := ⟨10, 77⟩) (by decide +kernel) rfl (by decide +kernel) (by decide +kernel)
set_option maxRecDepth 100000 in
theorem rf_code461 : (Jvm.Cond.code (⟨"RelayHallModel", "sendConfirm", "(LRelayHallModel$Channel;I)V"⟩ : Jvm.MethodName) prog_14_method_78_code 3 none).before start1.args0 rf_s = true := su_hand_word (m := ⟨10, 76⟩) (by decide +kernel) rfl (by decide +kernel) (by decide +kernel)
set_option maxRecDepth 100000 in
theorem rf_code462 : (Jvm.Cond.code (⟨"RelayHallModel", "header", "(LRelayHallModel$Channel;)V"⟩ : Jvm.MethodName) prog_14_method_137_code 6 none).before start1.args0 rf_s = true := su_hand_word (m := ⟨10, 135⟩) (by decide +kernel) rfl (by decide +kernel) (by decide +kernel)
set_option maxRecDepth 100000 in
theorem rf_code463 : (Jvm.Cond.code (⟨"RelayHallModel", "arrived", "(LRelayHallModel$Channel;)V"⟩ : Jvm.MethodName) prog_14_method_136_code 4 none).before start1.args0 rf_s = true := su_hand_word (m := ⟨10, 134⟩) (by decide +kernel) rfl (by decide +kernel) (by decide +kernel)
set_option maxRecDepth 100000 in
theorem rf_code464 : (Jvm.Cond.code (⟨"RelayHallModel", "body", "(LRelayHallModel$Channel;)V"⟩ : Jvm.MethodName) prog_14_method_138_code 4 none).before start1.args0 rf_s = true := su_hand_word (m := ⟨10, 136⟩) (by decide +kernel) rfl (by decide +kernel) (by decide +kernel)
set_option maxRecDepth 100000 in
theorem rf_code465 : (Jvm.Cond.code (⟨"RelayHallModel", "onClosing", "(LRelayHallModel$Connection;I)V"⟩ : Jvm.MethodName) prog_14_method_141_code 3 none).before start1.args0 rf_s = true := su_hand_word (m := ⟨10, 139⟩) (by decide +kernel) rfl (by decide +kernel) (by decide +kernel)
set_option maxRecDepth 100000 in
theorem rf_code466 : (Jvm.Cond.code (⟨"RelayHallModel", "onGreeted", "(LRelayHallModel$Connection;II)V"⟩ : Jvm.MethodName) prog_14_method_142_code 8 none).before start1.args0 rf_s = true := su_hand_word (m := ⟨10, 140⟩) (by decide +kernel) rfl (by decide +kernel) (by decide +kernel)
set_option maxRecDepth 100000 in
theorem rf_code467 : (Jvm.Cond.code (⟨"RelayHallModel", "cut", "(I)Z"⟩ : Jvm.MethodName) prog_14_method_153_code 2 (some .boolean)).before start1.args0 rf_s = true := su_hand_word (m := ⟨10, 151⟩) (by decide +kernel) rfl (by decide +kernel) (by decide +kernel)
set_option maxRecDepth 100000 in
theorem rf_code468 : (Jvm.Cond.code (⟨"RelayHallModel", "waiting", "(I)I"⟩ : Jvm.MethodName) prog_14_method_154_code 2 (some .int)).before start1.args0 rf_s = true := su_hand_word (m := ⟨10, 152⟩) (by decide +kernel) rfl (by decide +kernel) (by decide +kernel)
set_option maxRecDepth 100000 in
theorem rf_code469 : (Jvm.Cond.code (⟨"RelayHallModel", "read", "(II)J"⟩ : Jvm.MethodName) prog_14_method_155_code 7 (some .long)).before start1.args0 rf_s = true := su_hand_word (m := ⟨10, 153⟩) (by decide +kernel) rfl (by decide +kernel) (by decide +kernel)
set_option maxRecDepth 100000 in
theorem rf_code470 : (Jvm.Cond.code (⟨"RelayHallModel", "tick", "(I)I"⟩ : Jvm.MethodName) prog_14_method_159_code 4 (some .int)).before start1.args0 rf_s = true := su_hand_word (m := ⟨10, 157⟩) (by decide +kernel) rfl (by decide +kernel) (by decide +kernel)
set_option maxRecDepth 100000 in
theorem rf_code471 : (Jvm.Cond.code (⟨"RelayHallModel", "secure", "(I)V"⟩ : Jvm.MethodName) prog_14_method_48_code 3 none).before start1.args0 rf_s = true := su_hand_word (m := ⟨10, 46⟩) (by decide +kernel) rfl (by decide +kernel) (by decide +kernel)
set_option maxRecDepth 100000 in
theorem rf_code472 : (Jvm.Cond.code (⟨"RelayHallModel", "make", "(LRelayHallModel$Fact;)V"⟩ : Jvm.MethodName) prog_14_method_47_code 3 none).before start1.args0 rf_s = true := su_hand_word (m := ⟨10, 45⟩) (by decide +kernel) rfl (by decide +kernel) (by decide +kernel)
set_option maxRecDepth 100000 in
theorem rf_code473 : (Jvm.Cond.code (⟨"RelayHallModel", "forgetExchange", "(LRelayHallModel$Exchange;)V"⟩ : Jvm.MethodName) prog_14_method_45_code 4 none).before start1.args0 rf_s = true := su_hand_word (m := ⟨10, 43⟩) (by decide +kernel) rfl (by decide +kernel) (by decide +kernel)
set_option maxRecDepth 100000 in
theorem rf_code474 : (Jvm.Cond.code (⟨"RelayHallModel", "takeSafeBinding", "(I)V"⟩ : Jvm.MethodName) prog_14_method_43_code 3 none).before start1.args0 rf_s = true := su_hand_word (m := ⟨10, 41⟩) (by decide +kernel) rfl (by decide +kernel) (by decide +kernel)
set_option maxRecDepth 100000 in
theorem rf_code475 : (Jvm.Cond.code (⟨"RelayHallModel", "forgetQueue", "(LRelayHallModel$Queue;)V"⟩ : Jvm.MethodName) prog_14_method_46_code 4 none).before start1.args0 rf_s = true := su_hand_word (m := ⟨10, 44⟩) (by decide +kernel) rfl (by decide +kernel) (by decide +kernel)
set_option maxRecDepth 100000 in
theorem rf_code476 : (Jvm.Cond.code (⟨"RelayHallModel", "takeSafeEntry", "(I)V"⟩ : Jvm.MethodName) prog_14_method_44_code 3 none).before start1.args0 rf_s = true := su_hand_word (m := ⟨10, 42⟩) (by decide +kernel) rfl (by decide +kernel) (by decide +kernel)
set_option maxRecDepth 100000 in
theorem rf_code477 : (Jvm.Cond.code (⟨"RelayHallModel", "confirmAll", "()V"⟩ : Jvm.MethodName) prog_14_method_156_code 6 none).before start1.args0 rf_s = true := su_hand_word (m := ⟨10, 154⟩) (by decide +kernel) rfl (by decide +kernel) (by decide +kernel)
set_option maxRecDepth 100000 in
theorem rf_code478 : (Jvm.Cond.code (⟨"RelayHallModel", "expire", "()V"⟩ : Jvm.MethodName) prog_14_method_157_code 7 none).before start1.args0 rf_s = true := su_hand_word (m := ⟨10, 155⟩) (by decide +kernel) rfl (by decide +kernel) (by decide +kernel)
set_option maxRecDepth 100000 in
theorem rf_code479 : (Jvm.Cond.code (⟨"RelayHallModel", "expired", "(LRelayHallModel$Entry;)Z"⟩ : Jvm.MethodName) prog_14_method_67_code 4 (some .boolean)).before start1.args0 rf_s = true := su_hand_word (m := ⟨10, 65⟩) (by decide +kernel) rfl (by decide +kernel) (by decide +kernel)
set_option maxRecDepth 100000 in
theorem rf_code480 : (Jvm.Cond.code (⟨"RelayHallModel", "beat", "(LRelayHallModel$Connection;)V"⟩ : Jvm.MethodName) prog_14_method_158_code 2 none).before start1.args0 rf_s = true := su_hand_word (m := ⟨10, 156⟩) (by decide +kernel) rfl (by decide +kernel) (by decide +kernel)
set_option maxRecDepth 100000 in
theorem rf_code481 : (Jvm.Cond.code (⟨"RelayHallModel", "crash", "(I)I"⟩ : Jvm.MethodName) prog_14_method_162_code 5 (some .int)).before start1.args0 rf_s = true := su_hand_word (m := ⟨10, 160⟩) (by decide +kernel) rfl (by decide +kernel) (by decide +kernel)
set_option maxRecDepth 100000 in
theorem rf_code482 : (Jvm.Cond.code (⟨"RelayHallModel", "forgetAll", "(LRelayHallModel$Connection;)V"⟩ : Jvm.MethodName) prog_14_method_160_code 4 none).before start1.args0 rf_s = true := su_hand_word (m := ⟨10, 158⟩) (by decide +kernel) rfl (by decide +kernel) (by decide +kernel)
set_option maxRecDepth 100000 in
theorem rf_code483 : (Jvm.Cond.code (⟨"RelayHallModel", "restoreEntry", "(LRelayHallModel$Entry;)V"⟩ : Jvm.MethodName) prog_14_method_161_code 3 none).before start1.args0 rf_s = true := su_hand_word (m := ⟨10, 159⟩) (by decide +kernel) rfl (by decide +kernel) (by decide +kernel)
set_option maxRecDepth 100000 in
theorem rf_code484 : (Jvm.Cond.code (⟨"RelayHallModel", "connection", "(II)I"⟩ : Jvm.MethodName) prog_14_method_163_code 6 (some .int)).before start1.args0 rf_s = true := su_hand_word (m := ⟨10, 161⟩) (by decide +kernel) rfl (by decide +kernel) (by decide +kernel)
set_option maxRecDepth 100000 in
theorem rf_code485 : (Jvm.Cond.code (⟨"RelayHallModel", "channel", "(III)I"⟩ : Jvm.MethodName) prog_14_method_164_code 7 (some .int)).before start1.args0 rf_s = true := su_hand_word (m := ⟨10, 162⟩) (by decide +kernel) rfl (by decide +kernel) (by decide +kernel)
set_option maxRecDepth 100000 in
theorem rf_code486 : (Jvm.Cond.code (⟨"RelayHallModel", "queue", "(II)I"⟩ : Jvm.MethodName) prog_14_method_166_code 4 (some .int)).before start1.args0 rf_s = true := su_hand_word (m := ⟨10, 164⟩) (by decide +kernel) rfl (by decide +kernel) (by decide +kernel)
set_option maxRecDepth 100000 in
theorem rf_code487 : (Jvm.Cond.code (⟨"RelayHallModel", "byteOf", "([BI)I"⟩ : Jvm.MethodName) prog_14_method_165_code 2 (some .int)).before start1.args0 rf_s = true := su_hand_word (m := ⟨10, 163⟩) (by decide +kernel) rfl (by decide +kernel) (by decide +kernel)
set_option maxRecDepth 100000 in
theorem rf_code488 : (Jvm.Cond.code (⟨"RelayHallModel", "exchange", "(II)I"⟩ : Jvm.MethodName) prog_14_method_167_code 4 (some .int)).before start1.args0 rf_s = true := su_hand_word (m := ⟨10, 165⟩) (by decide +kernel) rfl (by decide +kernel) (by decide +kernel)
set_option maxRecDepth 16384 in
theorem rf_oth_14_0 : (tables_1_14.take 53).all (fun c => su_isCode c || c.before start1.args0 rf_s) = true := by decide +kernel
set_option maxRecDepth 16384 in
theorem rf_oth_14_1 : ((tables_1_14.drop 53).take 35).all (fun c => su_isCode c || c.before start1.args0 rf_s) = true := by decide +kernel
set_option maxRecDepth 16384 in
theorem rf_oth_14_2 : (((tables_1_14.drop 53).drop 35).take 40).all (fun c => su_isCode c || c.before start1.args0 rf_s) = true := by decide +kernel
set_option maxRecDepth 16384 in
theorem rf_oth_14_3 : ((((tables_1_14.drop 53).drop 35).drop 40).take 49).all (fun c => su_isCode c || c.before start1.args0 rf_s) = true := by decide +kernel
set_option maxRecDepth 16384 in
theorem rf_oth_14_4 : (((((tables_1_14.drop 53).drop 35).drop 40).drop 49).take 47).all (fun c => su_isCode c || c.before start1.args0 rf_s) = true := by decide +kernel
set_option maxRecDepth 16384 in
theorem rf_oth_14_5 : ((((((tables_1_14.drop 53).drop 35).drop 40).drop 49).drop 47)).all (fun c => su_isCode c || c.before start1.args0 rf_s) = true := by decide +kernel
theorem rf_words_14 : ∀ c ∈ tables_1_14, c.before start1.args0 rf_s = true := fun c h => su_words ((start1.su_all_split _ 53 tables_1_14 rf_oth_14_0 (start1.su_all_split _ 35 (tables_1_14.drop 53) rf_oth_14_1 (start1.su_all_split _ 40 ((tables_1_14.drop 53).drop 35) rf_oth_14_2 (start1.su_all_split _ 49 (((tables_1_14.drop 53).drop 35).drop 40) rf_oth_14_3 (start1.su_all_split _ 47 ((((tables_1_14.drop 53).drop 35).drop 40).drop 49) rf_oth_14_4 rf_oth_14_5)))))) (by
  rw [start1.codes_are_14]
  exact (List.forall_mem_cons.mpr ⟨rf_code441, (List.forall_mem_cons.mpr ⟨rf_code442, (List.forall_mem_cons.mpr ⟨rf_code443, (List.forall_mem_cons.mpr ⟨rf_code444, (List.forall_mem_cons.mpr ⟨rf_code445, (List.forall_mem_cons.mpr ⟨rf_code446, (List.forall_mem_cons.mpr ⟨rf_code447, (List.forall_mem_cons.mpr ⟨rf_code448, (List.forall_mem_cons.mpr ⟨rf_code449, (List.forall_mem_cons.mpr ⟨rf_code450, (List.forall_mem_cons.mpr ⟨rf_code451, (List.forall_mem_cons.mpr ⟨rf_code452, (List.forall_mem_cons.mpr ⟨rf_code453, (List.forall_mem_cons.mpr ⟨rf_code454, (List.forall_mem_cons.mpr ⟨rf_code455, (List.forall_mem_cons.mpr ⟨rf_code456, (List.forall_mem_cons.mpr ⟨rf_code457, (List.forall_mem_cons.mpr ⟨rf_code458, (List.forall_mem_cons.mpr ⟨rf_code459, (List.forall_mem_cons.mpr ⟨rf_code460, (List.forall_mem_cons.mpr ⟨rf_code461, (List.forall_mem_cons.mpr ⟨rf_code462, (List.forall_mem_cons.mpr ⟨rf_code463, (List.forall_mem_cons.mpr ⟨rf_code464, (List.forall_mem_cons.mpr ⟨rf_code465, (List.forall_mem_cons.mpr ⟨rf_code466, (List.forall_mem_cons.mpr ⟨rf_code467, (List.forall_mem_cons.mpr ⟨rf_code468, (List.forall_mem_cons.mpr ⟨rf_code469, (List.forall_mem_cons.mpr ⟨rf_code470, (List.forall_mem_cons.mpr ⟨rf_code471, (List.forall_mem_cons.mpr ⟨rf_code472, (List.forall_mem_cons.mpr ⟨rf_code473, (List.forall_mem_cons.mpr ⟨rf_code474, (List.forall_mem_cons.mpr ⟨rf_code475, (List.forall_mem_cons.mpr ⟨rf_code476, (List.forall_mem_cons.mpr ⟨rf_code477, (List.forall_mem_cons.mpr ⟨rf_code478, (List.forall_mem_cons.mpr ⟨rf_code479, (List.forall_mem_cons.mpr ⟨rf_code480, (List.forall_mem_cons.mpr ⟨rf_code481, (List.forall_mem_cons.mpr ⟨rf_code482, (List.forall_mem_cons.mpr ⟨rf_code483, (List.forall_mem_cons.mpr ⟨rf_code484, (List.forall_mem_cons.mpr ⟨rf_code485, (List.forall_mem_cons.mpr ⟨rf_code486, (List.forall_mem_cons.mpr ⟨rf_code487, (List.forall_mem_cons.mpr ⟨rf_code488, (fun _ h => absurd h List.not_mem_nil)⟩)⟩)⟩)⟩)⟩)⟩)⟩)⟩)⟩)⟩)⟩)⟩)⟩)⟩)⟩)⟩)⟩)⟩)⟩)⟩)⟩)⟩)⟩)⟩)⟩)⟩)⟩)⟩)⟩)⟩)⟩)⟩)⟩)⟩)⟩)⟩)⟩)⟩)⟩)⟩)⟩)⟩)⟩)⟩)⟩)⟩)⟩)⟩)) c h
end XW14
