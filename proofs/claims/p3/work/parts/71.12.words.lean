section XW12
set_option maxRecDepth 100000 in
theorem rf_code366 : (Jvm.Cond.code (⟨"RelayHallModel", "route", "(LRelayHallModel$Exchange;[BLRelayHallModel$Table;)I"⟩ : Jvm.MethodName) prog_14_method_74_code 11 (some .int)).before start1.args0 rf_s = true := su_hand_word (m := ⟨10, 72⟩) (by decide +kernel) rfl (by decide +kernel) (by decide +kernel)
set_option maxRecDepth 100000 in
theorem rf_code367 : (Jvm.Cond.code (⟨"RelayHallModel", "queue", "([B)LRelayHallModel$Queue;"⟩ : Jvm.MethodName) prog_14_method_50_code 3 (some (.object "RelayHallModel$Queue"))).before start1.args0 rf_s = true := su_hand_word (m := ⟨10, 48⟩) (by decide +kernel) rfl (by decide +kernel) (by decide +kernel)
set_option maxRecDepth 100000 in
theorem rf_code368 : (Jvm.Cond.code (⟨"RelayHallModel", "matches", "(LRelayHallModel$Binding;[BLRelayHallModel$Table;)Z"⟩ : Jvm.MethodName) prog_14_method_73_code 4 (some .boolean)).before start1.args0 rf_s = true := su_hand_word (m := ⟨10, 71⟩) (by decide +kernel) rfl (by decide +kernel) (by decide +kernel)
set_option maxRecDepth 100000 in
theorem rf_code369 : (Jvm.Cond.code (⟨"RelayHallModel", "topic", "([B[B)Z"⟩ : Jvm.MethodName) prog_14_method_71_code 9 (some .boolean)).before start1.args0 rf_s = true := su_hand_word (m := ⟨10, 69⟩) (by decide +kernel) rfl (by decide +kernel) (by decide +kernel)
set_option maxRecDepth 100000 in
theorem rf_code370 : (Jvm.Cond.code (⟨"RelayHallModel", "words", "([B[I[I)I"⟩ : Jvm.MethodName) prog_14_method_68_code 6 (some .int)).before start1.args0 rf_s = true := su_hand_word (m := ⟨10, 66⟩) (by decide +kernel) rfl (by decide +kernel) (by decide +kernel)
set_option maxRecDepth 100000 in
theorem rf_code371 : (Jvm.Cond.code (⟨"RelayHallModel", "isSign", "([BII)Z"⟩ : Jvm.MethodName) prog_14_method_69_code 4 (some .boolean)).before start1.args0 rf_s = true := su_hand_word (m := ⟨10, 67⟩) (by decide +kernel) rfl (by decide +kernel) (by decide +kernel)
set_option maxRecDepth 100000 in
theorem rf_code372 : (Jvm.Cond.code (⟨"RelayHallModel", "sameWord", "([BI[BI)Z"⟩ : Jvm.MethodName) prog_14_method_70_code 6 (some .boolean)).before start1.args0 rf_s = true := su_hand_word (m := ⟨10, 68⟩) (by decide +kernel) rfl (by decide +kernel) (by decide +kernel)
set_option maxRecDepth 100000 in
theorem rf_code373 : (Jvm.Cond.code (⟨"RelayHallModel", "heads", "(LRelayHallModel$Table;LRelayHallModel$Table;)Z"⟩ : Jvm.MethodName) prog_14_method_72_code 7 (some .boolean)).before start1.args0 rf_s = true := su_hand_word (m := ⟨10, 70⟩) (by decide +kernel) rfl (by decide +kernel) (by decide +kernel)
set_option maxRecDepth 100000 in
theorem rf_code374 : (Jvm.Cond.code (⟨"RelayHallModel", "named", "(LRelayHallModel$Table;Ljava/lang/String;)I"⟩ : Jvm.MethodName) prog_14_method_14_code 3 (some .int)).before start1.args0 rf_s = true := su_hand_word (m := ⟨10, 12⟩) (by decide +kernel) rfl (by decide +kernel) (by decide +kernel)
set_option maxRecDepth 100000 in
theorem rf_code375 : (Jvm.Cond.code (⟨"RelayHallModel", "isText", "([BLjava/lang/String;)Z"⟩ : Jvm.MethodName) prog_14_method_12_code 3 (some .boolean)).before start1.args0 rf_s = true := su_hand_word (m := ⟨10, 10⟩) (by decide +kernel) rfl (by decide +kernel) (by decide +kernel)
set_option maxRecDepth 100000 in
theorem rf_code376 : (Jvm.Cond.code (⟨"RelayHallModel", "find", "(LRelayHallModel$Table;[B)I"⟩ : Jvm.MethodName) prog_14_method_13_code 3 (some .int)).before start1.args0 rf_s = true := su_hand_word (m := ⟨10, 11⟩) (by decide +kernel) rfl (by decide +kernel) (by decide +kernel)
set_option maxRecDepth 100000 in
theorem rf_code377 : (Jvm.Cond.code (⟨"RelayHallModel", "has", "(LRelayHallModel$Table;ILRelayHallModel$Table;)Z"⟩ : Jvm.MethodName) prog_14_method_15_code 4 (some .boolean)).before start1.args0 rf_s = true := su_hand_word (m := ⟨10, 13⟩) (by decide +kernel) rfl (by decide +kernel) (by decide +kernel)
set_option maxRecDepth 100000 in
theorem rf_code378 : (Jvm.Cond.code (⟨"RelayHallModel", "comes", "(LRelayHallModel$Queue;LRelayHallModel$Content;[B[BJI)V"⟩ : Jvm.MethodName) prog_14_method_65_code 9 none).before start1.args0 rf_s = true := su_hand_word (m := ⟨10, 63⟩) (by decide +kernel) rfl (by decide +kernel) (by decide +kernel)
set_option maxRecDepth 100000 in
theorem rf_code379 : (Jvm.Cond.code (⟨"RelayHallModel$Entry", "<init>", "()V"⟩ : Jvm.MethodName) prog_21_method_1_code 1 none).before start1.args0 rf_s = true := su_hand_word (m := ⟨25, 0⟩) (by decide +kernel) rfl (by decide +kernel) (by decide +kernel)
set_option maxRecDepth 100000 in
theorem rf_code380 : (Jvm.Cond.code (⟨"RelayHallModel", "nextOf", "(LRelayHallModel$Queue;)LRelayHallModel$Consumer;"⟩ : Jvm.MethodName) prog_14_method_82_code 5 (some (.object "RelayHallModel$Consumer"))).before start1.args0 rf_s = true := su_hand_word (m := ⟨10, 80⟩) (by decide +kernel) rfl (by decide +kernel) (by decide +kernel)
set_option maxRecDepth 100000 in
theorem rf_code381 : (Jvm.Cond.code (⟨"RelayHallModel", "credit", "(LRelayHallModel$Consumer;)Z"⟩ : Jvm.MethodName) prog_14_method_81_code 3 (some .boolean)).before start1.args0 rf_s = true := su_hand_word (m := ⟨10, 79⟩) (by decide +kernel) rfl (by decide +kernel) (by decide +kernel)
set_option maxRecDepth 100000 in
theorem rf_code382 : (Jvm.Cond.code (⟨"RelayHallModel", "unackedOf", "(LRelayHallModel$Channel;LRelayHallModel$Consumer;)I"⟩ : Jvm.MethodName) prog_14_method_80_code 5 (some .int)).before start1.args0 rf_s = true := su_hand_word (m := ⟨10, 78⟩) (by decide +kernel) rfl (by decide +kernel) (by decide +kernel)
set_option maxRecDepth 100000 in
theorem rf_code383 : (Jvm.Cond.code (⟨"RelayHallModel", "deliver", "(LRelayHallModel$Queue;LRelayHallModel$Consumer;)V"⟩ : Jvm.MethodName) prog_14_method_84_code 6 none).before start1.args0 rf_s = true := su_hand_word (m := ⟨10, 82⟩) (by decide +kernel) rfl (by decide +kernel) (by decide +kernel)
set_option maxRecDepth 100000 in
theorem rf_code384 : (Jvm.Cond.code (⟨"RelayHallModel", "hand", "(LRelayHallModel$Channel;LRelayHallModel$Entry;LRelayHallModel$Consumer;Z)I"⟩ : Jvm.MethodName) prog_14_method_83_code 7 (some .int)).before start1.args0 rf_s = true := su_hand_word (m := ⟨10, 81⟩) (by decide +kernel) rfl (by decide +kernel) (by decide +kernel)
set_option maxRecDepth 100000 in
theorem rf_code385 : (Jvm.Cond.code (⟨"RelayHallModel$Sent", "<init>", "()V"⟩ : Jvm.MethodName) prog_26_method_1_code 1 none).before start1.args0 rf_s = true := su_hand_word (m := ⟨26, 0⟩) (by decide +kernel) rfl (by decide +kernel) (by decide +kernel)
set_option maxRecDepth 100000 in
theorem rf_code386 : (Jvm.Cond.code (⟨"RelayHallModel", "putContent", "(ILRelayHallModel$Content;J)V"⟩ : Jvm.MethodName) prog_14_method_29_code 5 none).before start1.args0 rf_s = true := su_hand_word (m := ⟨10, 27⟩) (by decide +kernel) rfl (by decide +kernel) (by decide +kernel)
set_option maxRecDepth 100000 in
theorem rf_code387 : (Jvm.Cond.code (⟨"RelayHallModel", "readHead", "(I)V"⟩ : Jvm.MethodName) prog_14_method_139_code 2 none).before start1.args0 rf_s = true := su_hand_word (m := ⟨10, 137⟩) (by decide +kernel) rfl (by decide +kernel) (by decide +kernel)
set_option maxRecDepth 100000 in
theorem rf_code388 : (Jvm.Cond.code (⟨"RelayHallModel", "u16", "()I"⟩ : Jvm.MethodName) prog_14_method_4_code 2 (some .int)).before start1.args0 rf_s = true := su_hand_word (m := ⟨10, 2⟩) (by decide +kernel) rfl (by decide +kernel) (by decide +kernel)
set_option maxRecDepth 100000 in
theorem rf_code389 : (Jvm.Cond.code (⟨"RelayHallModel", "u8", "()I"⟩ : Jvm.MethodName) prog_14_method_3_code 2 (some .int)).before start1.args0 rf_s = true := su_hand_word (m := ⟨10, 1⟩) (by decide +kernel) rfl (by decide +kernel) (by decide +kernel)
set_option maxRecDepth 100000 in
theorem rf_code390 : (Jvm.Cond.code (⟨"RelayHallModel", "onOpen", "(LRelayHallModel$Connection;II)V"⟩ : Jvm.MethodName) prog_14_method_140_code 5 none).before start1.args0 rf_s = true := su_hand_word (m := ⟨10, 138⟩) (by decide +kernel) rfl (by decide +kernel) (by decide +kernel)
set_option maxRecDepth 100000 in
theorem rf_code391 : (Jvm.Cond.code (⟨"RelayHallModel", "simple", "(LRelayHallModel$Connection;III)V"⟩ : Jvm.MethodName) prog_14_method_28_code 5 none).before start1.args0 rf_s = true := su_hand_word (m := ⟨10, 26⟩) (by decide +kernel) rfl (by decide +kernel) (by decide +kernel)
set_option maxRecDepth 100000 in
theorem rf_code392 : (Jvm.Cond.code (⟨"RelayHallModel", "onConnection", "(LRelayHallModel$Connection;)V"⟩ : Jvm.MethodName) prog_14_method_131_code 3 none).before start1.args0 rf_s = true := su_hand_word (m := ⟨10, 129⟩) (by decide +kernel) rfl (by decide +kernel) (by decide +kernel)
set_option maxRecDepth 100000 in
theorem rf_code393 : (Jvm.Cond.code (⟨"RelayHallModel", "closeArguments", "()V"⟩ : Jvm.MethodName) prog_14_method_90_code 1 none).before start1.args0 rf_s = true := su_hand_word (m := ⟨10, 88⟩) (by decide +kernel) rfl (by decide +kernel) (by decide +kernel)
set_option maxRecDepth 100000 in
theorem rf_code394 : (Jvm.Cond.code (⟨"RelayHallModel", "shortText", "()[B"⟩ : Jvm.MethodName) prog_14_method_7_code 2 (some (.array .byte))).before start1.args0 rf_s = true := su_hand_word (m := ⟨10, 5⟩) (by decide +kernel) rfl (by decide +kernel) (by decide +kernel)
set_option maxRecDepth 100000 in
theorem rf_code395 : (Jvm.Cond.code (⟨"RelayHallModel", "bytes", "(I)[B"⟩ : Jvm.MethodName) prog_14_method_6_code 4 (some (.array .byte))).before start1.args0 rf_s = true := su_hand_word (m := ⟨10, 4⟩) (by decide +kernel) rfl (by decide +kernel) (by decide +kernel)
set_option maxRecDepth 100000 in
theorem rf_code396 : (Jvm.Cond.code (⟨"RelayHallModel", "whole", "()Z"⟩ : Jvm.MethodName) prog_14_method_10_code 1 (some .boolean)).before start1.args0 rf_s = true := su_hand_word (m := ⟨10, 8⟩) (by decide +kernel) rfl (by decide +kernel) (by decide +kernel)
set_option maxRecDepth 100000 in
theorem rf_code397 : (Jvm.Cond.code (⟨"RelayHallModel", "onChannel", "(LRelayHallModel$Connection;LRelayHallModel$Channel;)V"⟩ : Jvm.MethodName) prog_14_method_132_code 5 none).before start1.args0 rf_s = true := su_hand_word (m := ⟨10, 130⟩) (by decide +kernel) rfl (by decide +kernel) (by decide +kernel)
set_option maxRecDepth 100000 in
theorem rf_code398 : (Jvm.Cond.code (⟨"RelayHallModel", "isTold", "(II)Z"⟩ : Jvm.MethodName) prog_14_method_130_code 3 (some .boolean)).before start1.args0 rf_s = true := su_hand_word (m := ⟨10, 128⟩) (by decide +kernel) rfl (by decide +kernel) (by decide +kernel)
set_option maxRecDepth 100000 in
theorem rf_code399 : (Jvm.Cond.code (⟨"RelayHallModel", "wrong", "(LRelayHallModel$Channel;)Z"⟩ : Jvm.MethodName) prog_14_method_89_code 2 (some .boolean)).before start1.args0 rf_s = true := su_hand_word (m := ⟨10, 87⟩) (by decide +kernel) rfl (by decide +kernel) (by decide +kernel)
set_option maxRecDepth 100000 in
theorem rf_code400 : (Jvm.Cond.code (⟨"RelayHallModel", "opens", "(LRelayHallModel$Channel;)V"⟩ : Jvm.MethodName) prog_14_method_87_code 2 none).before start1.args0 rf_s = true := su_hand_word (m := ⟨10, 85⟩) (by decide +kernel) rfl (by decide +kernel) (by decide +kernel)
set_option maxRecDepth 100000 in
theorem rf_code401 : (Jvm.Cond.code (⟨"RelayHallModel", "flow", "(LRelayHallModel$Channel;)V"⟩ : Jvm.MethodName) prog_14_method_88_code 3 none).before start1.args0 rf_s = true := su_hand_word (m := ⟨10, 86⟩) (by decide +kernel) rfl (by decide +kernel) (by decide +kernel)
set_option maxRecDepth 100000 in
theorem rf_code402 : (Jvm.Cond.code (⟨"RelayHallModel", "closesChannel", "(LRelayHallModel$Channel;)V"⟩ : Jvm.MethodName) prog_14_method_91_code 2 none).before start1.args0 rf_s = true := su_hand_word (m := ⟨10, 89⟩) (by decide +kernel) rfl (by decide +kernel) (by decide +kernel)
set_option maxRecDepth 100000 in
theorem rf_code403 : (Jvm.Cond.code (⟨"RelayHallModel", "declareExchange", "(LRelayHallModel$Channel;)V"⟩ : Jvm.MethodName) prog_14_method_94_code 7 none).before start1.args0 rf_s = true := su_hand_word (m := ⟨10, 92⟩) (by decide +kernel) rfl (by decide +kernel) (by decide +kernel)
set_option maxRecDepth 100000 in
theorem rf_code404 : (Jvm.Cond.code (⟨"RelayHallModel", "table", "()LRelayHallModel$Table;"⟩ : Jvm.MethodName) prog_14_method_8_code 6 (some (.object "RelayHallModel$Table"))).before start1.args0 rf_s = true := su_hand_word (m := ⟨10, 6⟩) (by decide +kernel) rfl (by decide +kernel) (by decide +kernel)
set_option maxRecDepth 100000 in
theorem rf_code405 : (Jvm.Cond.code (⟨"RelayHallModel$Table", "<init>", "()V"⟩ : Jvm.MethodName) prog_27_method_1_code 1 none).before start1.args0 rf_s = true := su_hand_word (m := ⟨27, 0⟩) (by decide +kernel) rfl (by decide +kernel) (by decide +kernel)
set_option maxRecDepth 100000 in
theorem rf_code406 : (Jvm.Cond.code (⟨"RelayHallModel", "u32", "()I"⟩ : Jvm.MethodName) prog_14_method_5_code 2 (some .int)).before start1.args0 rf_s = true := su_hand_word (m := ⟨10, 3⟩) (by decide +kernel) rfl (by decide +kernel) (by decide +kernel)
set_option maxRecDepth 16384 in
theorem rf_oth_12_0 : (tables_1_12.take 55).all (fun c => su_isCode c || c.before start1.args0 rf_s) = true := by decide +kernel
set_option maxRecDepth 16384 in
theorem rf_oth_12_1 : ((tables_1_12.drop 55).take 48).all (fun c => su_isCode c || c.before start1.args0 rf_s) = true := by decide +kernel
set_option maxRecDepth 16384 in
theorem rf_oth_12_2 : (((tables_1_12.drop 55).drop 48).take 49).all (fun c => su_isCode c || c.before start1.args0 rf_s) = true := by decide +kernel
set_option maxRecDepth 16384 in
theorem rf_oth_12_3 : ((((tables_1_12.drop 55).drop 48).drop 49).take 46).all (fun c => su_isCode c || c.before start1.args0 rf_s) = true := by decide +kernel
set_option maxRecDepth 16384 in
theorem rf_oth_12_4 : (((((tables_1_12.drop 55).drop 48).drop 49).drop 46)).all (fun c => su_isCode c || c.before start1.args0 rf_s) = true := by decide +kernel
theorem rf_words_12 : ∀ c ∈ tables_1_12, c.before start1.args0 rf_s = true := fun c h => su_words ((start1.su_all_split _ 55 tables_1_12 rf_oth_12_0 (start1.su_all_split _ 48 (tables_1_12.drop 55) rf_oth_12_1 (start1.su_all_split _ 49 ((tables_1_12.drop 55).drop 48) rf_oth_12_2 (start1.su_all_split _ 46 (((tables_1_12.drop 55).drop 48).drop 49) rf_oth_12_3 rf_oth_12_4))))) (by
  rw [start1.codes_are_12]
  exact (List.forall_mem_cons.mpr ⟨rf_code366, (List.forall_mem_cons.mpr ⟨rf_code367, (List.forall_mem_cons.mpr ⟨rf_code368, (List.forall_mem_cons.mpr ⟨rf_code369, (List.forall_mem_cons.mpr ⟨rf_code370, (List.forall_mem_cons.mpr ⟨rf_code371, (List.forall_mem_cons.mpr ⟨rf_code372, (List.forall_mem_cons.mpr ⟨rf_code373, (List.forall_mem_cons.mpr ⟨rf_code374, (List.forall_mem_cons.mpr ⟨rf_code375, (List.forall_mem_cons.mpr ⟨rf_code376, (List.forall_mem_cons.mpr ⟨rf_code377, (List.forall_mem_cons.mpr ⟨rf_code378, (List.forall_mem_cons.mpr ⟨rf_code379, (List.forall_mem_cons.mpr ⟨rf_code380, (List.forall_mem_cons.mpr ⟨rf_code381, (List.forall_mem_cons.mpr ⟨rf_code382, (List.forall_mem_cons.mpr ⟨rf_code383, (List.forall_mem_cons.mpr ⟨rf_code384, (List.forall_mem_cons.mpr ⟨rf_code385, (List.forall_mem_cons.mpr ⟨rf_code386, (List.forall_mem_cons.mpr ⟨rf_code387, (List.forall_mem_cons.mpr ⟨rf_code388, (List.forall_mem_cons.mpr ⟨rf_code389, (List.forall_mem_cons.mpr ⟨rf_code390, (List.forall_mem_cons.mpr ⟨rf_code391, (List.forall_mem_cons.mpr ⟨rf_code392, (List.forall_mem_cons.mpr ⟨rf_code393, (List.forall_mem_cons.mpr ⟨rf_code394, (List.forall_mem_cons.mpr ⟨rf_code395, (List.forall_mem_cons.mpr ⟨rf_code396, (List.forall_mem_cons.mpr ⟨rf_code397, (List.forall_mem_cons.mpr ⟨rf_code398, (List.forall_mem_cons.mpr ⟨rf_code399, (List.forall_mem_cons.mpr ⟨rf_code400, (List.forall_mem_cons.mpr ⟨rf_code401, (List.forall_mem_cons.mpr ⟨rf_code402, (List.forall_mem_cons.mpr ⟨rf_code403, (List.forall_mem_cons.mpr ⟨rf_code404, (List.forall_mem_cons.mpr ⟨rf_code405, (List.forall_mem_cons.mpr ⟨rf_code406, (fun _ h => absurd h List.not_mem_nil)⟩)⟩)⟩)⟩)⟩)⟩)⟩)⟩)⟩)⟩)⟩)⟩)⟩)⟩)⟩)⟩)⟩)⟩)⟩)⟩)⟩)⟩)⟩)⟩)⟩)⟩)⟩)⟩)⟩)⟩)⟩)⟩)⟩)⟩)⟩)⟩)⟩)⟩)⟩)⟩)⟩)) c h
end XW12
