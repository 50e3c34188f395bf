section XW11
set_option maxRecDepth 100000 in
theorem rf_code312 : (Jvm.Cond.code (⟨"RelayHallModel", "type", "(JI)Z"⟩ : Jvm.MethodName) prog_14_method_149_code 5 (some .boolean)).before start1.args0 rf_s = true := su_hand_word (m := ⟨10, 147⟩) (by decide +kernel) rfl (by decide +kernel) (by decide +kernel)
set_option maxRecDepth 100000 in
theorem rf_code313 : (Jvm.Cond.code (⟨"RelayHallModel", "connect", "(I)Z"⟩ : Jvm.MethodName) prog_14_method_151_code 3 (some .boolean)).before start1.args0 rf_s = true := su_hand_word (m := ⟨10, 149⟩) (by decide +kernel) rfl (by decide +kernel) (by decide +kernel)
set_option maxRecDepth 100000 in
theorem rf_code314 : (Jvm.Cond.code (⟨"RelayHallModel", "isConnection", "(I)Z"⟩ : Jvm.MethodName) prog_14_method_150_code 1 (some .boolean)).before start1.args0 rf_s = true := su_hand_word (m := ⟨10, 148⟩) (by decide +kernel) rfl (by decide +kernel) (by decide +kernel)
set_option maxRecDepth 100000 in
theorem rf_code315 : (Jvm.Cond.code (⟨"RelayHallModel", "send", "(I)I"⟩ : Jvm.MethodName) prog_14_method_152_code 5 (some .int)).before start1.args0 rf_s = true := su_hand_word (m := ⟨10, 150⟩) (by decide +kernel) rfl (by decide +kernel) (by decide +kernel)
set_option maxRecDepth 100000 in
theorem rf_code316 : (Jvm.Cond.code (⟨"RelayHallModel", "takeIn", "(LRelayHallModel$Connection;)V"⟩ : Jvm.MethodName) prog_14_method_148_code 3 none).before start1.args0 rf_s = true := su_hand_word (m := ⟨10, 146⟩) (by decide +kernel) rfl (by decide +kernel) (by decide +kernel)
set_option maxRecDepth 100000 in
theorem rf_code317 : (Jvm.Cond.code (⟨"RelayHallModel", "takesOne", "(LRelayHallModel$Connection;)Z"⟩ : Jvm.MethodName) prog_14_method_147_code 7 (some .boolean)).before start1.args0 rf_s = true := su_hand_word (m := ⟨10, 145⟩) (by decide +kernel) rfl (by decide +kernel) (by decide +kernel)
set_option maxRecDepth 100000 in
theorem rf_code318 : (Jvm.Cond.code (⟨"RelayHallModel", "greet", "(LRelayHallModel$Connection;)V"⟩ : Jvm.MethodName) prog_14_method_144_code 4 none).before start1.args0 rf_s = true := su_hand_word (m := ⟨10, 142⟩) (by decide +kernel) rfl (by decide +kernel) (by decide +kernel)
set_option maxRecDepth 100000 in
theorem rf_code319 : (Jvm.Cond.code (⟨"RelayHallModel", "drop", "(LRelayHallModel$Connection;I)V"⟩ : Jvm.MethodName) prog_14_method_145_code 4 none).before start1.args0 rf_s = true := su_hand_word (m := ⟨10, 143⟩) (by decide +kernel) rfl (by decide +kernel) (by decide +kernel)
set_option maxRecDepth 100000 in
theorem rf_code320 : (Jvm.Cond.code (⟨"RelayHallModel", "beginMethod", "(III)V"⟩ : Jvm.MethodName) prog_14_method_25_code 4 none).before start1.args0 rf_s = true := su_hand_word (m := ⟨10, 23⟩) (by decide +kernel) rfl (by decide +kernel) (by decide +kernel)
set_option maxRecDepth 100000 in
theorem rf_code321 : (Jvm.Cond.code (⟨"RelayHallModel", "beginFrame", "(II)V"⟩ : Jvm.MethodName) prog_14_method_23_code 3 none).before start1.args0 rf_s = true := su_hand_word (m := ⟨10, 21⟩) (by decide +kernel) rfl (by decide +kernel) (by decide +kernel)
set_option maxRecDepth 100000 in
theorem rf_code322 : (Jvm.Cond.code (⟨"RelayHallModel", "put", "(I)V"⟩ : Jvm.MethodName) prog_14_method_18_code 2 none).before start1.args0 rf_s = true := su_hand_word (m := ⟨10, 16⟩) (by decide +kernel) rfl (by decide +kernel) (by decide +kernel)
set_option maxRecDepth 100000 in
theorem rf_code323 : (Jvm.Cond.code (⟨"RelayHallModel", "put16", "(I)V"⟩ : Jvm.MethodName) prog_14_method_19_code 2 none).before start1.args0 rf_s = true := su_hand_word (m := ⟨10, 17⟩) (by decide +kernel) rfl (by decide +kernel) (by decide +kernel)
set_option maxRecDepth 100000 in
theorem rf_code324 : (Jvm.Cond.code (⟨"RelayHallModel", "put32", "(I)V"⟩ : Jvm.MethodName) prog_14_method_20_code 2 none).before start1.args0 rf_s = true := su_hand_word (m := ⟨10, 18⟩) (by decide +kernel) rfl (by decide +kernel) (by decide +kernel)
set_option maxRecDepth 100000 in
theorem rf_code325 : (Jvm.Cond.code (⟨"RelayHallModel", "goFrame", "(LRelayHallModel$Connection;)V"⟩ : Jvm.MethodName) prog_14_method_27_code 2 none).before start1.args0 rf_s = true := su_hand_word (m := ⟨10, 25⟩) (by decide +kernel) rfl (by decide +kernel) (by decide +kernel)
set_option maxRecDepth 100000 in
theorem rf_code326 : (Jvm.Cond.code (⟨"RelayHallModel", "endFrame", "()V"⟩ : Jvm.MethodName) prog_14_method_24_code 2 none).before start1.args0 rf_s = true := su_hand_word (m := ⟨10, 22⟩) (by decide +kernel) rfl (by decide +kernel) (by decide +kernel)
set_option maxRecDepth 100000 in
theorem rf_code327 : (Jvm.Cond.code (⟨"RelayHallModel", "go", "(LRelayHallModel$Connection;)V"⟩ : Jvm.MethodName) prog_14_method_26_code 3 none).before start1.args0 rf_s = true := su_hand_word (m := ⟨10, 24⟩) (by decide +kernel) rfl (by decide +kernel) (by decide +kernel)
set_option maxRecDepth 100000 in
theorem rf_code328 : (Jvm.Cond.code (⟨"RelayHallModel", "close", "(LRelayHallModel$Connection;)V"⟩ : Jvm.MethodName) prog_14_method_36_code 3 none).before start1.args0 rf_s = true := su_hand_word (m := ⟨10, 34⟩) (by decide +kernel) rfl (by decide +kernel) (by decide +kernel)
set_option maxRecDepth 100000 in
theorem rf_code329 : (Jvm.Cond.code (⟨"RelayHallModel", "end", "(LRelayHallModel$Connection;)V"⟩ : Jvm.MethodName) prog_14_method_35_code 3 none).before start1.args0 rf_s = true := su_hand_word (m := ⟨10, 33⟩) (by decide +kernel) rfl (by decide +kernel) (by decide +kernel)
set_option maxRecDepth 100000 in
theorem rf_code330 : (Jvm.Cond.code (⟨"RelayHallModel", "gone", "(LRelayHallModel$Channel;)V"⟩ : Jvm.MethodName) prog_14_method_37_code 3 none).before start1.args0 rf_s = true := su_hand_word (m := ⟨10, 35⟩) (by decide +kernel) rfl (by decide +kernel) (by decide +kernel)
set_option maxRecDepth 100000 in
theorem rf_code331 : (Jvm.Cond.code (⟨"RelayHallModel", "cancel", "(LRelayHallModel$Consumer;)V"⟩ : Jvm.MethodName) prog_14_method_41_code 2 none).before start1.args0 rf_s = true := su_hand_word (m := ⟨10, 39⟩) (by decide +kernel) rfl (by decide +kernel) (by decide +kernel)
set_option maxRecDepth 100000 in
theorem rf_code332 : (Jvm.Cond.code (⟨"RelayHallModel", "takeOut", "(LRelayHallModel$Consumer;)V"⟩ : Jvm.MethodName) prog_14_method_39_code 4 none).before start1.args0 rf_s = true := su_hand_word (m := ⟨10, 37⟩) (by decide +kernel) rfl (by decide +kernel) (by decide +kernel)
set_option maxRecDepth 100000 in
theorem rf_code333 : (Jvm.Cond.code (⟨"RelayHallModel", "consumersOf", "(LRelayHallModel$Queue;)I"⟩ : Jvm.MethodName) prog_14_method_40_code 4 (some .int)).before start1.args0 rf_s = true := su_hand_word (m := ⟨10, 38⟩) (by decide +kernel) rfl (by decide +kernel) (by decide +kernel)
set_option maxRecDepth 100000 in
theorem rf_code334 : (Jvm.Cond.code (⟨"RelayHallModel", "delete", "(LRelayHallModel$Queue;)V"⟩ : Jvm.MethodName) prog_14_method_54_code 7 none).before start1.args0 rf_s = true := su_hand_word (m := ⟨10, 52⟩) (by decide +kernel) rfl (by decide +kernel) (by decide +kernel)
set_option maxRecDepth 100000 in
theorem rf_code335 : (Jvm.Cond.code (⟨"RelayHallModel$Queue", "kept", "()Z"⟩ : Jvm.MethodName) prog_25_method_2_code 1 (some .boolean)).before start1.args0 rf_s = true := su_hand_word (m := ⟨29, 1⟩) (by decide +kernel) rfl (by decide +kernel) (by decide +kernel)
set_option maxRecDepth 100000 in
theorem rf_code336 : (Jvm.Cond.code (⟨"RelayHallModel", "tell", "(ILRelayHallModel$Exchange;LRelayHallModel$Queue;LRelayHallModel$Binding;LRelayHallModel$Entry;)V"⟩ : Jvm.MethodName) prog_14_method_42_code 8 none).before start1.args0 rf_s = true := su_hand_word (m := ⟨10, 40⟩) (by decide +kernel) rfl (by decide +kernel) (by decide +kernel)
set_option maxRecDepth 100000 in
theorem rf_code337 : (Jvm.Cond.code (⟨"RelayHallModel$Fact", "<init>", "()V"⟩ : Jvm.MethodName) prog_23_method_1_code 1 none).before start1.args0 rf_s = true := su_hand_word (m := ⟨23, 0⟩) (by decide +kernel) rfl (by decide +kernel) (by decide +kernel)
set_option maxRecDepth 100000 in
theorem rf_code338 : (Jvm.Cond.code (⟨"RelayHallModel", "bindingsOf", "(LRelayHallModel$Exchange;LRelayHallModel$Queue;)I"⟩ : Jvm.MethodName) prog_14_method_51_code 5 (some .int)).before start1.args0 rf_s = true := su_hand_word (m := ⟨10, 49⟩) (by decide +kernel) rfl (by decide +kernel) (by decide +kernel)
set_option maxRecDepth 100000 in
theorem rf_code339 : (Jvm.Cond.code (⟨"RelayHallModel", "takeBinding", "(I)V"⟩ : Jvm.MethodName) prog_14_method_52_code 3 none).before start1.args0 rf_s = true := su_hand_word (m := ⟨10, 50⟩) (by decide +kernel) rfl (by decide +kernel) (by decide +kernel)
set_option maxRecDepth 100000 in
theorem rf_code340 : (Jvm.Cond.code (⟨"RelayHallModel", "delete", "(LRelayHallModel$Exchange;)V"⟩ : Jvm.MethodName) prog_14_method_53_code 4 none).before start1.args0 rf_s = true := su_hand_word (m := ⟨10, 51⟩) (by decide +kernel) rfl (by decide +kernel) (by decide +kernel)
set_option maxRecDepth 100000 in
theorem rf_code341 : (Jvm.Cond.code (⟨"RelayHallModel", "speaks", "(LRelayHallModel$Channel;)Z"⟩ : Jvm.MethodName) prog_14_method_30_code 1 (some .boolean)).before start1.args0 rf_s = true := su_hand_word (m := ⟨10, 28⟩) (by decide +kernel) rfl (by decide +kernel) (by decide +kernel)
set_option maxRecDepth 100000 in
theorem rf_code342 : (Jvm.Cond.code (⟨"RelayHallModel", "sendCancel", "(LRelayHallModel$Consumer;)V"⟩ : Jvm.MethodName) prog_14_method_55_code 2 none).before start1.args0 rf_s = true := su_hand_word (m := ⟨10, 53⟩) (by decide +kernel) rfl (by decide +kernel) (by decide +kernel)
set_option maxRecDepth 100000 in
theorem rf_code343 : (Jvm.Cond.code (⟨"RelayHallModel", "putShort", "([B)V"⟩ : Jvm.MethodName) prog_14_method_22_code 2 none).before start1.args0 rf_s = true := su_hand_word (m := ⟨10, 20⟩) (by decide +kernel) rfl (by decide +kernel) (by decide +kernel)
set_option maxRecDepth 100000 in
theorem rf_code344 : (Jvm.Cond.code (⟨"RelayHallModel", "putBytes", "([B)V"⟩ : Jvm.MethodName) prog_14_method_21_code 3 none).before start1.args0 rf_s = true := su_hand_word (m := ⟨10, 19⟩) (by decide +kernel) rfl (by decide +kernel) (by decide +kernel)
set_option maxRecDepth 100000 in
theorem rf_code345 : (Jvm.Cond.code (⟨"RelayHallModel", "take", "(LRelayHallModel$Channel;I)LRelayHallModel$Sent;"⟩ : Jvm.MethodName) prog_14_method_38_code 5 (some (.object "RelayHallModel$Sent"))).before start1.args0 rf_s = true := su_hand_word (m := ⟨10, 36⟩) (by decide +kernel) rfl (by decide +kernel) (by decide +kernel)
set_option maxRecDepth 100000 in
theorem rf_code346 : (Jvm.Cond.code (⟨"RelayHallModel", "requeue", "(LRelayHallModel$Entry;)V"⟩ : Jvm.MethodName) prog_14_method_66_code 2 none).before start1.args0 rf_s = true := su_hand_word (m := ⟨10, 64⟩) (by decide +kernel) rfl (by decide +kernel) (by decide +kernel)
set_option maxRecDepth 100000 in
theorem rf_code347 : (Jvm.Cond.code (⟨"RelayHallModel", "shorten", "(LRelayHallModel$Queue;)V"⟩ : Jvm.MethodName) prog_14_method_64_code 2 none).before start1.args0 rf_s = true := su_hand_word (m := ⟨10, 62⟩) (by decide +kernel) rfl (by decide +kernel) (by decide +kernel)
set_option maxRecDepth 100000 in
theorem rf_code348 : (Jvm.Cond.code (⟨"RelayHallModel", "ready", "(LRelayHallModel$Queue;)I"⟩ : Jvm.MethodName) prog_14_method_56_code 4 (some .int)).before start1.args0 rf_s = true := su_hand_word (m := ⟨10, 54⟩) (by decide +kernel) rfl (by decide +kernel) (by decide +kernel)
set_option maxRecDepth 100000 in
theorem rf_code349 : (Jvm.Cond.code (⟨"RelayHallModel", "first", "(LRelayHallModel$Queue;)LRelayHallModel$Entry;"⟩ : Jvm.MethodName) prog_14_method_59_code 4 (some (.object "RelayHallModel$Entry"))).before start1.args0 rf_s = true := su_hand_word (m := ⟨10, 57⟩) (by decide +kernel) rfl (by decide +kernel) (by decide +kernel)
set_option maxRecDepth 100000 in
theorem rf_code350 : (Jvm.Cond.code (⟨"RelayHallModel", "ahead", "(LRelayHallModel$Queue;LRelayHallModel$Entry;LRelayHallModel$Entry;)Z"⟩ : Jvm.MethodName) prog_14_method_58_code 5 (some .boolean)).before start1.args0 rf_s = true := su_hand_word (m := ⟨10, 56⟩) (by decide +kernel) rfl (by decide +kernel) (by decide +kernel)
set_option maxRecDepth 100000 in
theorem rf_code351 : (Jvm.Cond.code (⟨"RelayHallModel", "priority", "(LRelayHallModel$Queue;LRelayHallModel$Entry;)I"⟩ : Jvm.MethodName) prog_14_method_57_code 2 (some .int)).before start1.args0 rf_s = true := su_hand_word (m := ⟨10, 55⟩) (by decide +kernel) rfl (by decide +kernel) (by decide +kernel)
set_option maxRecDepth 100000 in
theorem rf_code352 : (Jvm.Cond.code (⟨"RelayHallModel", "dies", "(LRelayHallModel$Entry;)V"⟩ : Jvm.MethodName) prog_14_method_63_code 4 none).before start1.args0 rf_s = true := su_hand_word (m := ⟨10, 61⟩) (by decide +kernel) rfl (by decide +kernel) (by decide +kernel)
set_option maxRecDepth 100000 in
theorem rf_code353 : (Jvm.Cond.code (⟨"RelayHallModel", "leaves", "(LRelayHallModel$Entry;)V"⟩ : Jvm.MethodName) prog_14_method_62_code 5 none).before start1.args0 rf_s = true := su_hand_word (m := ⟨10, 60⟩) (by decide +kernel) rfl (by decide +kernel) (by decide +kernel)
set_option maxRecDepth 100000 in
theorem rf_code354 : (Jvm.Cond.code (⟨"RelayHallModel", "recorded", "(LRelayHallModel$Queue;LRelayHallModel$Content;)Z"⟩ : Jvm.MethodName) prog_14_method_61_code 3 (some .boolean)).before start1.args0 rf_s = true := su_hand_word (m := ⟨10, 59⟩) (by decide +kernel) rfl (by decide +kernel) (by decide +kernel)
set_option maxRecDepth 100000 in
theorem rf_code355 : (Jvm.Cond.code (⟨"RelayHallModel$Dead", "<init>", "()V"⟩ : Jvm.MethodName) prog_20_method_1_code 1 none).before start1.args0 rf_s = true := su_hand_word (m := ⟨24, 0⟩) (by decide +kernel) rfl (by decide +kernel) (by decide +kernel)
set_option maxRecDepth 100000 in
theorem rf_code356 : (Jvm.Cond.code (⟨"RelayHallModel", "word", "([BII)I"⟩ : Jvm.MethodName) prog_14_method_146_code 5 (some .int)).before start1.args0 rf_s = true := su_hand_word (m := ⟨10, 144⟩) (by decide +kernel) rfl (by decide +kernel) (by decide +kernel)
set_option maxRecDepth 100000 in
theorem rf_code357 : (Jvm.Cond.code (⟨"RelayHallModel", "noFrame", "(LRelayHallModel$Connection;)V"⟩ : Jvm.MethodName) prog_14_method_143_code 2 none).before start1.args0 rf_s = true := su_hand_word (m := ⟨10, 141⟩) (by decide +kernel) rfl (by decide +kernel) (by decide +kernel)
set_option maxRecDepth 100000 in
theorem rf_code358 : (Jvm.Cond.code (⟨"RelayHallModel", "hard", "(LRelayHallModel$Connection;III)V"⟩ : Jvm.MethodName) prog_14_method_32_code 5 none).before start1.args0 rf_s = true := su_hand_word (m := ⟨10, 30⟩) (by decide +kernel) rfl (by decide +kernel) (by decide +kernel)
set_option maxRecDepth 100000 in
theorem rf_code359 : (Jvm.Cond.code (⟨"RelayHallModel", "putClose", "(IIIIII)V"⟩ : Jvm.MethodName) prog_14_method_31_code 7 none).before start1.args0 rf_s = true := su_hand_word (m := ⟨10, 29⟩) (by decide +kernel) rfl (by decide +kernel) (by decide +kernel)
set_option maxRecDepth 100000 in
theorem rf_code360 : (Jvm.Cond.code (⟨"RelayHallModel", "dispatch", "()V"⟩ : Jvm.MethodName) prog_14_method_86_code 2 none).before start1.args0 rf_s = true := su_hand_word (m := ⟨10, 84⟩) (by decide +kernel) rfl (by decide +kernel) (by decide +kernel)
set_option maxRecDepth 100000 in
theorem rf_code361 : (Jvm.Cond.code (⟨"RelayHallModel", "dispatchOne", "()Z"⟩ : Jvm.MethodName) prog_14_method_85_code 3 (some .boolean)).before start1.args0 rf_s = true := su_hand_word (m := ⟨10, 83⟩) (by decide +kernel) rfl (by decide +kernel) (by decide +kernel)
set_option maxRecDepth 100000 in
theorem rf_code362 : (Jvm.Cond.code (⟨"RelayHallModel", "bury", "()V"⟩ : Jvm.MethodName) prog_14_method_75_code 7 none).before start1.args0 rf_s = true := su_hand_word (m := ⟨10, 73⟩) (by decide +kernel) rfl (by decide +kernel) (by decide +kernel)
set_option maxRecDepth 100000 in
theorem rf_code363 : (Jvm.Cond.code (⟨"RelayHallModel", "exchange", "([B)LRelayHallModel$Exchange;"⟩ : Jvm.MethodName) prog_14_method_49_code 3 (some (.object "RelayHallModel$Exchange"))).before start1.args0 rf_s = true := su_hand_word (m := ⟨10, 47⟩) (by decide +kernel) rfl (by decide +kernel) (by decide +kernel)
set_option maxRecDepth 100000 in
theorem rf_code364 : (Jvm.Cond.code (⟨"RelayHallModel", "same", "([B[B)Z"⟩ : Jvm.MethodName) prog_14_method_11_code 3 (some .boolean)).before start1.args0 rf_s = true := su_hand_word (m := ⟨10, 9⟩) (by decide +kernel) rfl (by decide +kernel) (by decide +kernel)
set_option maxRecDepth 100000 in
theorem rf_code365 : (Jvm.Cond.code (⟨"RelayHallModel", "full", "()Z"⟩ : Jvm.MethodName) prog_14_method_60_code 1 (some .boolean)).before start1.args0 rf_s = true := su_hand_word (m := ⟨10, 58⟩) (by decide +kernel) rfl (by decide +kernel) (by decide +kernel)
set_option maxRecDepth 16384 in
theorem rf_oth_11_0 : (tables_1_11.take 26).all (fun c => su_isCode c || c.before start1.args0 rf_s) = true := by decide +kernel
set_option maxRecDepth 16384 in
theorem rf_oth_11_1 : ((tables_1_11.drop 26).take 26).all (fun c => su_isCode c || c.before start1.args0 rf_s) = true := by decide +kernel
set_option maxRecDepth 16384 in
theorem rf_oth_11_2 : (((tables_1_11.drop 26).drop 26).take 26).all (fun c => su_isCode c || c.before start1.args0 rf_s) = true := by decide +kernel
set_option maxRecDepth 16384 in
theorem rf_oth_11_3 : ((((tables_1_11.drop 26).drop 26).drop 26).take 44).all (fun c => su_isCode c || c.before start1.args0 rf_s) = true := by decide +kernel
set_option maxRecDepth 16384 in
theorem rf_oth_11_4 : (((((tables_1_11.drop 26).drop 26).drop 26).drop 44).take 26).all (fun c => su_isCode c || c.before start1.args0 rf_s) = true := by decide +kernel
set_option maxRecDepth 16384 in
theorem rf_oth_11_5 : ((((((tables_1_11.drop 26).drop 26).drop 26).drop 44).drop 26).take 26).all (fun c => su_isCode c || c.before start1.args0 rf_s) = true := by decide +kernel
set_option maxRecDepth 16384 in
theorem rf_oth_11_6 : (((((((tables_1_11.drop 26).drop 26).drop 26).drop 44).drop 26).drop 26).take 37).all (fun c => su_isCode c || c.before start1.args0 rf_s) = true := by decide +kernel
set_option maxRecDepth 16384 in
theorem rf_oth_11_7 : ((((((((tables_1_11.drop 26).drop 26).drop 26).drop 44).drop 26).drop 26).drop 37).take 26).all (fun c => su_isCode c || c.before start1.args0 rf_s) = true := by decide +kernel
set_option maxRecDepth 16384 in
theorem rf_oth_11_8 : (((((((((tables_1_11.drop 26).drop 26).drop 26).drop 44).drop 26).drop 26).drop 37).drop 26)).all (fun c => su_isCode c || c.before start1.args0 rf_s) = true := by decide +kernel
theorem rf_words_11 : ∀ c ∈ tables_1_11, c.before start1.args0 rf_s = true := fun c h => su_words ((start1.su_all_split _ 26 tables_1_11 rf_oth_11_0 (start1.su_all_split _ 26 (tables_1_11.drop 26) rf_oth_11_1 (start1.su_all_split _ 26 ((tables_1_11.drop 26).drop 26) rf_oth_11_2 (start1.su_all_split _ 44 (((tables_1_11.drop 26).drop 26).drop 26) rf_oth_11_3 (start1.su_all_split _ 26 ((((tables_1_11.drop 26).drop 26).drop 26).drop 44) rf_oth_11_4 (start1.su_all_split _ 26 (((((tables_1_11.drop 26).drop 26).drop 26).drop 44).drop 26) rf_oth_11_5 (start1.su_all_split _ 37 ((((((tables_1_11.drop 26).drop 26).drop 26).drop 44).drop 26).drop 26) rf_oth_11_6 (start1.su_all_split _ 26 (((((((tables_1_11.drop 26).drop 26).drop 26).drop 44).drop 26).drop 26).drop 37) rf_oth_11_7 rf_oth_11_8))))))))) (by
  rw [start1.codes_are_11]
  exact (List.forall_mem_cons.mpr ⟨rf_code312, (List.forall_mem_cons.mpr ⟨rf_code313, (List.forall_mem_cons.mpr ⟨rf_code314, (List.forall_mem_cons.mpr ⟨rf_code315, (List.forall_mem_cons.mpr ⟨rf_code316, (List.forall_mem_cons.mpr ⟨rf_code317, (List.forall_mem_cons.mpr ⟨rf_code318, (List.forall_mem_cons.mpr ⟨rf_code319, (List.forall_mem_cons.mpr ⟨rf_code320, (List.forall_mem_cons.mpr ⟨rf_code321, (List.forall_mem_cons.mpr ⟨rf_code322, (List.forall_mem_cons.mpr ⟨rf_code323, (List.forall_mem_cons.mpr ⟨rf_code324, (List.forall_mem_cons.mpr ⟨rf_code325, (List.forall_mem_cons.mpr ⟨rf_code326, (List.forall_mem_cons.mpr ⟨rf_code327, (List.forall_mem_cons.mpr ⟨rf_code328, (List.forall_mem_cons.mpr ⟨rf_code329, (List.forall_mem_cons.mpr ⟨rf_code330, (List.forall_mem_cons.mpr ⟨rf_code331, (List.forall_mem_cons.mpr ⟨rf_code332, (List.forall_mem_cons.mpr ⟨rf_code333, (List.forall_mem_cons.mpr ⟨rf_code334, (List.forall_mem_cons.mpr ⟨rf_code335, (List.forall_mem_cons.mpr ⟨rf_code336, (List.forall_mem_cons.mpr ⟨rf_code337, (List.forall_mem_cons.mpr ⟨rf_code338, (List.forall_mem_cons.mpr ⟨rf_code339, (List.forall_mem_cons.mpr ⟨rf_code340, (List.forall_mem_cons.mpr ⟨rf_code341, (List.forall_mem_cons.mpr ⟨rf_code342, (List.forall_mem_cons.mpr ⟨rf_code343, (List.forall_mem_cons.mpr ⟨rf_code344, (List.forall_mem_cons.mpr ⟨rf_code345, (List.forall_mem_cons.mpr ⟨rf_code346, (List.forall_mem_cons.mpr ⟨rf_code347, (List.forall_mem_cons.mpr ⟨rf_code348, (List.forall_mem_cons.mpr ⟨rf_code349, (List.forall_mem_cons.mpr ⟨rf_code350, (List.forall_mem_cons.mpr ⟨rf_code351, (List.forall_mem_cons.mpr ⟨rf_code352, (List.forall_mem_cons.mpr ⟨rf_code353, (List.forall_mem_cons.mpr ⟨rf_code354, (List.forall_mem_cons.mpr ⟨rf_code355, (List.forall_mem_cons.mpr ⟨rf_code356, (List.forall_mem_cons.mpr ⟨rf_code357, (List.forall_mem_cons.mpr ⟨rf_code358, (List.forall_mem_cons.mpr ⟨rf_code359, (List.forall_mem_cons.mpr ⟨rf_code360, (List.forall_mem_cons.mpr ⟨rf_code361, (List.forall_mem_cons.mpr ⟨rf_code362, (List.forall_mem_cons.mpr ⟨rf_code363, (List.forall_mem_cons.mpr ⟨rf_code364, (List.forall_mem_cons.mpr ⟨rf_code365, (fun _ h => absurd h List.not_mem_nil)⟩)⟩)⟩)⟩)⟩)⟩)⟩)⟩)⟩)⟩)⟩)⟩)⟩)⟩)⟩)⟩)⟩)⟩)⟩)⟩)⟩)⟩)⟩)⟩)⟩)⟩)⟩)⟩)⟩)⟩)⟩)⟩)⟩)⟩)⟩)⟩)⟩)⟩)⟩)⟩)⟩)⟩)⟩)⟩)⟩)⟩)⟩)⟩)⟩)⟩)⟩)⟩)⟩)⟩)) c h
end XW11
