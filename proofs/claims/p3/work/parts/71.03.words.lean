section XW3
set_option maxRecDepth 100000 in
theorem rf_code27 : (Jvm.Cond.code (⟨"RelayHall", "answerNumber", "(LRelayHall$Channel;IJI)V"⟩ : Jvm.MethodName) prog_1_method_33_code 6 none).before start1.args0 rf_s = true := su_hand_word (m := ⟨2, 32⟩) (by decide +kernel) rfl (by decide +kernel) (by decide +kernel)
set_option maxRecDepth 100000 in
theorem rf_code28 : (Jvm.Cond.code (⟨"RelayHall$Connection", "method", "(II)V"⟩ : Jvm.MethodName) prog_4_method_14_code 3 none).before start1.args0 rf_s = true := su_hand_word (m := ⟨8, 13⟩) (by decide +kernel) rfl (by decide +kernel) (by decide +kernel)
set_option maxRecDepth 100000 in
theorem rf_code29 : (Jvm.Cond.code (⟨"RelayHall$Connection", "put", "(JI)V"⟩ : Jvm.MethodName) prog_4_method_12_code 6 none).before start1.args0 rf_s = true := su_hand_word (m := ⟨8, 11⟩) (by decide +kernel) rfl (by decide +kernel) (by decide +kernel)
set_option maxRecDepth 100000 in
theorem rf_code30 : (Jvm.Cond.code (⟨"RelayHall$Connection", "end", "()V"⟩ : Jvm.MethodName) prog_4_method_18_code 4 none).before start1.args0 rf_s = true := su_hand_word (m := ⟨8, 17⟩) (by decide +kernel) rfl (by decide +kernel) (by decide +kernel)
set_option maxRecDepth 100000 in
theorem rf_code31 : (Jvm.Cond.code (⟨"RelayHall", "ship", "(LRelayHall$Connection;)V"⟩ : Jvm.MethodName) prog_1_method_29_code 2 none).before start1.args0 rf_s = true := su_hand_word (m := ⟨2, 28⟩) (by decide +kernel) rfl (by decide +kernel) (by decide +kernel)
set_option maxRecDepth 100000 in
theorem rf_code32 : (Jvm.Cond.code (⟨"RelayHall$Connection", "fits", "()Z"⟩ : Jvm.MethodName) prog_4_method_19_code 2 (some .boolean)).before start1.args0 rf_s = true := su_hand_word (m := ⟨8, 18⟩) (by decide +kernel) rfl (by decide +kernel) (by decide +kernel)
set_option maxRecDepth 100000 in
theorem rf_code33 : (Jvm.Cond.code (⟨"RelayHall", "close", "(LRelayHall$Connection;)V"⟩ : Jvm.MethodName) prog_1_method_30_code 2 none).before start1.args0 rf_s = true := su_hand_word (m := ⟨2, 29⟩) (by decide +kernel) rfl (by decide +kernel) (by decide +kernel)
set_option maxRecDepth 100000 in
theorem rf_code34 : (Jvm.Cond.code (⟨"java/util/ArrayList", "add", "(Ljava/lang/Object;)Z"⟩ : Jvm.MethodName) prog_50_method_25_code 2 (some .boolean)).before start1.args0 rf_s = true := su_hand_word (m := ⟨57, 8⟩) (by decide +kernel) rfl (by decide +kernel) (by decide +kernel)
set_option maxRecDepth 100000 in
theorem rf_code35 : (Jvm.Cond.code (⟨"java/util/ArrayList", "add", "(Ljava/lang/Object;[Ljava/lang/Object;I)V"⟩ : Jvm.MethodName) prog_50_method_24_code 4 none).before start1.args0 rf_s = true := su_hand_word (m := ⟨57, 7⟩) (by decide +kernel) rfl (by decide +kernel) (by decide +kernel)
set_option maxRecDepth 100000 in
theorem rf_code36 : (Jvm.Cond.code (⟨"java/util/ArrayList", "grow", "()[Ljava/lang/Object;"⟩ : Jvm.MethodName) prog_50_method_7_code 1 (some (.array (.object "java/lang/Object")))).before start1.args0 rf_s = true := su_hand_word (m := ⟨57, 2⟩) (by decide +kernel) rfl (by decide +kernel) (by decide +kernel)
set_option maxRecDepth 100000 in
theorem rf_code37 : (Jvm.Cond.code (⟨"java/util/ArrayList", "grow", "(I)[Ljava/lang/Object;"⟩ : Jvm.MethodName) prog_50_method_6_code 4 (some (.array (.object "java/lang/Object")))).before start1.args0 rf_s = true := su_hand_word (m := ⟨57, 1⟩) (by decide +kernel) rfl (by decide +kernel) (by decide +kernel)
set_option maxRecDepth 100000 in
theorem rf_code38 : (Jvm.Cond.code (⟨"jdk/internal/util/ArraysSupport", "newLength", "(III)I"⟩ : Jvm.MethodName) prog_58_method_27_code 4 (some .int)).before start1.args0 rf_s = true := su_hand_word (m := ⟨13, 0⟩) (by decide +kernel) rfl (by decide +kernel) (by decide +kernel)
set_option maxRecDepth 100000 in
theorem rf_code39 : (Jvm.Cond.code (⟨"java/lang/Math", "max", "(II)I"⟩ : Jvm.MethodName) prog_38_method_65_code 2 (some .int)).before start1.args0 rf_s = true := su_hand_word (m := ⟨14, 0⟩) (by decide +kernel) rfl (by decide +kernel) (by decide +kernel)
set_option maxRecDepth 100000 in
theorem rf_code40 : (Jvm.Cond.code (⟨"jdk/internal/util/ArraysSupport", "hugeLength", "(II)I"⟩ : Jvm.MethodName) prog_58_method_28_code 3 (some .int)).before start1.args0 rf_s = true := su_hand_word (m := ⟨13, 1⟩) (by decide +kernel) rfl (by decide +kernel) (by decide +kernel)
set_option maxRecDepth 100000 in
theorem rf_code41 : (Jvm.Cond.code (⟨"java/util/Arrays", "copyOf", "([Ljava/lang/Object;I)[Ljava/lang/Object;"⟩ : Jvm.MethodName) prog_51_method_119_code 2 (some (.array (.object "java/lang/Object")))).before start1.args0 rf_s = true := su_hand_word (m := ⟨15, 2⟩) (by decide +kernel) rfl (by decide +kernel) (by decide +kernel)
set_option maxRecDepth 100000 in
theorem rf_code42 : (Jvm.Cond.code (⟨"java/util/Arrays", "copyOf", "([Ljava/lang/Object;ILjava/lang/Class;)[Ljava/lang/Object;"⟩ : Jvm.MethodName) prog_51_method_120_code 4 (some (.array (.object "java/lang/Object")))).before start1.args0 rf_s = true := su_hand_word (m := ⟨15, 3⟩) (by decide +kernel) rfl (by decide +kernel) (by decide +kernel)
set_option maxRecDepth 100000 in
theorem rf_code43 : (Jvm.Cond.code (⟨"java/lang/Math", "min", "(II)I"⟩ : Jvm.MethodName) prog_38_method_69_code 2 (some .int)).before start1.args0 rf_s = true := su_hand_word (m := ⟨14, 1⟩) (by decide +kernel) rfl (by decide +kernel) (by decide +kernel)
set_option maxRecDepth 100000 in
theorem rf_code44 : (Jvm.Cond.code (⟨"RelayHall", "takeNoFrame", "(LRelayHall$Connection;)V"⟩ : Jvm.MethodName) prog_1_method_43_code 2 none).before start1.args0 rf_s = true := su_hand_word (m := ⟨2, 42⟩) (by decide +kernel) rfl (by decide +kernel) (by decide +kernel)
set_option maxRecDepth 100000 in
theorem rf_code45 : (Jvm.Cond.code (⟨"RelayHall", "hard", "(LRelayHall$Connection;I)V"⟩ : Jvm.MethodName) prog_1_method_35_code 3 none).before start1.args0 rf_s = true := su_hand_word (m := ⟨2, 34⟩) (by decide +kernel) rfl (by decide +kernel) (by decide +kernel)
set_option maxRecDepth 100000 in
theorem rf_code46 : (Jvm.Cond.code (⟨"RelayHall", "draftError", "(LRelayHall$Connection;III)V"⟩ : Jvm.MethodName) prog_1_method_34_code 5 none).before start1.args0 rf_s = true := su_hand_word (m := ⟨2, 33⟩) (by decide +kernel) rfl (by decide +kernel) (by decide +kernel)
set_option maxRecDepth 100000 in
theorem rf_code47 : (Jvm.Cond.code (⟨"RelayHall", "takeWhileClosing", "(LRelayHall$Connection;)V"⟩ : Jvm.MethodName) prog_1_method_44_code 2 none).before start1.args0 rf_s = true := su_hand_word (m := ⟨2, 43⟩) (by decide +kernel) rfl (by decide +kernel) (by decide +kernel)
set_option maxRecDepth 100000 in
theorem rf_code48 : (Jvm.Cond.code (⟨"RelayHall$Connection", "frameChannel", "()I"⟩ : Jvm.MethodName) prog_4_method_9_code 1 (some .int)).before start1.args0 rf_s = true := su_hand_word (m := ⟨8, 8⟩) (by decide +kernel) rfl (by decide +kernel) (by decide +kernel)
set_option maxRecDepth 100000 in
theorem rf_code49 : (Jvm.Cond.code (⟨"RelayHall$Connection", "frameMethod", "()I"⟩ : Jvm.MethodName) prog_4_method_11_code 1 (some .int)).before start1.args0 rf_s = true := su_hand_word (m := ⟨8, 10⟩) (by decide +kernel) rfl (by decide +kernel) (by decide +kernel)
set_option maxRecDepth 100000 in
theorem rf_code50 : (Jvm.Cond.code (⟨"RelayHall", "answer", "(LRelayHall$Channel;I)V"⟩ : Jvm.MethodName) prog_1_method_31_code 3 none).before start1.args0 rf_s = true := su_hand_word (m := ⟨2, 30⟩) (by decide +kernel) rfl (by decide +kernel) (by decide +kernel)
set_option maxRecDepth 100000 in
theorem rf_code51 : (Jvm.Cond.code (⟨"RelayHall$Connection", "isIdleBeat", "()Z"⟩ : Jvm.MethodName) prog_4_method_8_code 1 (some .boolean)).before start1.args0 rf_s = true := su_hand_word (m := ⟨8, 7⟩) (by decide +kernel) rfl (by decide +kernel) (by decide +kernel)
set_option maxRecDepth 100000 in
theorem rf_code52 : (Jvm.Cond.code (⟨"RelayHall", "shakeHands", "(LRelayHall$Connection;)V"⟩ : Jvm.MethodName) prog_1_method_45_code 3 none).before start1.args0 rf_s = true := su_hand_word (m := ⟨2, 44⟩) (by decide +kernel) rfl (by decide +kernel) (by decide +kernel)
set_option maxRecDepth 100000 in
theorem rf_code53 : (Jvm.Cond.code (⟨"RelayHall$Reader", "over", "([BII)V"⟩ : Jvm.MethodName) prog_11_method_2_code 4 none).before start1.args0 rf_s = true := su_hand_word (m := ⟨5, 1⟩) (by decide +kernel) rfl (by decide +kernel) (by decide +kernel)
set_option maxRecDepth 100000 in
theorem rf_code54 : (Jvm.Cond.code (⟨"RelayHall", "takeStart", "(LRelayHall$Connection;)V"⟩ : Jvm.MethodName) prog_1_method_46_code 2 none).before start1.args0 rf_s = true := su_hand_word (m := ⟨2, 45⟩) (by decide +kernel) rfl (by decide +kernel) (by decide +kernel)
set_option maxRecDepth 100000 in
theorem rf_code55 : (Jvm.Cond.code (⟨"RelayHall$Reader", "shortText", "()Ljava/lang/String;"⟩ : Jvm.MethodName) prog_11_method_8_code 1 (some (.object "java/lang/String"))).before start1.args0 rf_s = true := su_hand_word (m := ⟨5, 7⟩) (by decide +kernel) rfl (by decide +kernel) (by decide +kernel)
set_option maxRecDepth 100000 in
theorem rf_code56 : (Jvm.Cond.code (⟨"RelayHall$Reader", "u8", "()I"⟩ : Jvm.MethodName) prog_11_method_4_code 1 (some .int)).before start1.args0 rf_s = true := su_hand_word (m := ⟨5, 3⟩) (by decide +kernel) rfl (by decide +kernel) (by decide +kernel)
set_option maxRecDepth 100000 in
theorem rf_code57 : (Jvm.Cond.code (⟨"RelayHall$Reader", "number", "(I)J"⟩ : Jvm.MethodName) prog_11_method_3_code 5 (some .long)).before start1.args0 rf_s = true := su_hand_word (m := ⟨5, 2⟩) (by decide +kernel) rfl (by decide +kernel) (by decide +kernel)
set_option maxRecDepth 100000 in
theorem rf_code58 : (Jvm.Cond.code (⟨"RelayHall$Reader", "text", "(JI)Ljava/lang/String;"⟩ : Jvm.MethodName) prog_11_method_7_code 6 (some (.object "java/lang/String"))).before start1.args0 rf_s = true := su_hand_word (m := ⟨5, 6⟩) (by decide +kernel) rfl (by decide +kernel) (by decide +kernel)
set_option maxRecDepth 100000 in
theorem rf_code59 : (Jvm.Cond.code (⟨"java/lang/String", "<init>", "([C)V"⟩ : Jvm.MethodName) prog_41_method_3_code 2 none).before start1.args0 rf_s = true := su_hand_word (m := ⟨40, 0⟩) (by decide +kernel) rfl (by decide +kernel) (by decide +kernel)
set_option maxRecDepth 100000 in
theorem rf_code60 : (Jvm.Cond.code (⟨"java/lang/String", "<init>", "([CIILjava/lang/Void;)V"⟩ : Jvm.MethodName) prog_41_method_149_code 6 none).before start1.args0 rf_s = true := su_hand_word (m := ⟨40, 8⟩) (by decide +kernel) rfl (by decide +kernel) (by decide +kernel)
set_option maxRecDepth 100000 in
theorem rf_code61 : (Jvm.Cond.code (⟨"java/lang/StringUTF16", "compress", "([CII)[B"⟩ : Jvm.MethodName) prog_45_method_16_code 6 (some (.array .byte))).before start1.args0 rf_s = true := su_hand_word (m := ⟨7, 7⟩) (by decide +kernel) rfl (by decide +kernel) (by decide +kernel)
set_option maxRecDepth 100000 in
theorem rf_code62 : (Jvm.Cond.code (⟨"java/lang/StringUTF16", "compress", "([CI[BII)I"⟩ : Jvm.MethodName) prog_45_method_21_code 7 (some .int)).before start1.args0 rf_s = true := su_hand_word (m := ⟨7, 9⟩) (by decide +kernel) rfl (by decide +kernel) (by decide +kernel)
set_option maxRecDepth 100000 in
theorem rf_code63 : (Jvm.Cond.code (⟨"java/lang/StringUTF16", "toBytes", "([CII)[B"⟩ : Jvm.MethodName) prog_45_method_14_code 5 (some (.array .byte))).before start1.args0 rf_s = true := su_hand_word (m := ⟨7, 5⟩) (by decide +kernel) rfl (by decide +kernel) (by decide +kernel)
set_option maxRecDepth 100000 in
theorem rf_code64 : (Jvm.Cond.code (⟨"java/lang/StringUTF16", "putChar", "([BII)V"⟩ : Jvm.MethodName) prog_45_method_4_code 3 none).before start1.args0 rf_s = true := su_hand_word (m := ⟨7, 2⟩) (by decide +kernel) rfl (by decide +kernel) (by decide +kernel)
set_option maxRecDepth 100000 in
theorem rf_code65 : (Jvm.Cond.code (⟨"java/lang/StringUTF16", "length", "([B)I"⟩ : Jvm.MethodName) prog_45_method_6_code 1 (some .int)).before start1.args0 rf_s = true := su_hand_word (m := ⟨7, 4⟩) (by decide +kernel) rfl (by decide +kernel) (by decide +kernel)
set_option maxRecDepth 100000 in
theorem rf_code66 : (Jvm.Cond.code (⟨"java/lang/StringUTF16", "getChar", "([BI)C"⟩ : Jvm.MethodName) prog_45_method_5_code 2 (some .char)).before start1.args0 rf_s = true := su_hand_word (m := ⟨7, 3⟩) (by decide +kernel) rfl (by decide +kernel) (by decide +kernel)
set_option maxRecDepth 100000 in
theorem rf_code67 : (Jvm.Cond.code (⟨"java/lang/StringUTF16", "compress", "([BI[BII)I"⟩ : Jvm.MethodName) prog_45_method_22_code 7 (some .int)).before start1.args0 rf_s = true := su_hand_word (m := ⟨7, 10⟩) (by decide +kernel) rfl (by decide +kernel) (by decide +kernel)
set_option maxRecDepth 100000 in
theorem rf_code68 : (Jvm.Cond.code (⟨"java/lang/StringUTF16", "checkBoundsOffCount", "(II[B)V"⟩ : Jvm.MethodName) prog_45_method_94_code 3 none).before start1.args0 rf_s = true := su_hand_word (m := ⟨7, 20⟩) (by decide +kernel) rfl (by decide +kernel) (by decide +kernel)
set_option maxRecDepth 100000 in
theorem rf_code69 : (Jvm.Cond.code (⟨"java/lang/String", "checkBoundsOffCount", "(III)I"⟩ : Jvm.MethodName) prog_41_method_157_code 3 (some .int)).before start1.args0 rf_s = true := su_hand_word (m := ⟨40, 14⟩) (by decide +kernel) rfl (by decide +kernel) (by decide +kernel)
set_option maxRecDepth 100000 in
theorem rf_code70 : (Jvm.Cond.code (⟨"jdk/internal/util/Preconditions", "checkFromIndexSize", "(IIILjava/util/function/BiFunction;)I"⟩ : Jvm.MethodName) prog_59_method_13_code 4 (some .int)).before start1.args0 rf_s = true := su_hand_word (m := ⟨17, 2⟩) (by decide +kernel) rfl (by decide +kernel) (by decide +kernel)
set_option maxRecDepth 100000 in
theorem rf_code71 : (Jvm.Cond.code (⟨"java/lang/StringUTF16", "coderFromArrayLen", "([BI)B"⟩ : Jvm.MethodName) prog_45_method_15_code 2 (some .byte)).before start1.args0 rf_s = true := su_hand_word (m := ⟨7, 6⟩) (by decide +kernel) rfl (by decide +kernel) (by decide +kernel)
set_option maxRecDepth 16384 in
theorem rf_oth_3_0 : (tables_1_3.take 58).all (fun c => su_isCode c || c.before start1.args0 rf_s) = true := by decide +kernel
set_option maxRecDepth 16384 in
theorem rf_oth_3_1 : ((tables_1_3.drop 58).take 55).all (fun c => su_isCode c || c.before start1.args0 rf_s) = true := by decide +kernel
set_option maxRecDepth 16384 in
theorem rf_oth_3_2 : (((tables_1_3.drop 58).drop 55).take 47).all (fun c => su_isCode c || c.before start1.args0 rf_s) = true := by decide +kernel
set_option maxRecDepth 16384 in
theorem rf_oth_3_3 : ((((tables_1_3.drop 58).drop 55).drop 47).take 44).all (fun c => su_isCode c || c.before start1.args0 rf_s) = true := by decide +kernel
set_option maxRecDepth 16384 in
theorem rf_oth_3_4 : (((((tables_1_3.drop 58).drop 55).drop 47).drop 44).take 34).all (fun c => su_isCode c || c.before start1.args0 rf_s) = true := by decide +kernel
set_option maxRecDepth 16384 in
theorem rf_oth_3_5 : ((((((tables_1_3.drop 58).drop 55).drop 47).drop 44).drop 34)).all (fun c => su_isCode c || c.before start1.args0 rf_s) = true := by decide +kernel
theorem rf_words_3 : ∀ c ∈ tables_1_3, c.before start1.args0 rf_s = true := fun c h => su_words ((start1.su_all_split _ 58 tables_1_3 rf_oth_3_0 (start1.su_all_split _ 55 (tables_1_3.drop 58) rf_oth_3_1 (start1.su_all_split _ 47 ((tables_1_3.drop 58).drop 55) rf_oth_3_2 (start1.su_all_split _ 44 (((tables_1_3.drop 58).drop 55).drop 47) rf_oth_3_3 (start1.su_all_split _ 34 ((((tables_1_3.drop 58).drop 55).drop 47).drop 44) rf_oth_3_4 rf_oth_3_5)))))) (by
  rw [start1.codes_are_3]
  exact (List.forall_mem_cons.mpr ⟨rf_code27, (List.forall_mem_cons.mpr ⟨rf_code28, (List.forall_mem_cons.mpr ⟨rf_code29, (List.forall_mem_cons.mpr ⟨rf_code30, (List.forall_mem_cons.mpr ⟨rf_code31, (List.forall_mem_cons.mpr ⟨rf_code32, (List.forall_mem_cons.mpr ⟨rf_code33, (List.forall_mem_cons.mpr ⟨rf_code34, (List.forall_mem_cons.mpr ⟨rf_code35, (List.forall_mem_cons.mpr ⟨rf_code36, (List.forall_mem_cons.mpr ⟨rf_code37, (List.forall_mem_cons.mpr ⟨rf_code38, (List.forall_mem_cons.mpr ⟨rf_code39, (List.forall_mem_cons.mpr ⟨rf_code40, (List.forall_mem_cons.mpr ⟨rf_code41, (List.forall_mem_cons.mpr ⟨rf_code42, (List.forall_mem_cons.mpr ⟨rf_code43, (List.forall_mem_cons.mpr ⟨rf_code44, (List.forall_mem_cons.mpr ⟨rf_code45, (List.forall_mem_cons.mpr ⟨rf_code46, (List.forall_mem_cons.mpr ⟨rf_code47, (List.forall_mem_cons.mpr ⟨rf_code48, (List.forall_mem_cons.mpr ⟨rf_code49, (List.forall_mem_cons.mpr ⟨rf_code50, (List.forall_mem_cons.mpr ⟨rf_code51, (List.forall_mem_cons.mpr ⟨rf_code52, (List.forall_mem_cons.mpr ⟨rf_code53, (List.forall_mem_cons.mpr ⟨rf_code54, (List.forall_mem_cons.mpr ⟨rf_code55, (List.forall_mem_cons.mpr ⟨rf_code56, (List.forall_mem_cons.mpr ⟨rf_code57, (List.forall_mem_cons.mpr ⟨rf_code58, (List.forall_mem_cons.mpr ⟨rf_code59, (List.forall_mem_cons.mpr ⟨rf_code60, (List.forall_mem_cons.mpr ⟨rf_code61, (List.forall_mem_cons.mpr ⟨rf_code62, (List.forall_mem_cons.mpr ⟨rf_code63, (List.forall_mem_cons.mpr ⟨rf_code64, (List.forall_mem_cons.mpr ⟨rf_code65, (List.forall_mem_cons.mpr ⟨rf_code66, (List.forall_mem_cons.mpr ⟨rf_code67, (List.forall_mem_cons.mpr ⟨rf_code68, (List.forall_mem_cons.mpr ⟨rf_code69, (List.forall_mem_cons.mpr ⟨rf_code70, (List.forall_mem_cons.mpr ⟨rf_code71, (fun _ h => absurd h List.not_mem_nil)⟩)⟩)⟩)⟩)⟩)⟩)⟩)⟩)⟩)⟩)⟩)⟩)⟩)⟩)⟩)⟩)⟩)⟩)⟩)⟩)⟩)⟩)⟩)⟩)⟩)⟩)⟩)⟩)⟩)⟩)⟩)⟩)⟩)⟩)⟩)⟩)⟩)⟩)⟩)⟩)⟩)⟩)⟩)⟩)⟩)) c h
end XW3
